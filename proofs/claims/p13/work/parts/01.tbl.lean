-- the skeleton's PART A (a starting text of the kit), then the words by their places, by my own program
-- ===== PART A: goes FIRST, ahead of the names: the tables' words, and 'selects' of the private methods out of them =====
/-- a private method of a class that the tables say can be made, by its rows of tables_1 -/
def lw_okq (q : MethodName × Nat) : Prop := (q.1.cls ≠ "java/lang/invoke/MethodHandle" ∧ q.1.cls ≠ "java/lang/invoke/VarHandle") ∧ Cond.instantiable q.1.cls q.2 ∈ tables_1 ∧ Cond.privateMethod q.1 ∈ tables_1 ∧ Cond.instanceMethod q.1 ∈ tables_1
theorem lw_p0 : lw_okq (⟨"java/lang/Throwable", "fillInStackTrace", "(I)Ljava/lang/Throwable;"⟩, 6) := ⟨⟨by decide +kernel, by decide +kernel⟩, List.mem_of_getElem? (i := 249) (by decide +kernel), List.mem_of_getElem? (i := 247) (by decide +kernel), List.mem_of_getElem? (i := 248) (by decide +kernel)⟩
theorem lw_p1 : lw_okq (⟨"TrustChain", "takeWord", "(I)V"⟩, 14) := ⟨⟨by decide +kernel, by decide +kernel⟩, List.mem_of_getElem? (i := 34) (by decide +kernel), List.mem_of_getElem? (i := 278) (by decide +kernel), List.mem_of_getElem? (i := 279) (by decide +kernel)⟩
theorem lw_p2 : lw_okq (⟨"TrustChain", "isFed", "(I)Z"⟩, 14) := ⟨⟨by decide +kernel, by decide +kernel⟩, List.mem_of_getElem? (i := 34) (by decide +kernel), List.mem_of_getElem? (i := 290) (by decide +kernel), List.mem_of_getElem? (i := 291) (by decide +kernel)⟩
theorem lw_p3 : lw_okq (⟨"TrustChain", "takeText", "(I)[B"⟩, 14) := ⟨⟨by decide +kernel, by decide +kernel⟩, List.mem_of_getElem? (i := 34) (by decide +kernel), List.mem_of_getElem? (i := 301) (by decide +kernel), List.mem_of_getElem? (i := 302) (by decide +kernel)⟩
theorem lw_p4 : lw_okq (⟨"TrustChain$CertificateReader", "readHead", "(I)V"⟩, 9) := ⟨⟨by decide +kernel, by decide +kernel⟩, List.mem_of_getElem? (i := 299) (by decide +kernel), List.mem_of_getElem? (i := 601) (by decide +kernel), List.mem_of_getElem? (i := 602) (by decide +kernel)⟩
theorem lw_p5 : lw_okq (⟨"TrustChain$CertificateReader", "readKey", "(I)V"⟩, 9) := ⟨⟨by decide +kernel, by decide +kernel⟩, List.mem_of_getElem? (i := 299) (by decide +kernel), List.mem_of_getElem? (i := 755) (by decide +kernel), List.mem_of_getElem? (i := 756) (by decide +kernel)⟩
theorem lw_p6 : lw_okq (⟨"TrustChain$CertificateReader", "readModulus", "(I)V"⟩, 9) := ⟨⟨by decide +kernel, by decide +kernel⟩, List.mem_of_getElem? (i := 299) (by decide +kernel), List.mem_of_getElem? (i := 765) (by decide +kernel), List.mem_of_getElem? (i := 766) (by decide +kernel)⟩
theorem lw_p7 : lw_okq (⟨"TrustChain$CertificateReader", "readUsage", "(I)V"⟩, 9) := ⟨⟨by decide +kernel, by decide +kernel⟩, List.mem_of_getElem? (i := 299) (by decide +kernel), List.mem_of_getElem? (i := 808) (by decide +kernel), List.mem_of_getElem? (i := 809) (by decide +kernel)⟩
theorem lw_p8 : lw_okq (⟨"TrustChain$CertificateReader", "readNames", "(I)V"⟩, 9) := ⟨⟨by decide +kernel, by decide +kernel⟩, List.mem_of_getElem? (i := 299) (by decide +kernel), List.mem_of_getElem? (i := 820) (by decide +kernel), List.mem_of_getElem? (i := 821) (by decide +kernel)⟩
theorem lw_p9 : lw_okq (⟨"java/util/ArrayList", "add", "(Ljava/lang/Object;[Ljava/lang/Object;I)V"⟩, 3) := ⟨⟨by decide +kernel, by decide +kernel⟩, List.mem_of_getElem? (i := 42) (by decide +kernel), List.mem_of_getElem? (i := 832) (by decide +kernel), List.mem_of_getElem? (i := 833) (by decide +kernel)⟩
theorem lw_p10 : lw_okq (⟨"java/util/ArrayList", "grow", "()[Ljava/lang/Object;"⟩, 3) := ⟨⟨by decide +kernel, by decide +kernel⟩, List.mem_of_getElem? (i := 42) (by decide +kernel), List.mem_of_getElem? (i := 836) (by decide +kernel), List.mem_of_getElem? (i := 837) (by decide +kernel)⟩
theorem lw_p11 : lw_okq (⟨"java/util/ArrayList", "grow", "(I)[Ljava/lang/Object;"⟩, 3) := ⟨⟨by decide +kernel, by decide +kernel⟩, List.mem_of_getElem? (i := 42) (by decide +kernel), List.mem_of_getElem? (i := 840) (by decide +kernel), List.mem_of_getElem? (i := 841) (by decide +kernel)⟩
theorem lw_p12 : lw_okq (⟨"TrustChain$CertificateReader", "readBasic", "(I)V"⟩, 9) := ⟨⟨by decide +kernel, by decide +kernel⟩, List.mem_of_getElem? (i := 299) (by decide +kernel), List.mem_of_getElem? (i := 888) (by decide +kernel), List.mem_of_getElem? (i := 889) (by decide +kernel)⟩
theorem lw_p13 : lw_okq (⟨"TrustChain$CertificateReader", "readTrees", "(ILTrustChain$NameSet;I)V"⟩, 9) := ⟨⟨by decide +kernel, by decide +kernel⟩, List.mem_of_getElem? (i := 299) (by decide +kernel), List.mem_of_getElem? (i := 897) (by decide +kernel), List.mem_of_getElem? (i := 898) (by decide +kernel)⟩
theorem lw_p14 : lw_okq (⟨"TrustChain$Sha256", "fillSchedule", "(LTrustChain$Slice;II)V"⟩, 1) := ⟨⟨by decide +kernel, by decide +kernel⟩, List.mem_of_getElem? (i := 69) (by decide +kernel), List.mem_of_getElem? (i := 978) (by decide +kernel), List.mem_of_getElem? (i := 979) (by decide +kernel)⟩
theorem lw_p15 : lw_okq (⟨"TrustChain$Sha256", "mix", "([I)V"⟩, 1) := ⟨⟨by decide +kernel, by decide +kernel⟩, List.mem_of_getElem? (i := 69) (by decide +kernel), List.mem_of_getElem? (i := 989) (by decide +kernel), List.mem_of_getElem? (i := 990) (by decide +kernel)⟩
def lw_privs_1 : List (MethodName × Nat) := [(⟨"java/lang/Throwable", "fillInStackTrace", "(I)Ljava/lang/Throwable;"⟩, 6), (⟨"TrustChain", "takeWord", "(I)V"⟩, 14), (⟨"TrustChain", "isFed", "(I)Z"⟩, 14), (⟨"TrustChain", "takeText", "(I)[B"⟩, 14), (⟨"TrustChain$CertificateReader", "readHead", "(I)V"⟩, 9), (⟨"TrustChain$CertificateReader", "readKey", "(I)V"⟩, 9), (⟨"TrustChain$CertificateReader", "readModulus", "(I)V"⟩, 9), (⟨"TrustChain$CertificateReader", "readUsage", "(I)V"⟩, 9), (⟨"TrustChain$CertificateReader", "readNames", "(I)V"⟩, 9), (⟨"java/util/ArrayList", "add", "(Ljava/lang/Object;[Ljava/lang/Object;I)V"⟩, 3), (⟨"java/util/ArrayList", "grow", "()[Ljava/lang/Object;"⟩, 3), (⟨"java/util/ArrayList", "grow", "(I)[Ljava/lang/Object;"⟩, 3), (⟨"TrustChain$CertificateReader", "readBasic", "(I)V"⟩, 9), (⟨"TrustChain$CertificateReader", "readTrees", "(ILTrustChain$NameSet;I)V"⟩, 9), (⟨"TrustChain$Sha256", "fillSchedule", "(LTrustChain$Slice;II)V"⟩, 1), (⟨"TrustChain$Sha256", "mix", "([I)V"⟩, 1)]
theorem lw_r1 : ∀ q ∈ lw_privs_1, lw_okq q := List.forall_mem_cons.mpr ⟨lw_p0, List.forall_mem_cons.mpr ⟨lw_p1, List.forall_mem_cons.mpr ⟨lw_p2, List.forall_mem_cons.mpr ⟨lw_p3, List.forall_mem_cons.mpr ⟨lw_p4, List.forall_mem_cons.mpr ⟨lw_p5, List.forall_mem_cons.mpr ⟨lw_p6, List.forall_mem_cons.mpr ⟨lw_p7, List.forall_mem_cons.mpr ⟨lw_p8, List.forall_mem_cons.mpr ⟨lw_p9, List.forall_mem_cons.mpr ⟨lw_p10, List.forall_mem_cons.mpr ⟨lw_p11, List.forall_mem_cons.mpr ⟨lw_p12, List.forall_mem_cons.mpr ⟨lw_p13, List.forall_mem_cons.mpr ⟨lw_p14, List.forall_mem_cons.mpr ⟨lw_p15, fun _ h => absurd h List.not_mem_nil⟩⟩⟩⟩⟩⟩⟩⟩⟩⟩⟩⟩⟩⟩⟩⟩
theorem lw_p16 : lw_okq (⟨"TrustChain", "linkIssuers", "(LTrustChain$Certificate;)V"⟩, 14) := ⟨⟨by decide +kernel, by decide +kernel⟩, List.mem_of_getElem? (i := 34) (by decide +kernel), List.mem_of_getElem? (i := 996) (by decide +kernel), List.mem_of_getElem? (i := 997) (by decide +kernel)⟩
theorem lw_p17 : lw_okq (⟨"TrustChain$ListReader", "readHead", "(I)V"⟩, 10) := ⟨⟨by decide +kernel, by decide +kernel⟩, List.mem_of_getElem? (i := 1015) (by decide +kernel), List.mem_of_getElem? (i := 1059) (by decide +kernel), List.mem_of_getElem? (i := 1060) (by decide +kernel)⟩
theorem lw_p18 : lw_okq (⟨"TrustChain", "isStored", "(I)Z"⟩, 14) := ⟨⟨by decide +kernel, by decide +kernel⟩, List.mem_of_getElem? (i := 34) (by decide +kernel), List.mem_of_getElem? (i := 1098) (by decide +kernel), List.mem_of_getElem? (i := 1099) (by decide +kernel)⟩
theorem lw_p19 : lw_okq (⟨"TrustChain", "isListed", "(I)Z"⟩, 14) := ⟨⟨by decide +kernel, by decide +kernel⟩, List.mem_of_getElem? (i := 34) (by decide +kernel), List.mem_of_getElem? (i := 1123) (by decide +kernel), List.mem_of_getElem? (i := 1124) (by decide +kernel)⟩
theorem lw_p20 : lw_okq (⟨"TrustChain$Rsa", "verifies", "(LTrustChain$Paper;LTrustChain$Certificate;)Z"⟩, 8) := ⟨⟨by decide +kernel, by decide +kernel⟩, List.mem_of_getElem? (i := 80) (by decide +kernel), List.mem_of_getElem? (i := 1141) (by decide +kernel), List.mem_of_getElem? (i := 1142) (by decide +kernel)⟩
theorem lw_p21 : lw_okq (⟨"TrustChain$Rsa", "load", "(LTrustChain$Slice;[J)V"⟩, 8) := ⟨⟨by decide +kernel, by decide +kernel⟩, List.mem_of_getElem? (i := 80) (by decide +kernel), List.mem_of_getElem? (i := 1146) (by decide +kernel), List.mem_of_getElem? (i := 1147) (by decide +kernel)⟩
theorem lw_p22 : lw_okq (⟨"TrustChain$Rsa", "isBelowModulus", "([J)Z"⟩, 8) := ⟨⟨by decide +kernel, by decide +kernel⟩, List.mem_of_getElem? (i := 80) (by decide +kernel), List.mem_of_getElem? (i := 1154) (by decide +kernel), List.mem_of_getElem? (i := 1155) (by decide +kernel)⟩
theorem lw_p23 : lw_okq (⟨"TrustChain$Rsa", "prepare", "(I)V"⟩, 8) := ⟨⟨by decide +kernel, by decide +kernel⟩, List.mem_of_getElem? (i := 80) (by decide +kernel), List.mem_of_getElem? (i := 1158) (by decide +kernel), List.mem_of_getElem? (i := 1159) (by decide +kernel)⟩
theorem lw_p24 : lw_okq (⟨"TrustChain$Rsa", "settle", "([J)V"⟩, 8) := ⟨⟨by decide +kernel, by decide +kernel⟩, List.mem_of_getElem? (i := 80) (by decide +kernel), List.mem_of_getElem? (i := 1166) (by decide +kernel), List.mem_of_getElem? (i := 1167) (by decide +kernel)⟩
theorem lw_p25 : lw_okq (⟨"TrustChain$Rsa", "multiply", "([J[J[J)V"⟩, 8) := ⟨⟨by decide +kernel, by decide +kernel⟩, List.mem_of_getElem? (i := 80) (by decide +kernel), List.mem_of_getElem? (i := 1170) (by decide +kernel), List.mem_of_getElem? (i := 1171) (by decide +kernel)⟩
theorem lw_p26 : lw_okq (⟨"TrustChain$Rsa", "hasForm", "([II)Z"⟩, 8) := ⟨⟨by decide +kernel, by decide +kernel⟩, List.mem_of_getElem? (i := 80) (by decide +kernel), List.mem_of_getElem? (i := 1175) (by decide +kernel), List.mem_of_getElem? (i := 1176) (by decide +kernel)⟩
theorem lw_p27 : lw_okq (⟨"TrustChain$Search", "put", "(LTrustChain$Certificate;)V"⟩, 5) := ⟨⟨by decide +kernel, by decide +kernel⟩, List.mem_of_getElem? (i := 112) (by decide +kernel), List.mem_of_getElem? (i := 1210) (by decide +kernel), List.mem_of_getElem? (i := 1211) (by decide +kernel)⟩
theorem lw_p28 : lw_okq (⟨"TrustChain$Search", "nextCandidate", "(I)I"⟩, 5) := ⟨⟨by decide +kernel, by decide +kernel⟩, List.mem_of_getElem? (i := 112) (by decide +kernel), List.mem_of_getElem? (i := 1224) (by decide +kernel), List.mem_of_getElem? (i := 1225) (by decide +kernel)⟩
theorem lw_p29 : lw_okq (⟨"TrustChain$Search", "takeOff", "()V"⟩, 5) := ⟨⟨by decide +kernel, by decide +kernel⟩, List.mem_of_getElem? (i := 112) (by decide +kernel), List.mem_of_getElem? (i := 1230) (by decide +kernel), List.mem_of_getElem? (i := 1231) (by decide +kernel)⟩
theorem lw_p30 : lw_okq (⟨"java/util/ArrayList", "fastRemove", "([Ljava/lang/Object;I)V"⟩, 3) := ⟨⟨by decide +kernel, by decide +kernel⟩, List.mem_of_getElem? (i := 42) (by decide +kernel), List.mem_of_getElem? (i := 1238) (by decide +kernel), List.mem_of_getElem? (i := 1239) (by decide +kernel)⟩
theorem lw_p31 : lw_okq (⟨"TrustChain$PathCheck", "faultAt", "(Ljava/util/ArrayList;ILjava/util/ArrayList;LTrustChain$Rsa;)I"⟩, 4) := ⟨⟨by decide +kernel, by decide +kernel⟩, List.mem_of_getElem? (i := 137) (by decide +kernel), List.mem_of_getElem? (i := 1248) (by decide +kernel), List.mem_of_getElem? (i := 1249) (by decide +kernel)⟩
def lw_privs_2 : List (MethodName × Nat) := [(⟨"TrustChain", "linkIssuers", "(LTrustChain$Certificate;)V"⟩, 14), (⟨"TrustChain$ListReader", "readHead", "(I)V"⟩, 10), (⟨"TrustChain", "isStored", "(I)Z"⟩, 14), (⟨"TrustChain", "isListed", "(I)Z"⟩, 14), (⟨"TrustChain$Rsa", "verifies", "(LTrustChain$Paper;LTrustChain$Certificate;)Z"⟩, 8), (⟨"TrustChain$Rsa", "load", "(LTrustChain$Slice;[J)V"⟩, 8), (⟨"TrustChain$Rsa", "isBelowModulus", "([J)Z"⟩, 8), (⟨"TrustChain$Rsa", "prepare", "(I)V"⟩, 8), (⟨"TrustChain$Rsa", "settle", "([J)V"⟩, 8), (⟨"TrustChain$Rsa", "multiply", "([J[J[J)V"⟩, 8), (⟨"TrustChain$Rsa", "hasForm", "([II)Z"⟩, 8), (⟨"TrustChain$Search", "put", "(LTrustChain$Certificate;)V"⟩, 5), (⟨"TrustChain$Search", "nextCandidate", "(I)I"⟩, 5), (⟨"TrustChain$Search", "takeOff", "()V"⟩, 5), (⟨"java/util/ArrayList", "fastRemove", "([Ljava/lang/Object;I)V"⟩, 3), (⟨"TrustChain$PathCheck", "faultAt", "(Ljava/util/ArrayList;ILjava/util/ArrayList;LTrustChain$Rsa;)I"⟩, 4)]
theorem lw_r2 : ∀ q ∈ lw_privs_2, lw_okq q := List.forall_mem_cons.mpr ⟨lw_p16, List.forall_mem_cons.mpr ⟨lw_p17, List.forall_mem_cons.mpr ⟨lw_p18, List.forall_mem_cons.mpr ⟨lw_p19, List.forall_mem_cons.mpr ⟨lw_p20, List.forall_mem_cons.mpr ⟨lw_p21, List.forall_mem_cons.mpr ⟨lw_p22, List.forall_mem_cons.mpr ⟨lw_p23, List.forall_mem_cons.mpr ⟨lw_p24, List.forall_mem_cons.mpr ⟨lw_p25, List.forall_mem_cons.mpr ⟨lw_p26, List.forall_mem_cons.mpr ⟨lw_p27, List.forall_mem_cons.mpr ⟨lw_p28, List.forall_mem_cons.mpr ⟨lw_p29, List.forall_mem_cons.mpr ⟨lw_p30, List.forall_mem_cons.mpr ⟨lw_p31, fun _ h => absurd h List.not_mem_nil⟩⟩⟩⟩⟩⟩⟩⟩⟩⟩⟩⟩⟩⟩⟩⟩
theorem lw_p32 : lw_okq (⟨"TrustChain$PathCheck", "isRevoked", "(LTrustChain$Certificate;LTrustChain$Certificate;Ljava/util/ArrayList;LTrustChain$Rsa;)Z"⟩, 4) := ⟨⟨by decide +kernel, by decide +kernel⟩, List.mem_of_getElem? (i := 137) (by decide +kernel), List.mem_of_getElem? (i := 1261) (by decide +kernel), List.mem_of_getElem? (i := 1262) (by decide +kernel)⟩
theorem lw_p33 : lw_okq (⟨"TrustChain$PathCheck", "faultAsIssuer", "(Ljava/util/ArrayList;I)I"⟩, 4) := ⟨⟨by decide +kernel, by decide +kernel⟩, List.mem_of_getElem? (i := 137) (by decide +kernel), List.mem_of_getElem? (i := 1316) (by decide +kernel), List.mem_of_getElem? (i := 1317) (by decide +kernel)⟩
theorem lw_p34 : lw_okq (⟨"TrustChain", "keepPath", "()V"⟩, 14) := ⟨⟨by decide +kernel, by decide +kernel⟩, List.mem_of_getElem? (i := 34) (by decide +kernel), List.mem_of_getElem? (i := 1323) (by decide +kernel), List.mem_of_getElem? (i := 1324) (by decide +kernel)⟩
theorem lw_p35 : lw_okq (⟨"TrustChain", "takeHost", "(IJ)V"⟩, 14) := ⟨⟨by decide +kernel, by decide +kernel⟩, List.mem_of_getElem? (i := 34) (by decide +kernel), List.mem_of_getElem? (i := 1352) (by decide +kernel), List.mem_of_getElem? (i := 1353) (by decide +kernel)⟩
theorem lw_p36 : lw_okq (⟨"TrustChainModel", "fails", "(ZI)Z"⟩, 32) := ⟨⟨by decide +kernel, by decide +kernel⟩, List.mem_of_getElem? (i := 1366) (by decide +kernel), List.mem_of_getElem? (i := 1760) (by decide +kernel), List.mem_of_getElem? (i := 1761) (by decide +kernel)⟩
theorem lw_p37 : lw_okq (⟨"TrustChainModel", "store", "(IZ)I"⟩, 32) := ⟨⟨by decide +kernel, by decide +kernel⟩, List.mem_of_getElem? (i := 1366) (by decide +kernel), List.mem_of_getElem? (i := 1768) (by decide +kernel), List.mem_of_getElem? (i := 1769) (by decide +kernel)⟩
theorem lw_p38 : lw_okq (⟨"TrustChainModel$Text", "two", "(I)I"⟩, 54) := ⟨⟨by decide +kernel, by decide +kernel⟩, List.mem_of_getElem? (i := 1373) (by decide +kernel), List.mem_of_getElem? (i := 1899) (by decide +kernel), List.mem_of_getElem? (i := 1900) (by decide +kernel)⟩
theorem lw_p39 : lw_okq (⟨"TrustChainModel", "noCertificate", "(II)Z"⟩, 32) := ⟨⟨by decide +kernel, by decide +kernel⟩, List.mem_of_getElem? (i := 1366) (by decide +kernel), List.mem_of_getElem? (i := 1985) (by decide +kernel), List.mem_of_getElem? (i := 1986) (by decide +kernel)⟩
theorem lw_p40 : lw_okq (⟨"TrustChainModel", "digest", "(LTrustChainModel$Text;)V"⟩, 32) := ⟨⟨by decide +kernel, by decide +kernel⟩, List.mem_of_getElem? (i := 1366) (by decide +kernel), List.mem_of_getElem? (i := 2002) (by decide +kernel), List.mem_of_getElem? (i := 2003) (by decide +kernel)⟩
theorem lw_p41 : lw_okq (⟨"TrustChainModel", "compress", "(I)V"⟩, 32) := ⟨⟨by decide +kernel, by decide +kernel⟩, List.mem_of_getElem? (i := 1366) (by decide +kernel), List.mem_of_getElem? (i := 2006) (by decide +kernel), List.mem_of_getElem? (i := 2007) (by decide +kernel)⟩
theorem lw_p42 : lw_okq (⟨"TrustChainModel", "isSigned", "(LTrustChainModel$Text;LTrustChainModel$Text;)Z"⟩, 32) := ⟨⟨by decide +kernel, by decide +kernel⟩, List.mem_of_getElem? (i := 1366) (by decide +kernel), List.mem_of_getElem? (i := 2017) (by decide +kernel), List.mem_of_getElem? (i := 2018) (by decide +kernel)⟩
theorem lw_p43 : lw_okq (⟨"TrustChainModel", "reduced", "([II[III)I"⟩, 32) := ⟨⟨by decide +kernel, by decide +kernel⟩, List.mem_of_getElem? (i := 1366) (by decide +kernel), List.mem_of_getElem? (i := 2034) (by decide +kernel), List.mem_of_getElem? (i := 2035) (by decide +kernel)⟩
theorem lw_p44 : lw_okq (⟨"TrustChainModel", "divided", "([II[II[I)I"⟩, 32) := ⟨⟨by decide +kernel, by decide +kernel⟩, List.mem_of_getElem? (i := 1366) (by decide +kernel), List.mem_of_getElem? (i := 2042) (by decide +kernel), List.mem_of_getElem? (i := 2043) (by decide +kernel)⟩
theorem lw_p45 : lw_okq (⟨"TrustChainModel", "goOn", "()Z"⟩, 32) := ⟨⟨by decide +kernel, by decide +kernel⟩, List.mem_of_getElem? (i := 1366) (by decide +kernel), List.mem_of_getElem? (i := 2054) (by decide +kernel), List.mem_of_getElem? (i := 2055) (by decide +kernel)⟩
theorem lw_p46 : lw_okq (⟨"TrustChainModel", "judged", "()Z"⟩, 32) := ⟨⟨by decide +kernel, by decide +kernel⟩, List.mem_of_getElem? (i := 1366) (by decide +kernel), List.mem_of_getElem? (i := 2058) (by decide +kernel), List.mem_of_getElem? (i := 2059) (by decide +kernel)⟩
theorem lw_p47 : lw_okq (⟨"TrustChainModel", "faultOf", "(I)I"⟩, 32) := ⟨⟨by decide +kernel, by decide +kernel⟩, List.mem_of_getElem? (i := 1366) (by decide +kernel), List.mem_of_getElem? (i := 2062) (by decide +kernel), List.mem_of_getElem? (i := 2063) (by decide +kernel)⟩
def lw_privs_3 : List (MethodName × Nat) := [(⟨"TrustChain$PathCheck", "isRevoked", "(LTrustChain$Certificate;LTrustChain$Certificate;Ljava/util/ArrayList;LTrustChain$Rsa;)Z"⟩, 4), (⟨"TrustChain$PathCheck", "faultAsIssuer", "(Ljava/util/ArrayList;I)I"⟩, 4), (⟨"TrustChain", "keepPath", "()V"⟩, 14), (⟨"TrustChain", "takeHost", "(IJ)V"⟩, 14), (⟨"TrustChainModel", "fails", "(ZI)Z"⟩, 32), (⟨"TrustChainModel", "store", "(IZ)I"⟩, 32), (⟨"TrustChainModel$Text", "two", "(I)I"⟩, 54), (⟨"TrustChainModel", "noCertificate", "(II)Z"⟩, 32), (⟨"TrustChainModel", "digest", "(LTrustChainModel$Text;)V"⟩, 32), (⟨"TrustChainModel", "compress", "(I)V"⟩, 32), (⟨"TrustChainModel", "isSigned", "(LTrustChainModel$Text;LTrustChainModel$Text;)Z"⟩, 32), (⟨"TrustChainModel", "reduced", "([II[III)I"⟩, 32), (⟨"TrustChainModel", "divided", "([II[II[I)I"⟩, 32), (⟨"TrustChainModel", "goOn", "()Z"⟩, 32), (⟨"TrustChainModel", "judged", "()Z"⟩, 32), (⟨"TrustChainModel", "faultOf", "(I)I"⟩, 32)]
theorem lw_r3 : ∀ q ∈ lw_privs_3, lw_okq q := List.forall_mem_cons.mpr ⟨lw_p32, List.forall_mem_cons.mpr ⟨lw_p33, List.forall_mem_cons.mpr ⟨lw_p34, List.forall_mem_cons.mpr ⟨lw_p35, List.forall_mem_cons.mpr ⟨lw_p36, List.forall_mem_cons.mpr ⟨lw_p37, List.forall_mem_cons.mpr ⟨lw_p38, List.forall_mem_cons.mpr ⟨lw_p39, List.forall_mem_cons.mpr ⟨lw_p40, List.forall_mem_cons.mpr ⟨lw_p41, List.forall_mem_cons.mpr ⟨lw_p42, List.forall_mem_cons.mpr ⟨lw_p43, List.forall_mem_cons.mpr ⟨lw_p44, List.forall_mem_cons.mpr ⟨lw_p45, List.forall_mem_cons.mpr ⟨lw_p46, List.forall_mem_cons.mpr ⟨lw_p47, fun _ h => absurd h List.not_mem_nil⟩⟩⟩⟩⟩⟩⟩⟩⟩⟩⟩⟩⟩⟩⟩⟩
theorem lw_p48 : lw_okq (⟨"TrustChainModel", "namesMayBe", "(LTrustChainModel$Text;I)Z"⟩, 32) := ⟨⟨by decide +kernel, by decide +kernel⟩, List.mem_of_getElem? (i := 1366) (by decide +kernel), List.mem_of_getElem? (i := 2071) (by decide +kernel), List.mem_of_getElem? (i := 2072) (by decide +kernel)⟩
theorem lw_p49 : lw_okq (⟨"TrustChainModel", "mayBe", "(LTrustChainModel$Text;LTrustChainModel$Text;III)Z"⟩, 32) := ⟨⟨by decide +kernel, by decide +kernel⟩, List.mem_of_getElem? (i := 1366) (by decide +kernel), List.mem_of_getElem? (i := 2075) (by decide +kernel), List.mem_of_getElem? (i := 2076) (by decide +kernel)⟩
theorem lw_p50 : lw_okq (⟨"TrustChainModel", "mayFollow", "(LTrustChainModel$Text;I)Z"⟩, 32) := ⟨⟨by decide +kernel, by decide +kernel⟩, List.mem_of_getElem? (i := 1366) (by decide +kernel), List.mem_of_getElem? (i := 2091) (by decide +kernel), List.mem_of_getElem? (i := 2092) (by decide +kernel)⟩
theorem lw_p51 : lw_okq (⟨"TrustChainModel", "alike", "(LTrustChainModel$Text;IIII)Z"⟩, 32) := ⟨⟨by decide +kernel, by decide +kernel⟩, List.mem_of_getElem? (i := 1366) (by decide +kernel), List.mem_of_getElem? (i := 2107) (by decide +kernel), List.mem_of_getElem? (i := 2108) (by decide +kernel)⟩
def lw_privs_4 : List (MethodName × Nat) := [(⟨"TrustChainModel", "namesMayBe", "(LTrustChainModel$Text;I)Z"⟩, 32), (⟨"TrustChainModel", "mayBe", "(LTrustChainModel$Text;LTrustChainModel$Text;III)Z"⟩, 32), (⟨"TrustChainModel", "mayFollow", "(LTrustChainModel$Text;I)Z"⟩, 32), (⟨"TrustChainModel", "alike", "(LTrustChainModel$Text;IIII)Z"⟩, 32)]
theorem lw_r4 : ∀ q ∈ lw_privs_4, lw_okq q := List.forall_mem_cons.mpr ⟨lw_p48, List.forall_mem_cons.mpr ⟨lw_p49, List.forall_mem_cons.mpr ⟨lw_p50, List.forall_mem_cons.mpr ⟨lw_p51, fun _ h => absurd h List.not_mem_nil⟩⟩⟩⟩
def lw_privs : List (MethodName × Nat) := lw_privs_1 ++ (lw_privs_2 ++ (lw_privs_3 ++ (lw_privs_4)))
def lw_tbl : List Cond := k2_sels lw_privs ++ tables_1
theorem lw_privs_ok : ∀ q ∈ lw_privs, lw_okq q := by
  show ∀ q ∈ lw_privs_1 ++ (lw_privs_2 ++ (lw_privs_3 ++ (lw_privs_4))), lw_okq q
  exact List.forall_mem_append.mpr ⟨lw_r1, List.forall_mem_append.mpr ⟨lw_r2, List.forall_mem_append.mpr ⟨lw_r3, lw_r4⟩⟩⟩
/-- private methods of Reader on the objects of its two subclasses: what is selected (shown out of lw_tbl where the law begins) -/
def xs_privs : List (String × MethodName) := [("TrustChain$CertificateReader", ⟨"TrustChain$Reader", "digits", "(I)I"⟩), ("TrustChain$CertificateReader", ⟨"TrustChain$Reader", "areDigits", "(II)Z"⟩), ("TrustChain$CertificateReader", ⟨"TrustChain$Reader", "isOid", "(II)Z"⟩), ("TrustChain$CertificateReader", ⟨"TrustChain$Reader", "isSimple", "(III)Z"⟩), ("TrustChain$CertificateReader", ⟨"TrustChain$Reader", "isUtf8", "(II)Z"⟩), ("TrustChain$CertificateReader", ⟨"TrustChain$Reader", "isRepeated", "(LTrustChain$Slice;)Z"⟩), ("TrustChain$ListReader", ⟨"TrustChain$Reader", "digits", "(I)I"⟩), ("TrustChain$ListReader", ⟨"TrustChain$Reader", "areDigits", "(II)Z"⟩), ("TrustChain$ListReader", ⟨"TrustChain$Reader", "isOid", "(II)Z"⟩), ("TrustChain$ListReader", ⟨"TrustChain$Reader", "isSimple", "(III)Z"⟩), ("TrustChain$ListReader", ⟨"TrustChain$Reader", "isUtf8", "(II)Z"⟩), ("TrustChain$ListReader", ⟨"TrustChain$Reader", "isRepeated", "(LTrustChain$Slice;)Z"⟩)]
def xs_sels : List Cond := xs_privs.map fun q => Cond.selects q.1 q.2 q.2
def tb : List Cond := (xs_sels ++ lw_tbl).filter goodWord
theorem tb_in {w : Cond} (h : w ∈ lw_tbl) (g : goodWord w = true) : w ∈ tb := List.mem_filter.mpr ⟨List.mem_append_right _ h, g⟩
theorem tb_ix {w : Cond} (h : w ∈ xs_sels) (g : goodWord w = true) : w ∈ tb := List.mem_filter.mpr ⟨List.mem_append_left _ h, g⟩
theorem tb_good {w : Cond} (h : w ∈ tb) : goodWord w = true := (List.mem_filter.mp h).2
theorem tm_1 {w : Cond} (h : w ∈ tables_1_1) : w ∈ lw_tbl := List.mem_append_right _ (show w ∈ tables_1 from List.mem_append_left _ h)
theorem tm_2 {w : Cond} (h : w ∈ tables_1_2) : w ∈ lw_tbl := List.mem_append_right _ (show w ∈ tables_1 from List.mem_append_right _ (List.mem_append_left _ h))
theorem tm_3 {w : Cond} (h : w ∈ tables_1_3) : w ∈ lw_tbl := List.mem_append_right _ (show w ∈ tables_1 from List.mem_append_right _ (List.mem_append_right _ (List.mem_append_left _ h)))
theorem tm_4 {w : Cond} (h : w ∈ tables_1_4) : w ∈ lw_tbl := List.mem_append_right _ (show w ∈ tables_1 from List.mem_append_right _ (List.mem_append_right _ (List.mem_append_right _ (List.mem_append_left _ h))))
theorem tm_5 {w : Cond} (h : w ∈ tables_1_5) : w ∈ lw_tbl := List.mem_append_right _ (show w ∈ tables_1 from List.mem_append_right _ (List.mem_append_right _ (List.mem_append_right _ (List.mem_append_right _ (List.mem_append_left _ h)))))
theorem tm_6 {w : Cond} (h : w ∈ tables_1_6) : w ∈ lw_tbl := List.mem_append_right _ (show w ∈ tables_1 from List.mem_append_right _ (List.mem_append_right _ (List.mem_append_right _ (List.mem_append_right _ (List.mem_append_right _ (List.mem_append_left _ h))))))
theorem tm_7 {w : Cond} (h : w ∈ tables_1_7) : w ∈ lw_tbl := List.mem_append_right _ (show w ∈ tables_1 from List.mem_append_right _ (List.mem_append_right _ (List.mem_append_right _ (List.mem_append_right _ (List.mem_append_right _ (List.mem_append_right _ (List.mem_append_left _ h)))))))
theorem tm_8 {w : Cond} (h : w ∈ tables_1_8) : w ∈ lw_tbl := List.mem_append_right _ (show w ∈ tables_1 from List.mem_append_right _ (List.mem_append_right _ (List.mem_append_right _ (List.mem_append_right _ (List.mem_append_right _ (List.mem_append_right _ (List.mem_append_right _ (List.mem_append_left _ h))))))))
theorem tm_9 {w : Cond} (h : w ∈ tables_1_9) : w ∈ lw_tbl := List.mem_append_right _ (show w ∈ tables_1 from List.mem_append_right _ (List.mem_append_right _ (List.mem_append_right _ (List.mem_append_right _ (List.mem_append_right _ (List.mem_append_right _ (List.mem_append_right _ (List.mem_append_right _ (List.mem_append_left _ h)))))))))
theorem tm_10 {w : Cond} (h : w ∈ tables_1_10) : w ∈ lw_tbl := List.mem_append_right _ (show w ∈ tables_1 from List.mem_append_right _ (List.mem_append_right _ (List.mem_append_right _ (List.mem_append_right _ (List.mem_append_right _ (List.mem_append_right _ (List.mem_append_right _ (List.mem_append_right _ (List.mem_append_right _ (h))))))))))
theorem q1_0 : (Cond.initialized "TrustChainLaw") ∈ tb := tb_in (tm_1 (List.mem_of_getElem? (i := 0) rfl)) rfl
theorem q1_1 : (Cond.initialized "TrustChain") ∈ tb := tb_in (tm_1 (List.mem_of_getElem? (i := 1) rfl)) rfl
theorem q1_2 : (Cond.initialized "java/util/AbstractCollection") ∈ tb := tb_in (tm_1 (List.mem_of_getElem? (i := 2) rfl)) rfl
theorem q1_3 : (Cond.initialized "java/util/AbstractList") ∈ tb := tb_in (tm_1 (List.mem_of_getElem? (i := 3) rfl)) rfl
theorem q1_4 : (Cond.initialized "java/util/ArrayList") ∈ tb := tb_in (tm_1 (List.mem_of_getElem? (i := 4) rfl)) rfl
theorem q1_5 : (Cond.initialized "TrustChain$Sha256") ∈ tb := tb_in (tm_1 (List.mem_of_getElem? (i := 5) rfl)) rfl
theorem q1_6 : (Cond.initialized "TrustChain$Rsa") ∈ tb := tb_in (tm_1 (List.mem_of_getElem? (i := 6) rfl)) rfl
theorem q1_7 : (Cond.initialized "TrustChain$Search") ∈ tb := tb_in (tm_1 (List.mem_of_getElem? (i := 7) rfl)) rfl
theorem q1_8 : (Cond.initialized "TrustChain$PathCheck") ∈ tb := tb_in (tm_1 (List.mem_of_getElem? (i := 8) rfl)) rfl
theorem q1_9 : (Cond.initialized "TrustChainModel") ∈ tb := tb_in (tm_1 (List.mem_of_getElem? (i := 9) rfl)) rfl
theorem q1_10 : (Cond.initialized "TrustChainModel$Text") ∈ tb := tb_in (tm_1 (List.mem_of_getElem? (i := 10) rfl)) rfl
theorem q1_11 : (Cond.initialized "java/lang/Throwable") ∈ tb := tb_in (tm_1 (List.mem_of_getElem? (i := 11) rfl)) rfl
theorem q1_14 : (Cond.initialized "java/lang/IndexOutOfBoundsException") ∈ tb := tb_in (tm_1 (List.mem_of_getElem? (i := 14) rfl)) rfl
theorem q1_15 : (Cond.initialized "TrustChain$Reader") ∈ tb := tb_in (tm_1 (List.mem_of_getElem? (i := 15) rfl)) rfl
theorem q1_16 : (Cond.initialized "TrustChain$CertificateReader") ∈ tb := tb_in (tm_1 (List.mem_of_getElem? (i := 16) rfl)) rfl
theorem q1_17 : (Cond.initialized "java/util/Arrays") ∈ tb := tb_in (tm_1 (List.mem_of_getElem? (i := 17) rfl)) rfl
theorem q1_18 : (Cond.initialized "java/lang/Math") ∈ tb := tb_in (tm_1 (List.mem_of_getElem? (i := 18) rfl)) rfl
theorem q1_19 : (Cond.initialized "java/lang/System") ∈ tb := tb_in (tm_1 (List.mem_of_getElem? (i := 19) rfl)) rfl
theorem q1_20 : (Cond.initialized "TrustChain$Paper") ∈ tb := tb_in (tm_1 (List.mem_of_getElem? (i := 20) rfl)) rfl
theorem q1_21 : (Cond.initialized "TrustChain$Certificate") ∈ tb := tb_in (tm_1 (List.mem_of_getElem? (i := 21) rfl)) rfl
theorem q1_22 : (Cond.initialized "TrustChain$Slice") ∈ tb := tb_in (tm_1 (List.mem_of_getElem? (i := 22) rfl)) rfl
theorem q1_23 : (Cond.initialized "TrustChain$NameSet") ∈ tb := tb_in (tm_1 (List.mem_of_getElem? (i := 23) rfl)) rfl
theorem q1_24 : (Cond.initialized "jdk/internal/util/ArraysSupport") ∈ tb := tb_in (tm_1 (List.mem_of_getElem? (i := 24) rfl)) rfl
theorem q1_25 : (Cond.initialized "java/util/Objects") ∈ tb := tb_in (tm_1 (List.mem_of_getElem? (i := 25) rfl)) rfl
theorem q1_26 : (Cond.initialized "jdk/internal/util/Preconditions") ∈ tb := tb_in (tm_1 (List.mem_of_getElem? (i := 26) rfl)) rfl
theorem q1_27 : (Cond.initialized "java/lang/IllegalArgumentException") ∈ tb := tb_in (tm_1 (List.mem_of_getElem? (i := 27) rfl)) rfl
theorem q1_28 : (Cond.initialized "java/lang/String") ∈ tb := tb_in (tm_1 (List.mem_of_getElem? (i := 28) rfl)) rfl
theorem q1_29 : (Cond.initialized "java/lang/StringLatin1") ∈ tb := tb_in (tm_1 (List.mem_of_getElem? (i := 29) rfl)) rfl
theorem q1_31 : (Cond.initialized "TrustChain$ListReader") ∈ tb := tb_in (tm_1 (List.mem_of_getElem? (i := 31) rfl)) rfl
theorem q1_32 : (Cond.initialized "java/lang/Integer") ∈ tb := tb_in (tm_1 (List.mem_of_getElem? (i := 32) rfl)) rfl
theorem q1_33 : (Cond.classLink "TrustChainLaw" (8 : Nat) "TrustChain") ∈ tb := tb_in (tm_1 (List.mem_of_getElem? (i := 33) rfl)) rfl
theorem q1_34 : (Cond.instantiable "TrustChain" (14 : Nat)) ∈ tb := tb_in (tm_1 (List.mem_of_getElem? (i := 34) rfl)) rfl
theorem q1_35 : (Cond.methodLink "TrustChainLaw" (58 : Nat) ({ cls := "TrustChain", name := "<init>", desc := "()V" } : MethodName)) ∈ tb := tb_in (tm_1 (List.mem_of_getElem? (i := 35) rfl)) rfl
theorem q1_36 : (Cond.instanceMethod ({ cls := "TrustChain", name := "<init>", desc := "()V" } : MethodName)) ∈ tb := tb_in (tm_1 (List.mem_of_getElem? (i := 36) rfl)) rfl
theorem q1_37 : (Cond.code ({ cls := "TrustChain", name := "<init>", desc := "()V" } : MethodName) prog_1_method_1_code (1 : Nat) none) ∈ tb := tb_in (tm_1 (List.mem_of_getElem? (i := 37) rfl)) rfl
theorem q1_38 : (Cond.methodLink "TrustChain" (1 : Nat) ({ cls := "java/lang/Object", name := "<init>", desc := "()V" } : MethodName)) ∈ tb := tb_in (tm_1 (List.mem_of_getElem? (i := 38) rfl)) rfl
theorem q1_39 : (Cond.instanceMethod ({ cls := "java/lang/Object", name := "<init>", desc := "()V" } : MethodName)) ∈ tb := tb_in (tm_1 (List.mem_of_getElem? (i := 39) rfl)) rfl
theorem q1_40 : (Cond.code ({ cls := "java/lang/Object", name := "<init>", desc := "()V" } : MethodName) object_method_1_code (1 : Nat) none) ∈ tb := tb_in (tm_1 (List.mem_of_getElem? (i := 40) rfl)) rfl
theorem q1_41 : (Cond.classLink "TrustChain" (16 : Nat) "java/util/ArrayList") ∈ tb := tb_in (tm_1 (List.mem_of_getElem? (i := 41) rfl)) rfl
theorem q1_42 : (Cond.instantiable "java/util/ArrayList" (3 : Nat)) ∈ tb := tb_in (tm_1 (List.mem_of_getElem? (i := 42) rfl)) rfl
theorem q1_43 : (Cond.methodLink "TrustChain" (18 : Nat) ({ cls := "java/util/ArrayList", name := "<init>", desc := "()V" } : MethodName)) ∈ tb := tb_in (tm_1 (List.mem_of_getElem? (i := 43) rfl)) rfl
theorem q1_44 : (Cond.instanceMethod ({ cls := "java/util/ArrayList", name := "<init>", desc := "()V" } : MethodName)) ∈ tb := tb_in (tm_1 (List.mem_of_getElem? (i := 44) rfl)) rfl
theorem q1_45 : (Cond.code ({ cls := "java/util/ArrayList", name := "<init>", desc := "()V" } : MethodName) prog_32_method_2_code (1 : Nat) none) ∈ tb := tb_in (tm_1 (List.mem_of_getElem? (i := 45) rfl)) rfl
theorem q1_46 : (Cond.methodLink "java/util/ArrayList" (1 : Nat) ({ cls := "java/util/AbstractList", name := "<init>", desc := "()V" } : MethodName)) ∈ tb := tb_in (tm_1 (List.mem_of_getElem? (i := 46) rfl)) rfl
theorem q1_47 : (Cond.instanceMethod ({ cls := "java/util/AbstractList", name := "<init>", desc := "()V" } : MethodName)) ∈ tb := tb_in (tm_1 (List.mem_of_getElem? (i := 47) rfl)) rfl
theorem q1_48 : (Cond.code ({ cls := "java/util/AbstractList", name := "<init>", desc := "()V" } : MethodName) prog_31_method_1_code (1 : Nat) none) ∈ tb := tb_in (tm_1 (List.mem_of_getElem? (i := 48) rfl)) rfl
theorem q1_49 : (Cond.methodLink "java/util/AbstractList" (1 : Nat) ({ cls := "java/util/AbstractCollection", name := "<init>", desc := "()V" } : MethodName)) ∈ tb := tb_in (tm_1 (List.mem_of_getElem? (i := 49) rfl)) rfl
theorem q1_50 : (Cond.instanceMethod ({ cls := "java/util/AbstractCollection", name := "<init>", desc := "()V" } : MethodName)) ∈ tb := tb_in (tm_1 (List.mem_of_getElem? (i := 50) rfl)) rfl
theorem q1_51 : (Cond.code ({ cls := "java/util/AbstractCollection", name := "<init>", desc := "()V" } : MethodName) prog_30_method_1_code (1 : Nat) none) ∈ tb := tb_in (tm_1 (List.mem_of_getElem? (i := 51) rfl)) rfl
theorem q1_52 : (Cond.methodLink "java/util/AbstractCollection" (1 : Nat) ({ cls := "java/lang/Object", name := "<init>", desc := "()V" } : MethodName)) ∈ tb := tb_in (tm_1 (List.mem_of_getElem? (i := 52) rfl)) rfl
theorem q1_53 : (Cond.fieldLink "java/util/ArrayList" (39 : Nat) "java/util/ArrayList" "DEFAULTCAPACITY_EMPTY_ELEMENTDATA" "[Ljava/lang/Object;") ∈ tb := tb_in (tm_1 (List.mem_of_getElem? (i := 53) rfl)) rfl
theorem q1_54 : (Cond.laysStatic "java/util/ArrayList" "DEFAULTCAPACITY_EMPTY_ELEMENTDATA" "[Ljava/lang/Object;") ∈ lw_tbl := tm_1 (List.mem_of_getElem? (i := 54) rfl)
theorem q1_55 : (Cond.fieldLink "java/util/ArrayList" (9 : Nat) "java/util/ArrayList" "elementData" "[Ljava/lang/Object;") ∈ tb := tb_in (tm_1 (List.mem_of_getElem? (i := 55) rfl)) rfl
theorem q1_56 : (Cond.fieldLink "java/util/ArrayList" (48 : Nat) "java/util/ArrayList" "size" "I") ∈ tb := tb_in (tm_1 (List.mem_of_getElem? (i := 56) rfl)) rfl
theorem q1_57 : (Cond.fieldLink "java/util/AbstractList" (7 : Nat) "java/util/AbstractList" "modCount" "I") ∈ tb := tb_in (tm_1 (List.mem_of_getElem? (i := 57) rfl)) rfl
theorem q1_58 : (Cond.fieldLink "java/util/ArrayList" (63 : Nat) "java/util/ArrayList" "modCount" "I") ∈ tb := tb_in (tm_1 (List.mem_of_getElem? (i := 58) rfl)) rfl
theorem q1_59 : (Cond.sameField "java/util/ArrayList" "java/util/AbstractList" "modCount" "I") ∈ tb := tb_in (tm_1 (List.mem_of_getElem? (i := 59) rfl)) rfl
theorem q1_60 : (Cond.lays "java/util/ArrayList" "java/util/ArrayList" "elementData" "[Ljava/lang/Object;") ∈ tb := tb_in (tm_1 (List.mem_of_getElem? (i := 60) rfl)) rfl
theorem q1_62 : (Cond.lays "java/util/ArrayList" "java/util/ArrayList" "size" "I") ∈ tb := tb_in (tm_1 (List.mem_of_getElem? (i := 62) rfl)) rfl
theorem q1_64 : (Cond.lays "java/util/ArrayList" "java/util/AbstractList" "modCount" "I") ∈ tb := tb_in (tm_1 (List.mem_of_getElem? (i := 64) rfl)) rfl
theorem q1_67 : (Cond.arrayClass FieldType.byte) ∈ tb := tb_in (tm_1 (List.mem_of_getElem? (i := 67) rfl)) rfl
theorem q1_68 : (Cond.classLink "TrustChain" (26 : Nat) "TrustChain$Sha256") ∈ tb := tb_in (tm_1 (List.mem_of_getElem? (i := 68) rfl)) rfl
theorem q1_69 : (Cond.instantiable "TrustChain$Sha256" (1 : Nat)) ∈ tb := tb_in (tm_1 (List.mem_of_getElem? (i := 69) rfl)) rfl
theorem q1_70 : (Cond.methodLinkNest "TrustChain" (28 : Nat) ({ cls := "TrustChain$Sha256", name := "<init>", desc := "()V" } : MethodName) "TrustChain") ∈ lw_tbl := tm_1 (List.mem_of_getElem? (i := 70) rfl)
theorem q1_71 : (Cond.instanceMethod ({ cls := "TrustChain$Sha256", name := "<init>", desc := "()V" } : MethodName)) ∈ tb := tb_in (tm_1 (List.mem_of_getElem? (i := 71) rfl)) rfl
theorem q1_72 : (Cond.code ({ cls := "TrustChain$Sha256", name := "<init>", desc := "()V" } : MethodName) prog_11_method_1_code (1 : Nat) none) ∈ tb := tb_in (tm_1 (List.mem_of_getElem? (i := 72) rfl)) rfl
theorem q1_73 : (Cond.methodLink "TrustChain$Sha256" (3 : Nat) ({ cls := "java/lang/Object", name := "<init>", desc := "()V" } : MethodName)) ∈ tb := tb_in (tm_1 (List.mem_of_getElem? (i := 73) rfl)) rfl
theorem q1_74 : (Cond.fieldLink "TrustChain$Sha256" (11 : Nat) "TrustChain$Sha256" "schedule" "[I") ∈ tb := tb_in (tm_1 (List.mem_of_getElem? (i := 74) rfl)) rfl
theorem q1_75 : (Cond.laysFinal "TrustChain$Sha256" "TrustChain$Sha256" "schedule" "[I") ∈ tb := tb_in (tm_1 (List.mem_of_getElem? (i := 75) rfl)) rfl
theorem q1_78 : (Cond.arrayClass FieldType.int) ∈ tb := tb_in (tm_1 (List.mem_of_getElem? (i := 78) rfl)) rfl
theorem q1_79 : (Cond.classLink "TrustChain" (33 : Nat) "TrustChain$Rsa") ∈ tb := tb_in (tm_1 (List.mem_of_getElem? (i := 79) rfl)) rfl
theorem q1_80 : (Cond.instantiable "TrustChain$Rsa" (8 : Nat)) ∈ tb := tb_in (tm_1 (List.mem_of_getElem? (i := 80) rfl)) rfl
theorem q1_81 : (Cond.methodLink "TrustChain" (35 : Nat) ({ cls := "TrustChain$Rsa", name := "<init>", desc := "()V" } : MethodName)) ∈ tb := tb_in (tm_1 (List.mem_of_getElem? (i := 81) rfl)) rfl
theorem q1_82 : (Cond.instanceMethod ({ cls := "TrustChain$Rsa", name := "<init>", desc := "()V" } : MethodName)) ∈ tb := tb_in (tm_1 (List.mem_of_getElem? (i := 82) rfl)) rfl
theorem q1_83 : (Cond.code ({ cls := "TrustChain$Rsa", name := "<init>", desc := "()V" } : MethodName) prog_9_method_1_code (1 : Nat) none) ∈ tb := tb_in (tm_1 (List.mem_of_getElem? (i := 83) rfl)) rfl
theorem q1_84 : (Cond.methodLink "TrustChain$Rsa" (3 : Nat) ({ cls := "java/lang/Object", name := "<init>", desc := "()V" } : MethodName)) ∈ tb := tb_in (tm_1 (List.mem_of_getElem? (i := 84) rfl)) rfl
theorem q1_85 : (Cond.fieldLink "TrustChain$Rsa" (11 : Nat) "TrustChain$Rsa" "modulus" "[J") ∈ tb := tb_in (tm_1 (List.mem_of_getElem? (i := 85) rfl)) rfl
theorem q1_86 : (Cond.fieldLink "TrustChain$Rsa" (15 : Nat) "TrustChain$Rsa" "square" "[J") ∈ tb := tb_in (tm_1 (List.mem_of_getElem? (i := 86) rfl)) rfl
theorem q1_87 : (Cond.fieldLink "TrustChain$Rsa" (18 : Nat) "TrustChain$Rsa" "base" "[J") ∈ tb := tb_in (tm_1 (List.mem_of_getElem? (i := 87) rfl)) rfl
theorem q1_88 : (Cond.fieldLink "TrustChain$Rsa" (21 : Nat) "TrustChain$Rsa" "power" "[J") ∈ tb := tb_in (tm_1 (List.mem_of_getElem? (i := 88) rfl)) rfl
theorem q1_89 : (Cond.fieldLink "TrustChain$Rsa" (24 : Nat) "TrustChain$Rsa" "unit" "[J") ∈ tb := tb_in (tm_1 (List.mem_of_getElem? (i := 89) rfl)) rfl
theorem q1_90 : (Cond.fieldLink "TrustChain$Rsa" (27 : Nat) "TrustChain$Rsa" "sum" "[J") ∈ tb := tb_in (tm_1 (List.mem_of_getElem? (i := 90) rfl)) rfl
theorem q1_91 : (Cond.fieldLink "TrustChain$Rsa" (30 : Nat) "TrustChain$Rsa" "limbs" "I") ∈ tb := tb_in (tm_1 (List.mem_of_getElem? (i := 91) rfl)) rfl
theorem q1_92 : (Cond.fieldLink "TrustChain$Rsa" (34 : Nat) "TrustChain$Rsa" "inverse" "J") ∈ tb := tb_in (tm_1 (List.mem_of_getElem? (i := 92) rfl)) rfl
theorem q1_93 : (Cond.laysFinal "TrustChain$Rsa" "TrustChain$Rsa" "modulus" "[J") ∈ tb := tb_in (tm_1 (List.mem_of_getElem? (i := 93) rfl)) rfl
theorem q1_95 : (Cond.laysFinal "TrustChain$Rsa" "TrustChain$Rsa" "square" "[J") ∈ tb := tb_in (tm_1 (List.mem_of_getElem? (i := 95) rfl)) rfl
theorem q1_97 : (Cond.laysFinal "TrustChain$Rsa" "TrustChain$Rsa" "base" "[J") ∈ tb := tb_in (tm_1 (List.mem_of_getElem? (i := 97) rfl)) rfl
theorem q1_99 : (Cond.laysFinal "TrustChain$Rsa" "TrustChain$Rsa" "power" "[J") ∈ tb := tb_in (tm_1 (List.mem_of_getElem? (i := 99) rfl)) rfl
theorem q1_101 : (Cond.laysFinal "TrustChain$Rsa" "TrustChain$Rsa" "unit" "[J") ∈ tb := tb_in (tm_1 (List.mem_of_getElem? (i := 101) rfl)) rfl
theorem q1_103 : (Cond.laysFinal "TrustChain$Rsa" "TrustChain$Rsa" "sum" "[J") ∈ tb := tb_in (tm_1 (List.mem_of_getElem? (i := 103) rfl)) rfl
theorem q1_105 : (Cond.lays "TrustChain$Rsa" "TrustChain$Rsa" "limbs" "I") ∈ tb := tb_in (tm_1 (List.mem_of_getElem? (i := 105) rfl)) rfl
theorem q1_107 : (Cond.lays "TrustChain$Rsa" "TrustChain$Rsa" "inverse" "J") ∈ tb := tb_in (tm_1 (List.mem_of_getElem? (i := 107) rfl)) rfl
theorem q1_110 : (Cond.arrayClass FieldType.long) ∈ tb := tb_in (tm_1 (List.mem_of_getElem? (i := 110) rfl)) rfl
theorem q1_111 : (Cond.classLink "TrustChain" (40 : Nat) "TrustChain$Search") ∈ tb := tb_in (tm_1 (List.mem_of_getElem? (i := 111) rfl)) rfl
theorem q1_112 : (Cond.instantiable "TrustChain$Search" (5 : Nat)) ∈ tb := tb_in (tm_1 (List.mem_of_getElem? (i := 112) rfl)) rfl
theorem q1_113 : (Cond.methodLinkNest "TrustChain" (42 : Nat) ({ cls := "TrustChain$Search", name := "<init>", desc := "()V" } : MethodName) "TrustChain") ∈ lw_tbl := tm_1 (List.mem_of_getElem? (i := 113) rfl)
theorem q1_114 : (Cond.instanceMethod ({ cls := "TrustChain$Search", name := "<init>", desc := "()V" } : MethodName)) ∈ tb := tb_in (tm_1 (List.mem_of_getElem? (i := 114) rfl)) rfl
theorem q1_115 : (Cond.code ({ cls := "TrustChain$Search", name := "<init>", desc := "()V" } : MethodName) prog_10_method_1_code (1 : Nat) none) ∈ tb := tb_in (tm_1 (List.mem_of_getElem? (i := 115) rfl)) rfl
theorem q1_116 : (Cond.methodLink "TrustChain$Search" (3 : Nat) ({ cls := "java/lang/Object", name := "<init>", desc := "()V" } : MethodName)) ∈ tb := tb_in (tm_1 (List.mem_of_getElem? (i := 116) rfl)) rfl
theorem q1_117 : (Cond.classLink "TrustChain$Search" (9 : Nat) "java/util/ArrayList") ∈ tb := tb_in (tm_1 (List.mem_of_getElem? (i := 117) rfl)) rfl
theorem q1_118 : (Cond.methodLink "TrustChain$Search" (11 : Nat) ({ cls := "java/util/ArrayList", name := "<init>", desc := "()V" } : MethodName)) ∈ tb := tb_in (tm_1 (List.mem_of_getElem? (i := 118) rfl)) rfl
theorem q1_119 : (Cond.fieldLink "TrustChain$Search" (12 : Nat) "TrustChain$Search" "path" "Ljava/util/ArrayList;") ∈ tb := tb_in (tm_1 (List.mem_of_getElem? (i := 119) rfl)) rfl
theorem q1_120 : (Cond.fieldLink "TrustChain" (210 : Nat) "TrustChain$Search" "path" "Ljava/util/ArrayList;") ∈ tb := tb_in (tm_1 (List.mem_of_getElem? (i := 120) rfl)) rfl
theorem q1_121 : (Cond.fieldLink "TrustChain$Search" (18 : Nat) "TrustChain$Search" "next" "[I") ∈ tb := tb_in (tm_1 (List.mem_of_getElem? (i := 121) rfl)) rfl
theorem q1_122 : (Cond.fieldLink "TrustChain$Search" (22 : Nat) "TrustChain$Search" "depth" "I") ∈ tb := tb_in (tm_1 (List.mem_of_getElem? (i := 122) rfl)) rfl
theorem q1_123 : (Cond.fieldLink "TrustChain$Search" (26 : Nat) "TrustChain$Search" "puts" "I") ∈ tb := tb_in (tm_1 (List.mem_of_getElem? (i := 123) rfl)) rfl
theorem q1_124 : (Cond.fieldLink "TrustChain$Search" (29 : Nat) "TrustChain$Search" "onPath" "I") ∈ tb := tb_in (tm_1 (List.mem_of_getElem? (i := 124) rfl)) rfl
theorem q1_125 : (Cond.laysFinal "TrustChain$Search" "TrustChain$Search" "path" "Ljava/util/ArrayList;") ∈ tb := tb_in (tm_1 (List.mem_of_getElem? (i := 125) rfl)) rfl
theorem q1_127 : (Cond.laysFinal "TrustChain$Search" "TrustChain$Search" "next" "[I") ∈ tb := tb_in (tm_1 (List.mem_of_getElem? (i := 127) rfl)) rfl
theorem q1_129 : (Cond.lays "TrustChain$Search" "TrustChain$Search" "depth" "I") ∈ tb := tb_in (tm_1 (List.mem_of_getElem? (i := 129) rfl)) rfl
theorem q1_131 : (Cond.lays "TrustChain$Search" "TrustChain$Search" "puts" "I") ∈ tb := tb_in (tm_1 (List.mem_of_getElem? (i := 131) rfl)) rfl
theorem q1_133 : (Cond.lays "TrustChain$Search" "TrustChain$Search" "onPath" "I") ∈ tb := tb_in (tm_1 (List.mem_of_getElem? (i := 133) rfl)) rfl
theorem q1_136 : (Cond.classLink "TrustChain" (47 : Nat) "TrustChain$PathCheck") ∈ tb := tb_in (tm_1 (List.mem_of_getElem? (i := 136) rfl)) rfl
theorem q1_137 : (Cond.instantiable "TrustChain$PathCheck" (4 : Nat)) ∈ tb := tb_in (tm_1 (List.mem_of_getElem? (i := 137) rfl)) rfl
theorem q1_138 : (Cond.methodLinkNest "TrustChain" (49 : Nat) ({ cls := "TrustChain$PathCheck", name := "<init>", desc := "()V" } : MethodName) "TrustChain") ∈ lw_tbl := tm_1 (List.mem_of_getElem? (i := 138) rfl)
theorem q1_139 : (Cond.instanceMethod ({ cls := "TrustChain$PathCheck", name := "<init>", desc := "()V" } : MethodName)) ∈ tb := tb_in (tm_1 (List.mem_of_getElem? (i := 139) rfl)) rfl
theorem q1_140 : (Cond.code ({ cls := "TrustChain$PathCheck", name := "<init>", desc := "()V" } : MethodName) prog_7_method_1_code (1 : Nat) none) ∈ tb := tb_in (tm_1 (List.mem_of_getElem? (i := 140) rfl)) rfl
theorem q1_141 : (Cond.methodLink "TrustChain$PathCheck" (3 : Nat) ({ cls := "java/lang/Object", name := "<init>", desc := "()V" } : MethodName)) ∈ tb := tb_in (tm_1 (List.mem_of_getElem? (i := 141) rfl)) rfl
theorem q1_142 : (Cond.fieldLink "TrustChain$PathCheck" (9 : Nat) "TrustChain$PathCheck" "faultPlace" "I") ∈ tb := tb_in (tm_1 (List.mem_of_getElem? (i := 142) rfl)) rfl
theorem q1_143 : (Cond.fieldLink "TrustChain" (217 : Nat) "TrustChain$PathCheck" "faultPlace" "I") ∈ tb := tb_in (tm_1 (List.mem_of_getElem? (i := 143) rfl)) rfl
theorem q1_144 : (Cond.fieldLink "TrustChain$PathCheck" (15 : Nat) "TrustChain$PathCheck" "time" "J") ∈ tb := tb_in (tm_1 (List.mem_of_getElem? (i := 144) rfl)) rfl
theorem q1_145 : (Cond.fieldLink "TrustChain$PathCheck" (19 : Nat) "TrustChain$PathCheck" "knownWanted" "Z") ∈ tb := tb_in (tm_1 (List.mem_of_getElem? (i := 145) rfl)) rfl
theorem q1_146 : (Cond.fieldLink "TrustChain$PathCheck" (23 : Nat) "TrustChain$PathCheck" "isKnown" "Z") ∈ tb := tb_in (tm_1 (List.mem_of_getElem? (i := 146) rfl)) rfl
theorem q1_147 : (Cond.lays "TrustChain$PathCheck" "TrustChain$PathCheck" "faultPlace" "I") ∈ tb := tb_in (tm_1 (List.mem_of_getElem? (i := 147) rfl)) rfl
theorem q1_149 : (Cond.lays "TrustChain$PathCheck" "TrustChain$PathCheck" "time" "J") ∈ tb := tb_in (tm_1 (List.mem_of_getElem? (i := 149) rfl)) rfl
theorem q1_151 : (Cond.lays "TrustChain$PathCheck" "TrustChain$PathCheck" "knownWanted" "Z") ∈ tb := tb_in (tm_1 (List.mem_of_getElem? (i := 151) rfl)) rfl
theorem q1_153 : (Cond.lays "TrustChain$PathCheck" "TrustChain$PathCheck" "isKnown" "Z") ∈ tb := tb_in (tm_1 (List.mem_of_getElem? (i := 153) rfl)) rfl
theorem q1_156 : (Cond.fieldLink "TrustChain" (9 : Nat) "TrustChain" "fed" "[B") ∈ tb := tb_in (tm_1 (List.mem_of_getElem? (i := 156) rfl)) rfl
theorem q1_157 : (Cond.fieldLink "TrustChain" (13 : Nat) "TrustChain" "host" "[B") ∈ tb := tb_in (tm_1 (List.mem_of_getElem? (i := 157) rfl)) rfl
theorem q1_158 : (Cond.fieldLink "TrustChain" (19 : Nat) "TrustChain" "certificates" "Ljava/util/ArrayList;") ∈ tb := tb_in (tm_1 (List.mem_of_getElem? (i := 158) rfl)) rfl
theorem q1_159 : (Cond.fieldLink "TrustChain" (23 : Nat) "TrustChain" "lists" "Ljava/util/ArrayList;") ∈ tb := tb_in (tm_1 (List.mem_of_getElem? (i := 159) rfl)) rfl
theorem q1_160 : (Cond.fieldLink "TrustChain" (29 : Nat) "TrustChain" "sha" "LTrustChain$Sha256;") ∈ tb := tb_in (tm_1 (List.mem_of_getElem? (i := 160) rfl)) rfl
theorem q1_161 : (Cond.fieldLink "TrustChain" (36 : Nat) "TrustChain" "rsa" "LTrustChain$Rsa;") ∈ tb := tb_in (tm_1 (List.mem_of_getElem? (i := 161) rfl)) rfl
theorem q1_162 : (Cond.fieldLink "TrustChain" (43 : Nat) "TrustChain" "search" "LTrustChain$Search;") ∈ tb := tb_in (tm_1 (List.mem_of_getElem? (i := 162) rfl)) rfl
theorem q1_163 : (Cond.fieldLink "TrustChain" (50 : Nat) "TrustChain" "check" "LTrustChain$PathCheck;") ∈ tb := tb_in (tm_1 (List.mem_of_getElem? (i := 163) rfl)) rfl
theorem q1_164 : (Cond.fieldLink "TrustChain" (54 : Nat) "TrustChain" "found" "[I") ∈ tb := tb_in (tm_1 (List.mem_of_getElem? (i := 164) rfl)) rfl
theorem q1_165 : (Cond.fieldLink "TrustChain" (58 : Nat) "TrustChain" "foundSize" "I") ∈ tb := tb_in (tm_1 (List.mem_of_getElem? (i := 165) rfl)) rfl
theorem q1_166 : (Cond.fieldLink "TrustChain" (62 : Nat) "TrustChain" "chainsSeen" "I") ∈ tb := tb_in (tm_1 (List.mem_of_getElem? (i := 166) rfl)) rfl
theorem q1_167 : (Cond.fieldLink "TrustChain" (65 : Nat) "TrustChain" "faultPlace" "I") ∈ tb := tb_in (tm_1 (List.mem_of_getElem? (i := 167) rfl)) rfl
theorem q1_168 : (Cond.fieldLink "TrustChain" (68 : Nat) "TrustChain" "fedSize" "I") ∈ tb := tb_in (tm_1 (List.mem_of_getElem? (i := 168) rfl)) rfl
theorem q1_169 : (Cond.fieldLink "TrustChain" (71 : Nat) "TrustChain" "wrongPlace" "I") ∈ tb := tb_in (tm_1 (List.mem_of_getElem? (i := 169) rfl)) rfl
theorem q1_170 : (Cond.laysFinal "TrustChain" "TrustChain" "fed" "[B") ∈ tb := tb_in (tm_1 (List.mem_of_getElem? (i := 170) rfl)) rfl
theorem q1_172 : (Cond.laysFinal "TrustChain" "TrustChain" "host" "[B") ∈ tb := tb_in (tm_1 (List.mem_of_getElem? (i := 172) rfl)) rfl
theorem q1_174 : (Cond.laysFinal "TrustChain" "TrustChain" "certificates" "Ljava/util/ArrayList;") ∈ tb := tb_in (tm_1 (List.mem_of_getElem? (i := 174) rfl)) rfl
theorem q1_175 : (Cond.soleField "TrustChain" "certificates") ∈ tb := tb_in (tm_1 (List.mem_of_getElem? (i := 175) rfl)) rfl
theorem q1_176 : (Cond.laysFinal "TrustChain" "TrustChain" "lists" "Ljava/util/ArrayList;") ∈ tb := tb_in (tm_1 (List.mem_of_getElem? (i := 176) rfl)) rfl
theorem q1_178 : (Cond.laysFinal "TrustChain" "TrustChain" "sha" "LTrustChain$Sha256;") ∈ tb := tb_in (tm_1 (List.mem_of_getElem? (i := 178) rfl)) rfl
theorem q1_180 : (Cond.laysFinal "TrustChain" "TrustChain" "rsa" "LTrustChain$Rsa;") ∈ tb := tb_in (tm_1 (List.mem_of_getElem? (i := 180) rfl)) rfl
theorem q1_182 : (Cond.laysFinal "TrustChain" "TrustChain" "search" "LTrustChain$Search;") ∈ tb := tb_in (tm_1 (List.mem_of_getElem? (i := 182) rfl)) rfl
theorem q1_184 : (Cond.laysFinal "TrustChain" "TrustChain" "check" "LTrustChain$PathCheck;") ∈ tb := tb_in (tm_1 (List.mem_of_getElem? (i := 184) rfl)) rfl
theorem q1_185 : (Cond.soleField "TrustChain" "check") ∈ tb := tb_in (tm_1 (List.mem_of_getElem? (i := 185) rfl)) rfl
theorem q1_186 : (Cond.laysFinal "TrustChain" "TrustChain" "found" "[I") ∈ tb := tb_in (tm_1 (List.mem_of_getElem? (i := 186) rfl)) rfl
theorem q1_188 : (Cond.lays "TrustChain" "TrustChain" "foundSize" "I") ∈ tb := tb_in (tm_1 (List.mem_of_getElem? (i := 188) rfl)) rfl
theorem q1_190 : (Cond.lays "TrustChain" "TrustChain" "chainsSeen" "I") ∈ tb := tb_in (tm_1 (List.mem_of_getElem? (i := 190) rfl)) rfl
theorem q1_192 : (Cond.lays "TrustChain" "TrustChain" "faultPlace" "I") ∈ tb := tb_in (tm_1 (List.mem_of_getElem? (i := 192) rfl)) rfl
theorem q1_194 : (Cond.lays "TrustChain" "TrustChain" "fedSize" "I") ∈ tb := tb_in (tm_1 (List.mem_of_getElem? (i := 194) rfl)) rfl
theorem q1_196 : (Cond.lays "TrustChain" "TrustChain" "wrongPlace" "I") ∈ tb := tb_in (tm_1 (List.mem_of_getElem? (i := 196) rfl)) rfl
theorem q1_199 : (Cond.methodLink "TrustChainLaw" (76 : Nat) ({ cls := "TrustChain", name := "wrong", desc := "()I" } : MethodName)) ∈ tb := tb_in (tm_1 (List.mem_of_getElem? (i := 199) rfl)) rfl
theorem q1_200 : (Cond.instanceMethod ({ cls := "TrustChain", name := "wrong", desc := "()I" } : MethodName)) ∈ tb := tb_in (tm_1 (List.mem_of_getElem? (i := 200) rfl)) rfl
theorem q1_201 : (Cond.selects "TrustChain" ({ cls := "TrustChain", name := "wrong", desc := "()I" } : MethodName) ({ cls := "TrustChain", name := "wrong", desc := "()I" } : MethodName)) ∈ tb := tb_in (tm_1 (List.mem_of_getElem? (i := 201) rfl)) rfl
theorem q1_202 : (Cond.code ({ cls := "TrustChain", name := "wrong", desc := "()I" } : MethodName) prog_1_method_5_code (1 : Nat) (some FieldType.int)) ∈ tb := tb_in (tm_1 (List.mem_of_getElem? (i := 202) rfl)) rfl
theorem q1_203 : (Cond.methodLink "TrustChainLaw" (62 : Nat) ({ cls := "TrustChainLaw", name := "feed", desc := "(LTrustChain;IIIII[J)I" } : MethodName)) ∈ tb := tb_in (tm_1 (List.mem_of_getElem? (i := 203) rfl)) rfl
theorem q1_204 : (Cond.static ({ cls := "TrustChainLaw", name := "feed", desc := "(LTrustChain;IIIII[J)I" } : MethodName)) ∈ tb := tb_in (tm_1 (List.mem_of_getElem? (i := 204) rfl)) rfl
theorem q1_205 : (Cond.codeWith ({ cls := "TrustChainLaw", name := "feed", desc := "(LTrustChain;IIIII[J)I" } : MethodName) method_3_code (8 : Nat) (some FieldType.int) [((0 : Nat), (16 : Nat), (19 : Nat), (13 : Nat))]) ∈ tb := tb_in (tm_1 (List.mem_of_getElem? (i := 205) rfl)) rfl
theorem q1_206 : (Cond.classLink "TrustChainLaw" (13 : Nat) "java/lang/IndexOutOfBoundsException") ∈ tb := tb_in (tm_1 (List.mem_of_getElem? (i := 206) rfl)) rfl
theorem q1_207 : (Cond.methodLink "TrustChainLaw" (7 : Nat) ({ cls := "TrustChain", name := "feed", desc := "(IIIII)I" } : MethodName)) ∈ tb := tb_in (tm_1 (List.mem_of_getElem? (i := 207) rfl)) rfl
theorem q1_208 : (Cond.instanceMethod ({ cls := "TrustChain", name := "feed", desc := "(IIIII)I" } : MethodName)) ∈ tb := tb_in (tm_1 (List.mem_of_getElem? (i := 208) rfl)) rfl
theorem q1_209 : (Cond.selects "TrustChain" ({ cls := "TrustChain", name := "feed", desc := "(IIIII)I" } : MethodName) ({ cls := "TrustChain", name := "feed", desc := "(IIIII)I" } : MethodName)) ∈ tb := tb_in (tm_1 (List.mem_of_getElem? (i := 209) rfl)) rfl
theorem q1_210 : (Cond.code ({ cls := "TrustChain", name := "feed", desc := "(IIIII)I" } : MethodName) prog_1_method_2_code (6 : Nat) (some FieldType.int)) ∈ tb := tb_in (tm_1 (List.mem_of_getElem? (i := 210) rfl)) rfl
theorem q1_211 : (Cond.classLink "TrustChain" (74 : Nat) "java/lang/IndexOutOfBoundsException") ∈ tb := tb_in (tm_1 (List.mem_of_getElem? (i := 211) rfl)) rfl
theorem q1_213 : (Cond.castable "java/lang/IndexOutOfBoundsException" "java/lang/IndexOutOfBoundsException") ∈ lw_tbl := tm_1 (List.mem_of_getElem? (i := 213) rfl)
theorem q1_214 : (Cond.declares ({ cls := "java/lang/RuntimeException", name := "<init>", desc := "()V" } : MethodName)) ∈ lw_tbl := tm_1 (List.mem_of_getElem? (i := 214) rfl)
theorem q1_215 : (Cond.declares ({ cls := "java/lang/RuntimeException", name := "<init>", desc := "(Ljava/lang/String;)V" } : MethodName)) ∈ lw_tbl := tm_1 (List.mem_of_getElem? (i := 215) rfl)
theorem q1_216 : (Cond.declares ({ cls := "java/lang/Exception", name := "<init>", desc := "()V" } : MethodName)) ∈ lw_tbl := tm_1 (List.mem_of_getElem? (i := 216) rfl)
theorem q1_217 : (Cond.declares ({ cls := "java/lang/Exception", name := "<init>", desc := "(Ljava/lang/String;)V" } : MethodName)) ∈ lw_tbl := tm_1 (List.mem_of_getElem? (i := 217) rfl)
theorem q1_218 : (Cond.declares ({ cls := "java/lang/Throwable", name := "<init>", desc := "()V" } : MethodName)) ∈ lw_tbl := tm_1 (List.mem_of_getElem? (i := 218) rfl)
theorem q1_219 : (Cond.declares ({ cls := "java/lang/Throwable", name := "<init>", desc := "(Ljava/lang/String;)V" } : MethodName)) ∈ lw_tbl := tm_1 (List.mem_of_getElem? (i := 219) rfl)
theorem q1_238 : (Cond.laysStatic "java/lang/Throwable" "UNASSIGNED_STACK" "[Ljava/lang/StackTraceElement;") ∈ lw_tbl := tm_1 (List.mem_of_getElem? (i := 238) rfl)
theorem q2_0 : (Cond.laysStatic "java/lang/Throwable" "SUPPRESSED_SENTINEL" "Ljava/util/List;") ∈ lw_tbl := tm_2 (List.mem_of_getElem? (i := 0) rfl)
theorem q2_37 : (Cond.methodLink "TrustChain" (81 : Nat) ({ cls := "TrustChain", name := "takeWord", desc := "(I)V" } : MethodName)) ∈ tb := tb_in (tm_2 (List.mem_of_getElem? (i := 37) rfl)) rfl
theorem q2_39 : (Cond.instanceMethod ({ cls := "TrustChain", name := "takeWord", desc := "(I)V" } : MethodName)) ∈ tb := tb_in (tm_2 (List.mem_of_getElem? (i := 39) rfl)) rfl
theorem q2_40 : (Cond.code ({ cls := "TrustChain", name := "takeWord", desc := "(I)V" } : MethodName) prog_1_method_15_code (3 : Nat) none) ∈ tb := tb_in (tm_2 (List.mem_of_getElem? (i := 40) rfl)) rfl
theorem q2_41 : (Cond.methodLink "TrustChainLaw" (68 : Nat) ({ cls := "TrustChainLaw", name := "certificate", desc := "(LTrustChain;IZ[J)I" } : MethodName)) ∈ tb := tb_in (tm_2 (List.mem_of_getElem? (i := 41) rfl)) rfl
theorem q2_42 : (Cond.static ({ cls := "TrustChainLaw", name := "certificate", desc := "(LTrustChain;IZ[J)I" } : MethodName)) ∈ tb := tb_in (tm_2 (List.mem_of_getElem? (i := 42) rfl)) rfl
theorem q2_43 : (Cond.codeWith ({ cls := "TrustChainLaw", name := "certificate", desc := "(LTrustChain;IZ[J)I" } : MethodName) method_4_code (5 : Nat) (some FieldType.int) [((0 : Nat), (10 : Nat), (13 : Nat), (13 : Nat)), ((0 : Nat), (10 : Nat), (17 : Nat), (19 : Nat))]) ∈ tb := tb_in (tm_2 (List.mem_of_getElem? (i := 43) rfl)) rfl
theorem q2_44 : (Cond.classLink "TrustChainLaw" (19 : Nat) "java/lang/IllegalArgumentException") ∈ tb := tb_in (tm_2 (List.mem_of_getElem? (i := 44) rfl)) rfl
theorem q2_45 : (Cond.methodLink "TrustChainLaw" (15 : Nat) ({ cls := "TrustChain", name := "certificate", desc := "(IZ)I" } : MethodName)) ∈ tb := tb_in (tm_2 (List.mem_of_getElem? (i := 45) rfl)) rfl
theorem q2_46 : (Cond.instanceMethod ({ cls := "TrustChain", name := "certificate", desc := "(IZ)I" } : MethodName)) ∈ tb := tb_in (tm_2 (List.mem_of_getElem? (i := 46) rfl)) rfl
theorem q2_47 : (Cond.selects "TrustChain" ({ cls := "TrustChain", name := "certificate", desc := "(IZ)I" } : MethodName) ({ cls := "TrustChain", name := "certificate", desc := "(IZ)I" } : MethodName)) ∈ tb := tb_in (tm_2 (List.mem_of_getElem? (i := 47) rfl)) rfl
theorem q2_48 : (Cond.code ({ cls := "TrustChain", name := "certificate", desc := "(IZ)I" } : MethodName) prog_1_method_3_code (5 : Nat) (some FieldType.int)) ∈ tb := tb_in (tm_2 (List.mem_of_getElem? (i := 48) rfl)) rfl
theorem q2_49 : (Cond.methodLink "TrustChain" (85 : Nat) ({ cls := "TrustChain", name := "isFed", desc := "(I)Z" } : MethodName)) ∈ tb := tb_in (tm_2 (List.mem_of_getElem? (i := 49) rfl)) rfl
theorem q2_51 : (Cond.instanceMethod ({ cls := "TrustChain", name := "isFed", desc := "(I)Z" } : MethodName)) ∈ tb := tb_in (tm_2 (List.mem_of_getElem? (i := 51) rfl)) rfl
theorem q2_52 : (Cond.code ({ cls := "TrustChain", name := "isFed", desc := "(I)Z" } : MethodName) prog_1_method_17_code (2 : Nat) (some FieldType.boolean)) ∈ tb := tb_in (tm_2 (List.mem_of_getElem? (i := 52) rfl)) rfl
theorem q2_53 : (Cond.methodLink "TrustChain" (89 : Nat) ({ cls := "java/util/ArrayList", name := "size", desc := "()I" } : MethodName)) ∈ tb := tb_in (tm_2 (List.mem_of_getElem? (i := 53) rfl)) rfl
theorem q2_54 : (Cond.instanceMethod ({ cls := "java/util/ArrayList", name := "size", desc := "()I" } : MethodName)) ∈ tb := tb_in (tm_2 (List.mem_of_getElem? (i := 54) rfl)) rfl
theorem q2_55 : (Cond.selects "java/util/ArrayList" ({ cls := "java/util/ArrayList", name := "size", desc := "()I" } : MethodName) ({ cls := "java/util/ArrayList", name := "size", desc := "()I" } : MethodName)) ∈ tb := tb_in (tm_2 (List.mem_of_getElem? (i := 55) rfl)) rfl
theorem q2_56 : (Cond.code ({ cls := "java/util/ArrayList", name := "size", desc := "()I" } : MethodName) prog_32_method_8_code (1 : Nat) (some FieldType.int)) ∈ tb := tb_in (tm_2 (List.mem_of_getElem? (i := 56) rfl)) rfl
theorem q2_58 : (Cond.classLink "TrustChain" (95 : Nat) "TrustChain$CertificateReader") ∈ tb := tb_in (tm_2 (List.mem_of_getElem? (i := 58) rfl)) rfl
theorem q2_59 : (Cond.instantiable "TrustChain$CertificateReader" (9 : Nat)) ∈ tb := tb_in (tm_2 (List.mem_of_getElem? (i := 59) rfl)) rfl
theorem q2_60 : (Cond.methodLink "TrustChain" (97 : Nat) ({ cls := "TrustChain", name := "takeText", desc := "(I)[B" } : MethodName)) ∈ tb := tb_in (tm_2 (List.mem_of_getElem? (i := 60) rfl)) rfl
theorem q2_62 : (Cond.instanceMethod ({ cls := "TrustChain", name := "takeText", desc := "(I)[B" } : MethodName)) ∈ tb := tb_in (tm_2 (List.mem_of_getElem? (i := 62) rfl)) rfl
theorem q2_63 : (Cond.code ({ cls := "TrustChain", name := "takeText", desc := "(I)[B" } : MethodName) prog_1_method_18_code (2 : Nat) (some (FieldType.array FieldType.byte))) ∈ tb := tb_in (tm_2 (List.mem_of_getElem? (i := 63) rfl)) rfl
theorem q2_64 : (Cond.methodLink "TrustChain" (248 : Nat) ({ cls := "java/util/Arrays", name := "copyOf", desc := "([BI)[B" } : MethodName)) ∈ tb := tb_in (tm_2 (List.mem_of_getElem? (i := 64) rfl)) rfl
theorem q2_65 : (Cond.static ({ cls := "java/util/Arrays", name := "copyOf", desc := "([BI)[B" } : MethodName)) ∈ tb := tb_in (tm_2 (List.mem_of_getElem? (i := 65) rfl)) rfl
theorem q2_66 : (Cond.code ({ cls := "java/util/Arrays", name := "copyOf", desc := "([BI)[B" } : MethodName) prog_33_method_121_code (3 : Nat) (some (FieldType.array FieldType.byte))) ∈ tb := tb_in (tm_2 (List.mem_of_getElem? (i := 66) rfl)) rfl
theorem q2_72 : (Cond.castable "[B" "java/lang/Cloneable") ∈ lw_tbl := tm_2 (List.mem_of_getElem? (i := 72) rfl)
theorem q2_73 : (Cond.classLink "java/util/Arrays" (311 : Nat) "[B") ∈ tb := tb_in (tm_2 (List.mem_of_getElem? (i := 73) rfl)) rfl
theorem q2_74 : (Cond.methodLink "java/util/Arrays" (304 : Nat) ({ cls := "java/lang/Math", name := "min", desc := "(II)I" } : MethodName)) ∈ tb := tb_in (tm_2 (List.mem_of_getElem? (i := 74) rfl)) rfl
theorem q2_75 : (Cond.static ({ cls := "java/lang/Math", name := "min", desc := "(II)I" } : MethodName)) ∈ tb := tb_in (tm_2 (List.mem_of_getElem? (i := 75) rfl)) rfl
theorem q2_76 : (Cond.code ({ cls := "java/lang/Math", name := "min", desc := "(II)I" } : MethodName) prog_23_method_69_code (2 : Nat) (some FieldType.int)) ∈ tb := tb_in (tm_2 (List.mem_of_getElem? (i := 76) rfl)) rfl
theorem q2_77 : (Cond.methodLink "java/util/Arrays" (150 : Nat) ({ cls := "java/lang/System", name := "arraycopy", desc := "(Ljava/lang/Object;ILjava/lang/Object;II)V" } : MethodName)) ∈ tb := tb_in (tm_2 (List.mem_of_getElem? (i := 77) rfl)) rfl
theorem q2_78 : (Cond.static ({ cls := "java/lang/System", name := "arraycopy", desc := "(Ljava/lang/Object;ILjava/lang/Object;II)V" } : MethodName)) ∈ tb := tb_in (tm_2 (List.mem_of_getElem? (i := 78) rfl)) rfl
theorem q2_79 : (Cond.native ({ cls := "java/lang/System", name := "arraycopy", desc := "(Ljava/lang/Object;ILjava/lang/Object;II)V" } : MethodName)) ∈ tb := tb_in (tm_2 (List.mem_of_getElem? (i := 79) rfl)) rfl
theorem q2_80 : (Cond.methodLink "TrustChain" (101 : Nat) ({ cls := "TrustChain$CertificateReader", name := "<init>", desc := "([B)V" } : MethodName)) ∈ tb := tb_in (tm_2 (List.mem_of_getElem? (i := 80) rfl)) rfl
theorem q2_81 : (Cond.instanceMethod ({ cls := "TrustChain$CertificateReader", name := "<init>", desc := "([B)V" } : MethodName)) ∈ tb := tb_in (tm_2 (List.mem_of_getElem? (i := 81) rfl)) rfl
theorem q2_82 : (Cond.code ({ cls := "TrustChain$CertificateReader", name := "<init>", desc := "([B)V" } : MethodName) prog_3_method_1_code (2 : Nat) none) ∈ tb := tb_in (tm_2 (List.mem_of_getElem? (i := 82) rfl)) rfl
theorem q2_83 : (Cond.methodLink "TrustChain$CertificateReader" (3 : Nat) ({ cls := "TrustChain$Reader", name := "<init>", desc := "([B)V" } : MethodName)) ∈ tb := tb_in (tm_2 (List.mem_of_getElem? (i := 83) rfl)) rfl
theorem q2_84 : (Cond.instanceMethod ({ cls := "TrustChain$Reader", name := "<init>", desc := "([B)V" } : MethodName)) ∈ tb := tb_in (tm_2 (List.mem_of_getElem? (i := 84) rfl)) rfl
theorem q2_85 : (Cond.code ({ cls := "TrustChain$Reader", name := "<init>", desc := "([B)V" } : MethodName) prog_8_method_1_code (2 : Nat) none) ∈ tb := tb_in (tm_2 (List.mem_of_getElem? (i := 85) rfl)) rfl
theorem q2_86 : (Cond.methodLink "TrustChain$Reader" (3 : Nat) ({ cls := "java/lang/Object", name := "<init>", desc := "()V" } : MethodName)) ∈ tb := tb_in (tm_2 (List.mem_of_getElem? (i := 86) rfl)) rfl
theorem q2_87 : (Cond.classLink "TrustChain$Reader" (30 : Nat) "java/util/ArrayList") ∈ tb := tb_in (tm_2 (List.mem_of_getElem? (i := 87) rfl)) rfl
theorem q2_88 : (Cond.methodLink "TrustChain$Reader" (32 : Nat) ({ cls := "java/util/ArrayList", name := "<init>", desc := "()V" } : MethodName)) ∈ tb := tb_in (tm_2 (List.mem_of_getElem? (i := 88) rfl)) rfl
theorem q2_89 : (Cond.classLink "TrustChain$CertificateReader" (9 : Nat) "TrustChain$Certificate") ∈ tb := tb_in (tm_2 (List.mem_of_getElem? (i := 89) rfl)) rfl
theorem q2_90 : (Cond.instantiable "TrustChain$Certificate" (28 : Nat)) ∈ tb := tb_in (tm_2 (List.mem_of_getElem? (i := 90) rfl)) rfl
theorem q2_91 : (Cond.classLink "TrustChain$CertificateReader" (11 : Nat) "TrustChain$Slice") ∈ tb := tb_in (tm_2 (List.mem_of_getElem? (i := 91) rfl)) rfl
theorem q2_92 : (Cond.instantiable "TrustChain$Slice" (3 : Nat)) ∈ tb := tb_in (tm_2 (List.mem_of_getElem? (i := 92) rfl)) rfl
theorem q2_93 : (Cond.methodLink "TrustChain$CertificateReader" (13 : Nat) ({ cls := "TrustChain$Slice", name := "<init>", desc := "([BII)V" } : MethodName)) ∈ tb := tb_in (tm_2 (List.mem_of_getElem? (i := 93) rfl)) rfl
theorem q2_94 : (Cond.instanceMethod ({ cls := "TrustChain$Slice", name := "<init>", desc := "([BII)V" } : MethodName)) ∈ tb := tb_in (tm_2 (List.mem_of_getElem? (i := 94) rfl)) rfl
theorem q2_95 : (Cond.code ({ cls := "TrustChain$Slice", name := "<init>", desc := "([BII)V" } : MethodName) prog_12_method_1_code (4 : Nat) none) ∈ tb := tb_in (tm_2 (List.mem_of_getElem? (i := 95) rfl)) rfl
theorem q2_96 : (Cond.methodLink "TrustChain$Slice" (3 : Nat) ({ cls := "java/lang/Object", name := "<init>", desc := "()V" } : MethodName)) ∈ tb := tb_in (tm_2 (List.mem_of_getElem? (i := 96) rfl)) rfl
theorem q2_97 : (Cond.fieldLink "TrustChain$Slice" (9 : Nat) "TrustChain$Slice" "text" "[B") ∈ tb := tb_in (tm_2 (List.mem_of_getElem? (i := 97) rfl)) rfl
theorem q2_98 : (Cond.fieldLink "TrustChain$Slice" (15 : Nat) "TrustChain$Slice" "from" "I") ∈ tb := tb_in (tm_2 (List.mem_of_getElem? (i := 98) rfl)) rfl
theorem q2_99 : (Cond.fieldLinkNest "TrustChain$CertificateReader" (147 : Nat) "TrustChain$Slice" "from" "I" "TrustChain") ∈ lw_tbl := tm_2 (List.mem_of_getElem? (i := 99) rfl)
theorem q2_100 : (Cond.fieldLink "TrustChain$Slice" (19 : Nat) "TrustChain$Slice" "to" "I") ∈ tb := tb_in (tm_2 (List.mem_of_getElem? (i := 100) rfl)) rfl
theorem q2_101 : (Cond.fieldLinkNest "TrustChain$CertificateReader" (150 : Nat) "TrustChain$Slice" "to" "I" "TrustChain") ∈ lw_tbl := tm_2 (List.mem_of_getElem? (i := 101) rfl)
theorem q2_102 : (Cond.laysFinal "TrustChain$Slice" "TrustChain$Slice" "text" "[B") ∈ tb := tb_in (tm_2 (List.mem_of_getElem? (i := 102) rfl)) rfl
theorem q2_104 : (Cond.laysFinal "TrustChain$Slice" "TrustChain$Slice" "from" "I") ∈ tb := tb_in (tm_2 (List.mem_of_getElem? (i := 104) rfl)) rfl
theorem q2_106 : (Cond.laysFinal "TrustChain$Slice" "TrustChain$Slice" "to" "I") ∈ tb := tb_in (tm_2 (List.mem_of_getElem? (i := 106) rfl)) rfl
theorem q2_109 : (Cond.methodLink "TrustChain$CertificateReader" (16 : Nat) ({ cls := "TrustChain$Certificate", name := "<init>", desc := "(LTrustChain$Slice;)V" } : MethodName)) ∈ tb := tb_in (tm_2 (List.mem_of_getElem? (i := 109) rfl)) rfl
theorem q2_110 : (Cond.instanceMethod ({ cls := "TrustChain$Certificate", name := "<init>", desc := "(LTrustChain$Slice;)V" } : MethodName)) ∈ tb := tb_in (tm_2 (List.mem_of_getElem? (i := 110) rfl)) rfl
theorem q2_111 : (Cond.code ({ cls := "TrustChain$Certificate", name := "<init>", desc := "(LTrustChain$Slice;)V" } : MethodName) prog_2_method_1_code (2 : Nat) none) ∈ tb := tb_in (tm_2 (List.mem_of_getElem? (i := 111) rfl)) rfl
theorem q2_112 : (Cond.methodLink "TrustChain$Certificate" (3 : Nat) ({ cls := "TrustChain$Paper", name := "<init>", desc := "(LTrustChain$Slice;)V" } : MethodName)) ∈ tb := tb_in (tm_2 (List.mem_of_getElem? (i := 112) rfl)) rfl
theorem q2_113 : (Cond.instanceMethod ({ cls := "TrustChain$Paper", name := "<init>", desc := "(LTrustChain$Slice;)V" } : MethodName)) ∈ tb := tb_in (tm_2 (List.mem_of_getElem? (i := 113) rfl)) rfl
theorem q2_114 : (Cond.code ({ cls := "TrustChain$Paper", name := "<init>", desc := "(LTrustChain$Slice;)V" } : MethodName) prog_6_method_1_code (2 : Nat) none) ∈ tb := tb_in (tm_2 (List.mem_of_getElem? (i := 114) rfl)) rfl
theorem q2_115 : (Cond.methodLink "TrustChain$Paper" (3 : Nat) ({ cls := "java/lang/Object", name := "<init>", desc := "()V" } : MethodName)) ∈ tb := tb_in (tm_2 (List.mem_of_getElem? (i := 115) rfl)) rfl
theorem q2_116 : (Cond.classLink "TrustChain$Paper" (18 : Nat) "java/util/ArrayList") ∈ tb := tb_in (tm_2 (List.mem_of_getElem? (i := 116) rfl)) rfl
theorem q2_117 : (Cond.methodLink "TrustChain$Paper" (20 : Nat) ({ cls := "java/util/ArrayList", name := "<init>", desc := "()V" } : MethodName)) ∈ tb := tb_in (tm_2 (List.mem_of_getElem? (i := 117) rfl)) rfl
theorem q2_118 : (Cond.classLink "TrustChain$Certificate" (9 : Nat) "TrustChain$NameSet") ∈ tb := tb_in (tm_2 (List.mem_of_getElem? (i := 118) rfl)) rfl
theorem q2_119 : (Cond.instantiable "TrustChain$NameSet" (2 : Nat)) ∈ tb := tb_in (tm_2 (List.mem_of_getElem? (i := 119) rfl)) rfl
theorem q2_120 : (Cond.methodLinkNest "TrustChain$Certificate" (11 : Nat) ({ cls := "TrustChain$NameSet", name := "<init>", desc := "()V" } : MethodName) "TrustChain") ∈ lw_tbl := tm_2 (List.mem_of_getElem? (i := 120) rfl)
theorem q2_121 : (Cond.instanceMethod ({ cls := "TrustChain$NameSet", name := "<init>", desc := "()V" } : MethodName)) ∈ tb := tb_in (tm_2 (List.mem_of_getElem? (i := 121) rfl)) rfl
theorem q2_122 : (Cond.code ({ cls := "TrustChain$NameSet", name := "<init>", desc := "()V" } : MethodName) prog_5_method_1_code (1 : Nat) none) ∈ tb := tb_in (tm_2 (List.mem_of_getElem? (i := 122) rfl)) rfl
theorem q2_123 : (Cond.methodLink "TrustChain$NameSet" (3 : Nat) ({ cls := "java/lang/Object", name := "<init>", desc := "()V" } : MethodName)) ∈ tb := tb_in (tm_2 (List.mem_of_getElem? (i := 123) rfl)) rfl
theorem q2_124 : (Cond.classLink "TrustChain$NameSet" (9 : Nat) "java/util/ArrayList") ∈ tb := tb_in (tm_2 (List.mem_of_getElem? (i := 124) rfl)) rfl
theorem q2_125 : (Cond.methodLink "TrustChain$NameSet" (11 : Nat) ({ cls := "java/util/ArrayList", name := "<init>", desc := "()V" } : MethodName)) ∈ tb := tb_in (tm_2 (List.mem_of_getElem? (i := 125) rfl)) rfl
theorem q2_126 : (Cond.fieldLink "TrustChain$NameSet" (12 : Nat) "TrustChain$NameSet" "dns" "Ljava/util/ArrayList;") ∈ tb := tb_in (tm_2 (List.mem_of_getElem? (i := 126) rfl)) rfl
theorem q2_127 : (Cond.fieldLinkNest "TrustChain$Certificate" (103 : Nat) "TrustChain$NameSet" "dns" "Ljava/util/ArrayList;" "TrustChain") ∈ lw_tbl := tm_2 (List.mem_of_getElem? (i := 127) rfl)
theorem q2_128 : (Cond.fieldLinkNest "TrustChain$PathCheck" (120 : Nat) "TrustChain$NameSet" "dns" "Ljava/util/ArrayList;" "TrustChain") ∈ lw_tbl := tm_2 (List.mem_of_getElem? (i := 128) rfl)
theorem q2_129 : (Cond.fieldLinkNest "TrustChain$CertificateReader" (238 : Nat) "TrustChain$NameSet" "dns" "Ljava/util/ArrayList;" "TrustChain") ∈ lw_tbl := tm_2 (List.mem_of_getElem? (i := 129) rfl)
theorem q2_130 : (Cond.fieldLink "TrustChain$NameSet" (18 : Nat) "TrustChain$NameSet" "directories" "Ljava/util/ArrayList;") ∈ tb := tb_in (tm_2 (List.mem_of_getElem? (i := 130) rfl)) rfl
theorem q2_131 : (Cond.fieldLinkNest "TrustChain$Certificate" (90 : Nat) "TrustChain$NameSet" "directories" "Ljava/util/ArrayList;" "TrustChain") ∈ lw_tbl := tm_2 (List.mem_of_getElem? (i := 131) rfl)
theorem q2_132 : (Cond.fieldLinkNest "TrustChain$PathCheck" (114 : Nat) "TrustChain$NameSet" "directories" "Ljava/util/ArrayList;" "TrustChain") ∈ lw_tbl := tm_2 (List.mem_of_getElem? (i := 132) rfl)
theorem q2_133 : (Cond.fieldLinkNest "TrustChain$CertificateReader" (223 : Nat) "TrustChain$NameSet" "directories" "Ljava/util/ArrayList;" "TrustChain") ∈ lw_tbl := tm_2 (List.mem_of_getElem? (i := 133) rfl)
theorem q2_134 : (Cond.laysFinal "TrustChain$NameSet" "TrustChain$NameSet" "dns" "Ljava/util/ArrayList;") ∈ tb := tb_in (tm_2 (List.mem_of_getElem? (i := 134) rfl)) rfl
theorem q2_136 : (Cond.laysFinal "TrustChain$NameSet" "TrustChain$NameSet" "directories" "Ljava/util/ArrayList;") ∈ tb := tb_in (tm_2 (List.mem_of_getElem? (i := 136) rfl)) rfl
theorem q2_139 : (Cond.fieldLink "TrustChain$Certificate" (14 : Nat) "TrustChain$Certificate" "names" "LTrustChain$NameSet;") ∈ tb := tb_in (tm_2 (List.mem_of_getElem? (i := 139) rfl)) rfl
theorem q2_140 : (Cond.fieldLink "TrustChain$PathCheck" (110 : Nat) "TrustChain$Certificate" "names" "LTrustChain$NameSet;") ∈ tb := tb_in (tm_2 (List.mem_of_getElem? (i := 140) rfl)) rfl
theorem q2_141 : (Cond.fieldLink "TrustChain$CertificateReader" (220 : Nat) "TrustChain$Certificate" "names" "LTrustChain$NameSet;") ∈ tb := tb_in (tm_2 (List.mem_of_getElem? (i := 141) rfl)) rfl
theorem q2_142 : (Cond.fieldLink "TrustChain" (233 : Nat) "TrustChain$Certificate" "names" "LTrustChain$NameSet;") ∈ tb := tb_in (tm_2 (List.mem_of_getElem? (i := 142) rfl)) rfl
theorem q2_143 : (Cond.fieldLink "TrustChain$Certificate" (20 : Nat) "TrustChain$Certificate" "permitted" "LTrustChain$NameSet;") ∈ tb := tb_in (tm_2 (List.mem_of_getElem? (i := 143) rfl)) rfl
theorem q2_144 : (Cond.fieldLink "TrustChain$CertificateReader" (179 : Nat) "TrustChain$Certificate" "permitted" "LTrustChain$NameSet;") ∈ tb := tb_in (tm_2 (List.mem_of_getElem? (i := 144) rfl)) rfl
theorem q2_145 : (Cond.fieldLink "TrustChain$Certificate" (23 : Nat) "TrustChain$Certificate" "excluded" "LTrustChain$NameSet;") ∈ tb := tb_in (tm_2 (List.mem_of_getElem? (i := 145) rfl)) rfl
theorem q2_146 : (Cond.fieldLink "TrustChain$CertificateReader" (191 : Nat) "TrustChain$Certificate" "excluded" "LTrustChain$NameSet;") ∈ tb := tb_in (tm_2 (List.mem_of_getElem? (i := 146) rfl)) rfl
theorem q2_147 : (Cond.fieldLink "TrustChain$Certificate" (61 : Nat) "TrustChain$Certificate" "serial" "LTrustChain$Slice;") ∈ tb := tb_in (tm_2 (List.mem_of_getElem? (i := 147) rfl)) rfl
theorem q2_148 : (Cond.fieldLink "TrustChain$CertificateReader" (87 : Nat) "TrustChain$Certificate" "serial" "LTrustChain$Slice;") ∈ tb := tb_in (tm_2 (List.mem_of_getElem? (i := 148) rfl)) rfl
theorem q2_149 : (Cond.fieldLink "TrustChain$PathCheck" (95 : Nat) "TrustChain$Certificate" "serial" "LTrustChain$Slice;") ∈ tb := tb_in (tm_2 (List.mem_of_getElem? (i := 149) rfl)) rfl
theorem q2_150 : (Cond.fieldLink "TrustChain$Certificate" (65 : Nat) "TrustChain$Certificate" "subject" "LTrustChain$Slice;") ∈ tb := tb_in (tm_2 (List.mem_of_getElem? (i := 150) rfl)) rfl
theorem q2_151 : (Cond.fieldLink "TrustChain$CertificateReader" (113 : Nat) "TrustChain$Certificate" "subject" "LTrustChain$Slice;") ∈ tb := tb_in (tm_2 (List.mem_of_getElem? (i := 151) rfl)) rfl
theorem q2_152 : (Cond.fieldLink "TrustChain$PathCheck" (104 : Nat) "TrustChain$Certificate" "subject" "LTrustChain$Slice;") ∈ tb := tb_in (tm_2 (List.mem_of_getElem? (i := 152) rfl)) rfl
theorem q2_153 : (Cond.fieldLink "TrustChain$Certificate" (68 : Nat) "TrustChain$Certificate" "modulus" "LTrustChain$Slice;") ∈ tb := tb_in (tm_2 (List.mem_of_getElem? (i := 153) rfl)) rfl
theorem q2_154 : (Cond.fieldLink "TrustChain$Rsa" (53 : Nat) "TrustChain$Certificate" "modulus" "LTrustChain$Slice;") ∈ tb := tb_in (tm_2 (List.mem_of_getElem? (i := 154) rfl)) rfl
theorem q2_155 : (Cond.fieldLink "TrustChain$CertificateReader" (157 : Nat) "TrustChain$Certificate" "modulus" "LTrustChain$Slice;") ∈ tb := tb_in (tm_2 (List.mem_of_getElem? (i := 155) rfl)) rfl
theorem q2_156 : (Cond.fieldLink "TrustChain$Certificate" (71 : Nat) "TrustChain$Certificate" "ownKey" "LTrustChain$Slice;") ∈ tb := tb_in (tm_2 (List.mem_of_getElem? (i := 156) rfl)) rfl
theorem q2_157 : (Cond.fieldLink "TrustChain$CertificateReader" (167 : Nat) "TrustChain$Certificate" "ownKey" "LTrustChain$Slice;") ∈ tb := tb_in (tm_2 (List.mem_of_getElem? (i := 157) rfl)) rfl
theorem q2_158 : (Cond.fieldLink "TrustChain$Certificate" (74 : Nat) "TrustChain$Certificate" "issuerKey" "LTrustChain$Slice;") ∈ tb := tb_in (tm_2 (List.mem_of_getElem? (i := 158) rfl)) rfl
theorem q2_159 : (Cond.fieldLink "TrustChain$CertificateReader" (197 : Nat) "TrustChain$Certificate" "issuerKey" "LTrustChain$Slice;") ∈ tb := tb_in (tm_2 (List.mem_of_getElem? (i := 159) rfl)) rfl
theorem q2_160 : (Cond.fieldLink "TrustChain$Certificate" (26 : Nat) "TrustChain$Certificate" "subjectParts" "I") ∈ tb := tb_in (tm_2 (List.mem_of_getElem? (i := 160) rfl)) rfl
theorem q2_161 : (Cond.fieldLink "TrustChain$CertificateReader" (119 : Nat) "TrustChain$Certificate" "subjectParts" "I") ∈ tb := tb_in (tm_2 (List.mem_of_getElem? (i := 161) rfl)) rfl
theorem q2_162 : (Cond.fieldLink "TrustChain$PathCheck" (101 : Nat) "TrustChain$Certificate" "subjectParts" "I") ∈ tb := tb_in (tm_2 (List.mem_of_getElem? (i := 162) rfl)) rfl
theorem q2_163 : (Cond.fieldLink "TrustChain$Certificate" (30 : Nat) "TrustChain$Certificate" "modulusBits" "I") ∈ tb := tb_in (tm_2 (List.mem_of_getElem? (i := 163) rfl)) rfl
theorem q2_164 : (Cond.fieldLink "TrustChain$Rsa" (73 : Nat) "TrustChain$Certificate" "modulusBits" "I") ∈ tb := tb_in (tm_2 (List.mem_of_getElem? (i := 164) rfl)) rfl
theorem q2_165 : (Cond.fieldLink "TrustChain$CertificateReader" (160 : Nat) "TrustChain$Certificate" "modulusBits" "I") ∈ tb := tb_in (tm_2 (List.mem_of_getElem? (i := 165) rfl)) rfl
theorem q2_166 : (Cond.fieldLink "TrustChain$Certificate" (33 : Nat) "TrustChain$Certificate" "exponent" "I") ∈ tb := tb_in (tm_2 (List.mem_of_getElem? (i := 166) rfl)) rfl
theorem q2_167 : (Cond.fieldLink "TrustChain$Rsa" (84 : Nat) "TrustChain$Certificate" "exponent" "I") ∈ tb := tb_in (tm_2 (List.mem_of_getElem? (i := 167) rfl)) rfl
theorem q2_168 : (Cond.fieldLink "TrustChain$CertificateReader" (141 : Nat) "TrustChain$Certificate" "exponent" "I") ∈ tb := tb_in (tm_2 (List.mem_of_getElem? (i := 168) rfl)) rfl
theorem q2_169 : (Cond.fieldLink "TrustChain$Certificate" (36 : Nat) "TrustChain$Certificate" "ca" "Z") ∈ tb := tb_in (tm_2 (List.mem_of_getElem? (i := 169) rfl)) rfl
theorem q2_170 : (Cond.fieldLink "TrustChain$PathCheck" (70 : Nat) "TrustChain$Certificate" "ca" "Z") ∈ tb := tb_in (tm_2 (List.mem_of_getElem? (i := 170) rfl)) rfl
theorem q2_171 : (Cond.fieldLink "TrustChain$CertificateReader" (202 : Nat) "TrustChain$Certificate" "ca" "Z") ∈ tb := tb_in (tm_2 (List.mem_of_getElem? (i := 171) rfl)) rfl
theorem q2_172 : (Cond.fieldLink "TrustChain$Certificate" (40 : Nat) "TrustChain$Certificate" "pathLength" "I") ∈ tb := tb_in (tm_2 (List.mem_of_getElem? (i := 172) rfl)) rfl
theorem q2_173 : (Cond.fieldLink "TrustChain$CertificateReader" (207 : Nat) "TrustChain$Certificate" "pathLength" "I") ∈ tb := tb_in (tm_2 (List.mem_of_getElem? (i := 173) rfl)) rfl
theorem q2_174 : (Cond.fieldLink "TrustChain$PathCheck" (126 : Nat) "TrustChain$Certificate" "pathLength" "I") ∈ tb := tb_in (tm_2 (List.mem_of_getElem? (i := 174) rfl)) rfl
theorem q2_175 : (Cond.fieldLink "TrustChain$Certificate" (43 : Nat) "TrustChain$Certificate" "usage" "I") ∈ tb := tb_in (tm_2 (List.mem_of_getElem? (i := 175) rfl)) rfl
theorem q2_176 : (Cond.fieldLink "TrustChain$CertificateReader" (217 : Nat) "TrustChain$Certificate" "usage" "I") ∈ tb := tb_in (tm_2 (List.mem_of_getElem? (i := 176) rfl)) rfl
theorem q2_177 : (Cond.fieldLink "TrustChain$Certificate" (46 : Nat) "TrustChain$Certificate" "extensions" "I") ∈ tb := tb_in (tm_2 (List.mem_of_getElem? (i := 177) rfl)) rfl
theorem q2_178 : (Cond.fieldLink "TrustChain$CertificateReader" (61 : Nat) "TrustChain$Certificate" "extensions" "I") ∈ tb := tb_in (tm_2 (List.mem_of_getElem? (i := 178) rfl)) rfl
theorem q2_179 : (Cond.fieldLink "TrustChain$Certificate" (49 : Nat) "TrustChain$Certificate" "selfIssued" "Z") ∈ tb := tb_in (tm_2 (List.mem_of_getElem? (i := 179) rfl)) rfl
theorem q2_180 : (Cond.fieldLink "TrustChain$CertificateReader" (126 : Nat) "TrustChain$Certificate" "selfIssued" "Z") ∈ tb := tb_in (tm_2 (List.mem_of_getElem? (i := 180) rfl)) rfl
theorem q2_181 : (Cond.fieldLink "TrustChain$PathCheck" (56 : Nat) "TrustChain$Certificate" "selfIssued" "Z") ∈ tb := tb_in (tm_2 (List.mem_of_getElem? (i := 181) rfl)) rfl
theorem q2_182 : (Cond.fieldLink "TrustChain$Certificate" (52 : Nat) "TrustChain$Certificate" "trusted" "Z") ∈ tb := tb_in (tm_2 (List.mem_of_getElem? (i := 182) rfl)) rfl
theorem q2_183 : (Cond.fieldLink "TrustChain$Search" (45 : Nat) "TrustChain$Certificate" "trusted" "Z") ∈ tb := tb_in (tm_2 (List.mem_of_getElem? (i := 183) rfl)) rfl
theorem q2_184 : (Cond.fieldLink "TrustChain" (131 : Nat) "TrustChain$Certificate" "trusted" "Z") ∈ tb := tb_in (tm_2 (List.mem_of_getElem? (i := 184) rfl)) rfl
theorem q2_185 : (Cond.fieldLink "TrustChain$Certificate" (55 : Nat) "TrustChain$Certificate" "number" "I") ∈ tb := tb_in (tm_2 (List.mem_of_getElem? (i := 185) rfl)) rfl
theorem q2_186 : (Cond.fieldLink "TrustChain$Rsa" (38 : Nat) "TrustChain$Certificate" "number" "I") ∈ tb := tb_in (tm_2 (List.mem_of_getElem? (i := 186) rfl)) rfl
theorem q2_187 : (Cond.fieldLink "TrustChain" (135 : Nat) "TrustChain$Certificate" "number" "I") ∈ tb := tb_in (tm_2 (List.mem_of_getElem? (i := 187) rfl)) rfl
theorem q2_188 : (Cond.fieldLink "TrustChain$Search" (78 : Nat) "TrustChain$Certificate" "number" "I") ∈ tb := tb_in (tm_2 (List.mem_of_getElem? (i := 188) rfl)) rfl
theorem q2_189 : (Cond.fieldLink "TrustChain$Certificate" (58 : Nat) "TrustChain$Certificate" "issuers" "I") ∈ tb := tb_in (tm_2 (List.mem_of_getElem? (i := 189) rfl)) rfl
theorem q2_190 : (Cond.fieldLink "TrustChain$Search" (84 : Nat) "TrustChain$Certificate" "issuers" "I") ∈ tb := tb_in (tm_2 (List.mem_of_getElem? (i := 190) rfl)) rfl
theorem q2_191 : (Cond.fieldLink "TrustChain" (258 : Nat) "TrustChain$Certificate" "issuers" "I") ∈ tb := tb_in (tm_2 (List.mem_of_getElem? (i := 191) rfl)) rfl
theorem q2_192 : (Cond.fieldLink "TrustChain$Paper" (9 : Nat) "TrustChain$Paper" "hash" "[I") ∈ tb := tb_in (tm_2 (List.mem_of_getElem? (i := 192) rfl)) rfl
theorem q2_193 : (Cond.fieldLink "TrustChain" (125 : Nat) "TrustChain$Certificate" "hash" "[I") ∈ tb := tb_in (tm_2 (List.mem_of_getElem? (i := 193) rfl)) rfl
theorem q2_194 : (Cond.sameField "TrustChain$Certificate" "TrustChain$Paper" "hash" "[I") ∈ tb := tb_in (tm_2 (List.mem_of_getElem? (i := 194) rfl)) rfl
theorem q2_195 : (Cond.fieldLink "TrustChain$Rsa" (93 : Nat) "TrustChain$Paper" "hash" "[I") ∈ tb := tb_in (tm_2 (List.mem_of_getElem? (i := 195) rfl)) rfl
theorem q2_196 : (Cond.fieldLink "TrustChain" (159 : Nat) "TrustChain$Paper" "hash" "[I") ∈ tb := tb_in (tm_2 (List.mem_of_getElem? (i := 196) rfl)) rfl
theorem q2_197 : (Cond.fieldLink "TrustChain$Paper" (15 : Nat) "TrustChain$Paper" "signers" "[I") ∈ tb := tb_in (tm_2 (List.mem_of_getElem? (i := 197) rfl)) rfl
theorem q2_198 : (Cond.fieldLink "TrustChain$Rsa" (43 : Nat) "TrustChain$Paper" "signers" "[I") ∈ tb := tb_in (tm_2 (List.mem_of_getElem? (i := 198) rfl)) rfl
theorem q2_199 : (Cond.fieldLink "TrustChain$Paper" (21 : Nat) "TrustChain$Paper" "entries" "Ljava/util/ArrayList;") ∈ tb := tb_in (tm_2 (List.mem_of_getElem? (i := 199) rfl)) rfl
theorem q2_200 : (Cond.fieldLink "TrustChain$ListReader" (49 : Nat) "TrustChain$Paper" "entries" "Ljava/util/ArrayList;") ∈ tb := tb_in (tm_2 (List.mem_of_getElem? (i := 200) rfl)) rfl
theorem q2_201 : (Cond.fieldLink "TrustChain" (187 : Nat) "TrustChain$Paper" "entries" "Ljava/util/ArrayList;") ∈ tb := tb_in (tm_2 (List.mem_of_getElem? (i := 201) rfl)) rfl
theorem q2_202 : (Cond.fieldLink "TrustChain$Paper" (36 : Nat) "TrustChain$Paper" "body" "LTrustChain$Slice;") ∈ tb := tb_in (tm_2 (List.mem_of_getElem? (i := 202) rfl)) rfl
theorem q2_203 : (Cond.fieldLink "TrustChain$CertificateReader" (54 : Nat) "TrustChain$Certificate" "body" "LTrustChain$Slice;") ∈ tb := tb_in (tm_2 (List.mem_of_getElem? (i := 203) rfl)) rfl
theorem q2_204 : (Cond.sameField "TrustChain$Certificate" "TrustChain$Paper" "body" "LTrustChain$Slice;") ∈ tb := tb_in (tm_2 (List.mem_of_getElem? (i := 204) rfl)) rfl
theorem q2_205 : (Cond.fieldLink "TrustChain$ListReader" (77 : Nat) "TrustChain$Paper" "body" "LTrustChain$Slice;") ∈ tb := tb_in (tm_2 (List.mem_of_getElem? (i := 205) rfl)) rfl
theorem q2_206 : (Cond.fieldLink "TrustChain" (119 : Nat) "TrustChain$Certificate" "body" "LTrustChain$Slice;") ∈ tb := tb_in (tm_2 (List.mem_of_getElem? (i := 206) rfl)) rfl
theorem q2_207 : (Cond.fieldLink "TrustChain" (156 : Nat) "TrustChain$Paper" "body" "LTrustChain$Slice;") ∈ tb := tb_in (tm_2 (List.mem_of_getElem? (i := 207) rfl)) rfl
theorem q2_208 : (Cond.fieldLink "TrustChain$Paper" (40 : Nat) "TrustChain$Paper" "signature" "LTrustChain$Slice;") ∈ tb := tb_in (tm_2 (List.mem_of_getElem? (i := 208) rfl)) rfl
theorem q2_209 : (Cond.fieldLink "TrustChain$Rsa" (62 : Nat) "TrustChain$Paper" "signature" "LTrustChain$Slice;") ∈ tb := tb_in (tm_2 (List.mem_of_getElem? (i := 209) rfl)) rfl
theorem q2_210 : (Cond.fieldLink "TrustChain$Reader" (134 : Nat) "TrustChain$Paper" "signature" "LTrustChain$Slice;") ∈ tb := tb_in (tm_2 (List.mem_of_getElem? (i := 210) rfl)) rfl
theorem q2_211 : (Cond.fieldLink "TrustChain$Paper" (43 : Nat) "TrustChain$Paper" "issuer" "LTrustChain$Slice;") ∈ tb := tb_in (tm_2 (List.mem_of_getElem? (i := 211) rfl)) rfl
theorem q2_212 : (Cond.fieldLink "TrustChain$Certificate" (83 : Nat) "TrustChain$Certificate" "issuer" "LTrustChain$Slice;") ∈ tb := tb_in (tm_2 (List.mem_of_getElem? (i := 212) rfl)) rfl
theorem q2_213 : (Cond.sameField "TrustChain$Certificate" "TrustChain$Paper" "issuer" "LTrustChain$Slice;") ∈ tb := tb_in (tm_2 (List.mem_of_getElem? (i := 213) rfl)) rfl
theorem q2_214 : (Cond.fieldLink "TrustChain$ListReader" (107 : Nat) "TrustChain$Paper" "issuer" "LTrustChain$Slice;") ∈ tb := tb_in (tm_2 (List.mem_of_getElem? (i := 214) rfl)) rfl
theorem q2_215 : (Cond.fieldLink "TrustChain$CertificateReader" (96 : Nat) "TrustChain$Certificate" "issuer" "LTrustChain$Slice;") ∈ tb := tb_in (tm_2 (List.mem_of_getElem? (i := 215) rfl)) rfl
theorem q2_216 : (Cond.fieldLink "TrustChain$PathCheck" (84 : Nat) "TrustChain$Paper" "issuer" "LTrustChain$Slice;") ∈ tb := tb_in (tm_2 (List.mem_of_getElem? (i := 216) rfl)) rfl
theorem q2_217 : (Cond.fieldLink "TrustChain$PathCheck" (88 : Nat) "TrustChain$Certificate" "issuer" "LTrustChain$Slice;") ∈ tb := tb_in (tm_2 (List.mem_of_getElem? (i := 217) rfl)) rfl
theorem q2_218 : (Cond.fieldLink "TrustChain$Paper" (25 : Nat) "TrustChain$Paper" "first" "J") ∈ tb := tb_in (tm_2 (List.mem_of_getElem? (i := 218) rfl)) rfl
theorem q2_219 : (Cond.fieldLink "TrustChain$ListReader" (110 : Nat) "TrustChain$Paper" "first" "J") ∈ tb := tb_in (tm_2 (List.mem_of_getElem? (i := 219) rfl)) rfl
theorem q2_220 : (Cond.fieldLink "TrustChain$CertificateReader" (103 : Nat) "TrustChain$Certificate" "first" "J") ∈ tb := tb_in (tm_2 (List.mem_of_getElem? (i := 220) rfl)) rfl
theorem q2_221 : (Cond.sameField "TrustChain$Certificate" "TrustChain$Paper" "first" "J") ∈ tb := tb_in (tm_2 (List.mem_of_getElem? (i := 221) rfl)) rfl
theorem q2_222 : (Cond.fieldLink "TrustChain$Certificate" (109 : Nat) "TrustChain$Certificate" "first" "J") ∈ tb := tb_in (tm_2 (List.mem_of_getElem? (i := 222) rfl)) rfl
theorem q2_223 : (Cond.fieldLink "TrustChain" (180 : Nat) "TrustChain$Paper" "first" "J") ∈ tb := tb_in (tm_2 (List.mem_of_getElem? (i := 223) rfl)) rfl
theorem q2_224 : (Cond.fieldLink "TrustChain$Paper" (29 : Nat) "TrustChain$Paper" "last" "J") ∈ tb := tb_in (tm_2 (List.mem_of_getElem? (i := 224) rfl)) rfl
theorem q2_225 : (Cond.fieldLink "TrustChain$ListReader" (114 : Nat) "TrustChain$Paper" "last" "J") ∈ tb := tb_in (tm_2 (List.mem_of_getElem? (i := 225) rfl)) rfl
theorem q2_226 : (Cond.fieldLink "TrustChain$CertificateReader" (107 : Nat) "TrustChain$Certificate" "last" "J") ∈ tb := tb_in (tm_2 (List.mem_of_getElem? (i := 226) rfl)) rfl
theorem q2_227 : (Cond.sameField "TrustChain$Certificate" "TrustChain$Paper" "last" "J") ∈ tb := tb_in (tm_2 (List.mem_of_getElem? (i := 227) rfl)) rfl
theorem q2_228 : (Cond.fieldLink "TrustChain$Certificate" (113 : Nat) "TrustChain$Certificate" "last" "J") ∈ tb := tb_in (tm_2 (List.mem_of_getElem? (i := 228) rfl)) rfl
theorem q2_229 : (Cond.fieldLink "TrustChain" (184 : Nat) "TrustChain$Paper" "last" "J") ∈ tb := tb_in (tm_2 (List.mem_of_getElem? (i := 229) rfl)) rfl
theorem q2_230 : (Cond.fieldLink "TrustChain$Paper" (32 : Nat) "TrustChain$Paper" "matters" "I") ∈ tb := tb_in (tm_2 (List.mem_of_getElem? (i := 230) rfl)) rfl
theorem q2_231 : (Cond.fieldLink "TrustChain$CertificateReader" (65 : Nat) "TrustChain$Certificate" "matters" "I") ∈ tb := tb_in (tm_2 (List.mem_of_getElem? (i := 231) rfl)) rfl
theorem q2_232 : (Cond.sameField "TrustChain$Certificate" "TrustChain$Paper" "matters" "I") ∈ tb := tb_in (tm_2 (List.mem_of_getElem? (i := 232) rfl)) rfl
theorem q2_233 : (Cond.fieldLink "TrustChain$ListReader" (84 : Nat) "TrustChain$Paper" "matters" "I") ∈ tb := tb_in (tm_2 (List.mem_of_getElem? (i := 233) rfl)) rfl
theorem q2_234 : (Cond.fieldLink "TrustChain$PathCheck" (63 : Nat) "TrustChain$Certificate" "matters" "I") ∈ tb := tb_in (tm_2 (List.mem_of_getElem? (i := 234) rfl)) rfl
theorem q2_235 : (Cond.fieldLink "TrustChain$PathCheck" (83 : Nat) "TrustChain$Paper" "matters" "I") ∈ tb := tb_in (tm_2 (List.mem_of_getElem? (i := 235) rfl)) rfl
theorem q2_236 : (Cond.fieldLink "TrustChain$Certificate" (119 : Nat) "TrustChain$Certificate" "matters" "I") ∈ tb := tb_in (tm_2 (List.mem_of_getElem? (i := 236) rfl)) rfl
theorem q2_237 : (Cond.fieldLink "TrustChain" (190 : Nat) "TrustChain$Paper" "matters" "I") ∈ tb := tb_in (tm_2 (List.mem_of_getElem? (i := 237) rfl)) rfl
theorem q2_238 : (Cond.laysFinal "TrustChain$Certificate" "TrustChain$Certificate" "names" "LTrustChain$NameSet;") ∈ tb := tb_in (tm_2 (List.mem_of_getElem? (i := 238) rfl)) rfl
theorem q3_0 : (Cond.laysFinal "TrustChain$Certificate" "TrustChain$Certificate" "permitted" "LTrustChain$NameSet;") ∈ tb := tb_in (tm_3 (List.mem_of_getElem? (i := 0) rfl)) rfl
theorem q3_2 : (Cond.laysFinal "TrustChain$Certificate" "TrustChain$Certificate" "excluded" "LTrustChain$NameSet;") ∈ tb := tb_in (tm_3 (List.mem_of_getElem? (i := 2) rfl)) rfl
theorem q3_4 : (Cond.lays "TrustChain$Certificate" "TrustChain$Certificate" "serial" "LTrustChain$Slice;") ∈ tb := tb_in (tm_3 (List.mem_of_getElem? (i := 4) rfl)) rfl
theorem q3_6 : (Cond.lays "TrustChain$Certificate" "TrustChain$Certificate" "subject" "LTrustChain$Slice;") ∈ tb := tb_in (tm_3 (List.mem_of_getElem? (i := 6) rfl)) rfl
theorem q3_8 : (Cond.lays "TrustChain$Certificate" "TrustChain$Certificate" "modulus" "LTrustChain$Slice;") ∈ tb := tb_in (tm_3 (List.mem_of_getElem? (i := 8) rfl)) rfl
theorem q3_10 : (Cond.lays "TrustChain$Certificate" "TrustChain$Certificate" "ownKey" "LTrustChain$Slice;") ∈ tb := tb_in (tm_3 (List.mem_of_getElem? (i := 10) rfl)) rfl
theorem q3_12 : (Cond.lays "TrustChain$Certificate" "TrustChain$Certificate" "issuerKey" "LTrustChain$Slice;") ∈ tb := tb_in (tm_3 (List.mem_of_getElem? (i := 12) rfl)) rfl
theorem q3_14 : (Cond.lays "TrustChain$Certificate" "TrustChain$Certificate" "subjectParts" "I") ∈ tb := tb_in (tm_3 (List.mem_of_getElem? (i := 14) rfl)) rfl
theorem q3_16 : (Cond.lays "TrustChain$Certificate" "TrustChain$Certificate" "modulusBits" "I") ∈ tb := tb_in (tm_3 (List.mem_of_getElem? (i := 16) rfl)) rfl
theorem q3_18 : (Cond.lays "TrustChain$Certificate" "TrustChain$Certificate" "exponent" "I") ∈ tb := tb_in (tm_3 (List.mem_of_getElem? (i := 18) rfl)) rfl
theorem q3_20 : (Cond.lays "TrustChain$Certificate" "TrustChain$Certificate" "ca" "Z") ∈ tb := tb_in (tm_3 (List.mem_of_getElem? (i := 20) rfl)) rfl
theorem q3_22 : (Cond.lays "TrustChain$Certificate" "TrustChain$Certificate" "pathLength" "I") ∈ tb := tb_in (tm_3 (List.mem_of_getElem? (i := 22) rfl)) rfl
theorem q3_24 : (Cond.lays "TrustChain$Certificate" "TrustChain$Certificate" "usage" "I") ∈ tb := tb_in (tm_3 (List.mem_of_getElem? (i := 24) rfl)) rfl
theorem q3_26 : (Cond.lays "TrustChain$Certificate" "TrustChain$Certificate" "extensions" "I") ∈ tb := tb_in (tm_3 (List.mem_of_getElem? (i := 26) rfl)) rfl
theorem q3_28 : (Cond.lays "TrustChain$Certificate" "TrustChain$Certificate" "selfIssued" "Z") ∈ tb := tb_in (tm_3 (List.mem_of_getElem? (i := 28) rfl)) rfl
theorem q3_30 : (Cond.lays "TrustChain$Certificate" "TrustChain$Certificate" "trusted" "Z") ∈ tb := tb_in (tm_3 (List.mem_of_getElem? (i := 30) rfl)) rfl
theorem q3_32 : (Cond.lays "TrustChain$Certificate" "TrustChain$Certificate" "number" "I") ∈ tb := tb_in (tm_3 (List.mem_of_getElem? (i := 32) rfl)) rfl
theorem q3_34 : (Cond.lays "TrustChain$Certificate" "TrustChain$Certificate" "issuers" "I") ∈ tb := tb_in (tm_3 (List.mem_of_getElem? (i := 34) rfl)) rfl
theorem q3_36 : (Cond.laysFinal "TrustChain$Certificate" "TrustChain$Paper" "hash" "[I") ∈ tb := tb_in (tm_3 (List.mem_of_getElem? (i := 36) rfl)) rfl
theorem q3_38 : (Cond.laysFinal "TrustChain$Certificate" "TrustChain$Paper" "signers" "[I") ∈ tb := tb_in (tm_3 (List.mem_of_getElem? (i := 38) rfl)) rfl
theorem q3_40 : (Cond.laysFinal "TrustChain$Certificate" "TrustChain$Paper" "entries" "Ljava/util/ArrayList;") ∈ tb := tb_in (tm_3 (List.mem_of_getElem? (i := 40) rfl)) rfl
theorem q3_42 : (Cond.lays "TrustChain$Certificate" "TrustChain$Paper" "body" "LTrustChain$Slice;") ∈ tb := tb_in (tm_3 (List.mem_of_getElem? (i := 42) rfl)) rfl
theorem q3_44 : (Cond.lays "TrustChain$Certificate" "TrustChain$Paper" "signature" "LTrustChain$Slice;") ∈ tb := tb_in (tm_3 (List.mem_of_getElem? (i := 44) rfl)) rfl
theorem q3_46 : (Cond.lays "TrustChain$Certificate" "TrustChain$Paper" "issuer" "LTrustChain$Slice;") ∈ tb := tb_in (tm_3 (List.mem_of_getElem? (i := 46) rfl)) rfl
theorem q3_48 : (Cond.lays "TrustChain$Certificate" "TrustChain$Paper" "first" "J") ∈ tb := tb_in (tm_3 (List.mem_of_getElem? (i := 48) rfl)) rfl
theorem q3_50 : (Cond.lays "TrustChain$Certificate" "TrustChain$Paper" "last" "J") ∈ tb := tb_in (tm_3 (List.mem_of_getElem? (i := 50) rfl)) rfl
theorem q3_52 : (Cond.lays "TrustChain$Certificate" "TrustChain$Paper" "matters" "I") ∈ tb := tb_in (tm_3 (List.mem_of_getElem? (i := 52) rfl)) rfl
theorem q3_55 : (Cond.fieldLink "TrustChain$CertificateReader" (19 : Nat) "TrustChain$CertificateReader" "result" "LTrustChain$Certificate;") ∈ tb := tb_in (tm_3 (List.mem_of_getElem? (i := 55) rfl)) rfl
theorem q3_56 : (Cond.fieldLink "TrustChain" (115 : Nat) "TrustChain$CertificateReader" "result" "LTrustChain$Certificate;") ∈ tb := tb_in (tm_3 (List.mem_of_getElem? (i := 56) rfl)) rfl
theorem q3_57 : (Cond.fieldLink "TrustChain$Reader" (37 : Nat) "TrustChain$Reader" "text" "[B") ∈ tb := tb_in (tm_3 (List.mem_of_getElem? (i := 57) rfl)) rfl
theorem q3_58 : (Cond.fieldLink "TrustChain$CertificateReader" (25 : Nat) "TrustChain$CertificateReader" "text" "[B") ∈ tb := tb_in (tm_3 (List.mem_of_getElem? (i := 58) rfl)) rfl
theorem q3_59 : (Cond.sameField "TrustChain$CertificateReader" "TrustChain$Reader" "text" "[B") ∈ tb := tb_in (tm_3 (List.mem_of_getElem? (i := 59) rfl)) rfl
theorem q3_60 : (Cond.fieldLink "TrustChain$ListReader" (29 : Nat) "TrustChain$ListReader" "text" "[B") ∈ tb := tb_in (tm_3 (List.mem_of_getElem? (i := 60) rfl)) rfl
theorem q3_61 : (Cond.sameField "TrustChain$ListReader" "TrustChain$Reader" "text" "[B") ∈ tb := tb_in (tm_3 (List.mem_of_getElem? (i := 61) rfl)) rfl
theorem q3_62 : (Cond.fieldLink "TrustChain$Reader" (9 : Nat) "TrustChain$Reader" "place" "I") ∈ tb := tb_in (tm_3 (List.mem_of_getElem? (i := 62) rfl)) rfl
theorem q3_63 : (Cond.fieldLink "TrustChain$CertificateReader" (33 : Nat) "TrustChain$CertificateReader" "place" "I") ∈ tb := tb_in (tm_3 (List.mem_of_getElem? (i := 63) rfl)) rfl
theorem q3_64 : (Cond.sameField "TrustChain$CertificateReader" "TrustChain$Reader" "place" "I") ∈ tb := tb_in (tm_3 (List.mem_of_getElem? (i := 64) rfl)) rfl
theorem q3_65 : (Cond.fieldLink "TrustChain$ListReader" (37 : Nat) "TrustChain$ListReader" "place" "I") ∈ tb := tb_in (tm_3 (List.mem_of_getElem? (i := 65) rfl)) rfl
theorem q3_66 : (Cond.sameField "TrustChain$ListReader" "TrustChain$Reader" "place" "I") ∈ tb := tb_in (tm_3 (List.mem_of_getElem? (i := 66) rfl)) rfl
theorem q3_67 : (Cond.fieldLink "TrustChain$Reader" (15 : Nat) "TrustChain$Reader" "start" "I") ∈ tb := tb_in (tm_3 (List.mem_of_getElem? (i := 67) rfl)) rfl
theorem q3_68 : (Cond.fieldLink "TrustChain$Reader" (18 : Nat) "TrustChain$Reader" "wrongAt" "I") ∈ tb := tb_in (tm_3 (List.mem_of_getElem? (i := 68) rfl)) rfl
theorem q3_69 : (Cond.fieldLink "TrustChain" (107 : Nat) "TrustChain$CertificateReader" "wrongAt" "I") ∈ tb := tb_in (tm_3 (List.mem_of_getElem? (i := 69) rfl)) rfl
theorem q3_70 : (Cond.sameField "TrustChain$CertificateReader" "TrustChain$Reader" "wrongAt" "I") ∈ tb := tb_in (tm_3 (List.mem_of_getElem? (i := 70) rfl)) rfl
theorem q3_71 : (Cond.fieldLink "TrustChain" (152 : Nat) "TrustChain$ListReader" "wrongAt" "I") ∈ tb := tb_in (tm_3 (List.mem_of_getElem? (i := 71) rfl)) rfl
theorem q3_72 : (Cond.sameField "TrustChain$ListReader" "TrustChain$Reader" "wrongAt" "I") ∈ tb := tb_in (tm_3 (List.mem_of_getElem? (i := 72) rfl)) rfl
theorem q3_73 : (Cond.fieldLink "TrustChain$Reader" (21 : Nat) "TrustChain$Reader" "parts" "I") ∈ tb := tb_in (tm_3 (List.mem_of_getElem? (i := 73) rfl)) rfl
theorem q3_74 : (Cond.fieldLink "TrustChain$CertificateReader" (116 : Nat) "TrustChain$CertificateReader" "parts" "I") ∈ tb := tb_in (tm_3 (List.mem_of_getElem? (i := 74) rfl)) rfl
theorem q3_75 : (Cond.sameField "TrustChain$CertificateReader" "TrustChain$Reader" "parts" "I") ∈ tb := tb_in (tm_3 (List.mem_of_getElem? (i := 75) rfl)) rfl
theorem q3_76 : (Cond.fieldLink "TrustChain$Reader" (24 : Nat) "TrustChain$Reader" "matters" "I") ∈ tb := tb_in (tm_3 (List.mem_of_getElem? (i := 76) rfl)) rfl
theorem q3_77 : (Cond.fieldLink "TrustChain$CertificateReader" (62 : Nat) "TrustChain$CertificateReader" "matters" "I") ∈ tb := tb_in (tm_3 (List.mem_of_getElem? (i := 77) rfl)) rfl
theorem q3_78 : (Cond.sameField "TrustChain$CertificateReader" "TrustChain$Reader" "matters" "I") ∈ tb := tb_in (tm_3 (List.mem_of_getElem? (i := 78) rfl)) rfl
theorem q3_79 : (Cond.fieldLink "TrustChain$ListReader" (81 : Nat) "TrustChain$ListReader" "matters" "I") ∈ tb := tb_in (tm_3 (List.mem_of_getElem? (i := 79) rfl)) rfl
theorem q3_80 : (Cond.sameField "TrustChain$ListReader" "TrustChain$Reader" "matters" "I") ∈ tb := tb_in (tm_3 (List.mem_of_getElem? (i := 80) rfl)) rfl
theorem q3_81 : (Cond.fieldLink "TrustChain$Reader" (27 : Nat) "TrustChain$Reader" "extensions" "I") ∈ tb := tb_in (tm_3 (List.mem_of_getElem? (i := 81) rfl)) rfl
theorem q3_82 : (Cond.fieldLink "TrustChain$CertificateReader" (58 : Nat) "TrustChain$CertificateReader" "extensions" "I") ∈ tb := tb_in (tm_3 (List.mem_of_getElem? (i := 82) rfl)) rfl
theorem q3_83 : (Cond.sameField "TrustChain$CertificateReader" "TrustChain$Reader" "extensions" "I") ∈ tb := tb_in (tm_3 (List.mem_of_getElem? (i := 83) rfl)) rfl
theorem q3_84 : (Cond.fieldLink "TrustChain$Reader" (33 : Nat) "TrustChain$Reader" "kinds" "Ljava/util/ArrayList;") ∈ tb := tb_in (tm_3 (List.mem_of_getElem? (i := 84) rfl)) rfl
theorem q3_85 : (Cond.laysFinal "TrustChain$CertificateReader" "TrustChain$CertificateReader" "result" "LTrustChain$Certificate;") ∈ tb := tb_in (tm_3 (List.mem_of_getElem? (i := 85) rfl)) rfl
theorem q3_87 : (Cond.laysFinal "TrustChain$CertificateReader" "TrustChain$Reader" "text" "[B") ∈ tb := tb_in (tm_3 (List.mem_of_getElem? (i := 87) rfl)) rfl
theorem q3_89 : (Cond.lays "TrustChain$CertificateReader" "TrustChain$Reader" "place" "I") ∈ tb := tb_in (tm_3 (List.mem_of_getElem? (i := 89) rfl)) rfl
theorem q3_91 : (Cond.lays "TrustChain$CertificateReader" "TrustChain$Reader" "start" "I") ∈ tb := tb_in (tm_3 (List.mem_of_getElem? (i := 91) rfl)) rfl
theorem q3_93 : (Cond.lays "TrustChain$CertificateReader" "TrustChain$Reader" "wrongAt" "I") ∈ tb := tb_in (tm_3 (List.mem_of_getElem? (i := 93) rfl)) rfl
theorem q3_95 : (Cond.lays "TrustChain$CertificateReader" "TrustChain$Reader" "parts" "I") ∈ tb := tb_in (tm_3 (List.mem_of_getElem? (i := 95) rfl)) rfl
theorem q3_97 : (Cond.lays "TrustChain$CertificateReader" "TrustChain$Reader" "matters" "I") ∈ tb := tb_in (tm_3 (List.mem_of_getElem? (i := 97) rfl)) rfl
theorem q3_99 : (Cond.lays "TrustChain$CertificateReader" "TrustChain$Reader" "extensions" "I") ∈ tb := tb_in (tm_3 (List.mem_of_getElem? (i := 99) rfl)) rfl
theorem q3_101 : (Cond.laysFinal "TrustChain$CertificateReader" "TrustChain$Reader" "kinds" "Ljava/util/ArrayList;") ∈ tb := tb_in (tm_3 (List.mem_of_getElem? (i := 101) rfl)) rfl
theorem q3_104 : (Cond.methodLink "TrustChain" (104 : Nat) ({ cls := "TrustChain$CertificateReader", name := "readCertificate", desc := "()V" } : MethodName)) ∈ tb := tb_in (tm_3 (List.mem_of_getElem? (i := 104) rfl)) rfl
theorem q3_105 : (Cond.instanceMethod ({ cls := "TrustChain$CertificateReader", name := "readCertificate", desc := "()V" } : MethodName)) ∈ tb := tb_in (tm_3 (List.mem_of_getElem? (i := 105) rfl)) rfl
theorem q3_106 : (Cond.selects "TrustChain$CertificateReader" ({ cls := "TrustChain$CertificateReader", name := "readCertificate", desc := "()V" } : MethodName) ({ cls := "TrustChain$CertificateReader", name := "readCertificate", desc := "()V" } : MethodName)) ∈ tb := tb_in (tm_3 (List.mem_of_getElem? (i := 106) rfl)) rfl
theorem q3_107 : (Cond.code ({ cls := "TrustChain$CertificateReader", name := "readCertificate", desc := "()V" } : MethodName) prog_3_method_2_code (5 : Nat) none) ∈ tb := tb_in (tm_3 (List.mem_of_getElem? (i := 107) rfl)) rfl
theorem q3_108 : (Cond.methodLink "TrustChain$CertificateReader" (29 : Nat) ({ cls := "TrustChain$CertificateReader", name := "open", desc := "(II)I" } : MethodName)) ∈ tb := tb_in (tm_3 (List.mem_of_getElem? (i := 108) rfl)) rfl
theorem q3_109 : (Cond.sameMethod "TrustChain$CertificateReader" "TrustChain$Reader" "open" "(II)I") ∈ tb := tb_in (tm_3 (List.mem_of_getElem? (i := 109) rfl)) rfl
theorem q3_110 : (Cond.declares ({ cls := "TrustChain$Reader", name := "open", desc := "(II)I" } : MethodName)) ∈ lw_tbl := tm_3 (List.mem_of_getElem? (i := 110) rfl)
theorem q3_111 : (Cond.selects "TrustChain$CertificateReader" ({ cls := "TrustChain$CertificateReader", name := "open", desc := "(II)I" } : MethodName) ({ cls := "TrustChain$Reader", name := "open", desc := "(II)I" } : MethodName)) ∈ tb := tb_in (tm_3 (List.mem_of_getElem? (i := 111) rfl)) rfl
theorem q3_112 : (Cond.instanceMethod ({ cls := "TrustChain$Reader", name := "open", desc := "(II)I" } : MethodName)) ∈ tb := tb_in (tm_3 (List.mem_of_getElem? (i := 112) rfl)) rfl
theorem q3_113 : (Cond.code ({ cls := "TrustChain$Reader", name := "open", desc := "(II)I" } : MethodName) prog_8_method_8_code (6 : Nat) (some FieldType.int)) ∈ tb := tb_in (tm_3 (List.mem_of_getElem? (i := 113) rfl)) rfl
theorem q3_114 : (Cond.methodLink "TrustChain$Reader" (45 : Nat) ({ cls := "TrustChain$Reader", name := "octet", desc := "(I)I" } : MethodName)) ∈ tb := tb_in (tm_3 (List.mem_of_getElem? (i := 114) rfl)) rfl
theorem q3_115 : (Cond.instanceMethod ({ cls := "TrustChain$Reader", name := "octet", desc := "(I)I" } : MethodName)) ∈ tb := tb_in (tm_3 (List.mem_of_getElem? (i := 115) rfl)) rfl
theorem q3_116 : (Cond.sameMethod "TrustChain$Reader" "TrustChain$Reader" "octet" "(I)I") ∈ tb := tb_in (tm_3 (List.mem_of_getElem? (i := 116) rfl)) rfl
theorem q3_117 : (Cond.selects "TrustChain$CertificateReader" ({ cls := "TrustChain$Reader", name := "octet", desc := "(I)I" } : MethodName) ({ cls := "TrustChain$Reader", name := "octet", desc := "(I)I" } : MethodName)) ∈ tb := tb_in (tm_3 (List.mem_of_getElem? (i := 117) rfl)) rfl
theorem q3_118 : (Cond.selects "TrustChain$ListReader" ({ cls := "TrustChain$Reader", name := "octet", desc := "(I)I" } : MethodName) ({ cls := "TrustChain$Reader", name := "octet", desc := "(I)I" } : MethodName)) ∈ tb := tb_in (tm_3 (List.mem_of_getElem? (i := 118) rfl)) rfl
theorem q3_119 : (Cond.code ({ cls := "TrustChain$Reader", name := "octet", desc := "(I)I" } : MethodName) prog_8_method_3_code (2 : Nat) (some FieldType.int)) ∈ tb := tb_in (tm_3 (List.mem_of_getElem? (i := 119) rfl)) rfl
theorem q3_120 : (Cond.methodLink "TrustChain$CertificateReader" (37 : Nat) ({ cls := "TrustChain$CertificateReader", name := "readHead", desc := "(I)V" } : MethodName)) ∈ tb := tb_in (tm_3 (List.mem_of_getElem? (i := 120) rfl)) rfl
theorem q3_122 : (Cond.instanceMethod ({ cls := "TrustChain$CertificateReader", name := "readHead", desc := "(I)V" } : MethodName)) ∈ tb := tb_in (tm_3 (List.mem_of_getElem? (i := 122) rfl)) rfl
theorem q3_123 : (Cond.code ({ cls := "TrustChain$CertificateReader", name := "readHead", desc := "(I)V" } : MethodName) prog_3_method_3_code (4 : Nat) none) ∈ tb := tb_in (tm_3 (List.mem_of_getElem? (i := 123) rfl)) rfl
theorem q3_124 : (Cond.methodLink "TrustChain$CertificateReader" (70 : Nat) ({ cls := "TrustChain$CertificateReader", name := "number", desc := "(II)LTrustChain$Slice;" } : MethodName)) ∈ tb := tb_in (tm_3 (List.mem_of_getElem? (i := 124) rfl)) rfl
theorem q3_125 : (Cond.sameMethod "TrustChain$CertificateReader" "TrustChain$Reader" "number" "(II)LTrustChain$Slice;") ∈ tb := tb_in (tm_3 (List.mem_of_getElem? (i := 125) rfl)) rfl
theorem q3_126 : (Cond.declares ({ cls := "TrustChain$Reader", name := "number", desc := "(II)LTrustChain$Slice;" } : MethodName)) ∈ lw_tbl := tm_3 (List.mem_of_getElem? (i := 126) rfl)
theorem q3_127 : (Cond.selects "TrustChain$CertificateReader" ({ cls := "TrustChain$CertificateReader", name := "number", desc := "(II)LTrustChain$Slice;" } : MethodName) ({ cls := "TrustChain$Reader", name := "number", desc := "(II)LTrustChain$Slice;" } : MethodName)) ∈ tb := tb_in (tm_3 (List.mem_of_getElem? (i := 127) rfl)) rfl
theorem q3_128 : (Cond.instanceMethod ({ cls := "TrustChain$Reader", name := "number", desc := "(II)LTrustChain$Slice;" } : MethodName)) ∈ tb := tb_in (tm_3 (List.mem_of_getElem? (i := 128) rfl)) rfl
theorem q3_129 : (Cond.code ({ cls := "TrustChain$Reader", name := "number", desc := "(II)LTrustChain$Slice;" } : MethodName) prog_8_method_11_code (7 : Nat) (some (FieldType.object "TrustChain$Slice"))) ∈ tb := tb_in (tm_3 (List.mem_of_getElem? (i := 129) rfl)) rfl
theorem q3_130 : (Cond.methodLink "TrustChain$Reader" (49 : Nat) ({ cls := "TrustChain$Reader", name := "open", desc := "(II)I" } : MethodName)) ∈ tb := tb_in (tm_3 (List.mem_of_getElem? (i := 130) rfl)) rfl
theorem q3_131 : (Cond.methodLink "TrustChain$Reader" (53 : Nat) ({ cls := "TrustChain$Reader", name := "leave", desc := "(IZ)V" } : MethodName)) ∈ tb := tb_in (tm_3 (List.mem_of_getElem? (i := 131) rfl)) rfl
theorem q3_132 : (Cond.instanceMethod ({ cls := "TrustChain$Reader", name := "leave", desc := "(IZ)V" } : MethodName)) ∈ tb := tb_in (tm_3 (List.mem_of_getElem? (i := 132) rfl)) rfl
theorem q3_133 : (Cond.sameMethod "TrustChain$Reader" "TrustChain$Reader" "leave" "(IZ)V") ∈ tb := tb_in (tm_3 (List.mem_of_getElem? (i := 133) rfl)) rfl
theorem q3_134 : (Cond.selects "TrustChain$CertificateReader" ({ cls := "TrustChain$Reader", name := "leave", desc := "(IZ)V" } : MethodName) ({ cls := "TrustChain$Reader", name := "leave", desc := "(IZ)V" } : MethodName)) ∈ tb := tb_in (tm_3 (List.mem_of_getElem? (i := 134) rfl)) rfl
theorem q3_135 : (Cond.selects "TrustChain$ListReader" ({ cls := "TrustChain$Reader", name := "leave", desc := "(IZ)V" } : MethodName) ({ cls := "TrustChain$Reader", name := "leave", desc := "(IZ)V" } : MethodName)) ∈ tb := tb_in (tm_3 (List.mem_of_getElem? (i := 135) rfl)) rfl
theorem q3_136 : (Cond.code ({ cls := "TrustChain$Reader", name := "leave", desc := "(IZ)V" } : MethodName) prog_8_method_10_code (3 : Nat) none) ∈ tb := tb_in (tm_3 (List.mem_of_getElem? (i := 136) rfl)) rfl
theorem q3_137 : (Cond.classLink "TrustChain$Reader" (57 : Nat) "TrustChain$Slice") ∈ tb := tb_in (tm_3 (List.mem_of_getElem? (i := 137) rfl)) rfl
theorem q3_138 : (Cond.methodLink "TrustChain$Reader" (59 : Nat) ({ cls := "TrustChain$Slice", name := "<init>", desc := "([BII)V" } : MethodName)) ∈ tb := tb_in (tm_3 (List.mem_of_getElem? (i := 138) rfl)) rfl
theorem q3_139 : (Cond.methodLink "TrustChain$CertificateReader" (74 : Nat) ({ cls := "TrustChain$Slice", name := "number", desc := "()J" } : MethodName)) ∈ tb := tb_in (tm_3 (List.mem_of_getElem? (i := 139) rfl)) rfl
theorem q3_140 : (Cond.instanceMethod ({ cls := "TrustChain$Slice", name := "number", desc := "()J" } : MethodName)) ∈ tb := tb_in (tm_3 (List.mem_of_getElem? (i := 140) rfl)) rfl
theorem q3_141 : (Cond.selects "TrustChain$Slice" ({ cls := "TrustChain$Slice", name := "number", desc := "()J" } : MethodName) ({ cls := "TrustChain$Slice", name := "number", desc := "()J" } : MethodName)) ∈ tb := tb_in (tm_3 (List.mem_of_getElem? (i := 141) rfl)) rfl
theorem q3_142 : (Cond.code ({ cls := "TrustChain$Slice", name := "number", desc := "()J" } : MethodName) prog_12_method_8_code (4 : Nat) (some FieldType.long)) ∈ tb := tb_in (tm_3 (List.mem_of_getElem? (i := 142) rfl)) rfl
theorem q3_143 : (Cond.methodLink "TrustChain$Slice" (22 : Nat) ({ cls := "TrustChain$Slice", name := "length", desc := "()I" } : MethodName)) ∈ tb := tb_in (tm_3 (List.mem_of_getElem? (i := 143) rfl)) rfl
theorem q3_144 : (Cond.instanceMethod ({ cls := "TrustChain$Slice", name := "length", desc := "()I" } : MethodName)) ∈ tb := tb_in (tm_3 (List.mem_of_getElem? (i := 144) rfl)) rfl
theorem q3_145 : (Cond.selects "TrustChain$Slice" ({ cls := "TrustChain$Slice", name := "length", desc := "()I" } : MethodName) ({ cls := "TrustChain$Slice", name := "length", desc := "()I" } : MethodName)) ∈ tb := tb_in (tm_3 (List.mem_of_getElem? (i := 145) rfl)) rfl
theorem q3_146 : (Cond.code ({ cls := "TrustChain$Slice", name := "length", desc := "()I" } : MethodName) prog_12_method_2_code (1 : Nat) (some FieldType.int)) ∈ tb := tb_in (tm_3 (List.mem_of_getElem? (i := 146) rfl)) rfl
theorem q3_147 : (Cond.constantLong "TrustChain$Slice" (37 : Nat) (-1 : Int64)) ∈ tb := tb_in (tm_3 (List.mem_of_getElem? (i := 147) rfl)) rfl
theorem q3_148 : (Cond.methodLink "TrustChain$Slice" (30 : Nat) ({ cls := "TrustChain$Slice", name := "at", desc := "(I)I" } : MethodName)) ∈ tb := tb_in (tm_3 (List.mem_of_getElem? (i := 148) rfl)) rfl
theorem q3_149 : (Cond.instanceMethod ({ cls := "TrustChain$Slice", name := "at", desc := "(I)I" } : MethodName)) ∈ tb := tb_in (tm_3 (List.mem_of_getElem? (i := 149) rfl)) rfl
theorem q3_150 : (Cond.selects "TrustChain$Slice" ({ cls := "TrustChain$Slice", name := "at", desc := "(I)I" } : MethodName) ({ cls := "TrustChain$Slice", name := "at", desc := "(I)I" } : MethodName)) ∈ tb := tb_in (tm_3 (List.mem_of_getElem? (i := 150) rfl)) rfl
theorem q3_151 : (Cond.code ({ cls := "TrustChain$Slice", name := "at", desc := "(I)I" } : MethodName) prog_12_method_3_code (3 : Nat) (some FieldType.int)) ∈ tb := tb_in (tm_3 (List.mem_of_getElem? (i := 151) rfl)) rfl
theorem q3_152 : (Cond.constantLong "TrustChain$CertificateReader" (77 : Nat) (2 : Int64)) ∈ tb := tb_in (tm_3 (List.mem_of_getElem? (i := 152) rfl)) rfl
theorem q3_153 : (Cond.methodLink "TrustChain$CertificateReader" (79 : Nat) ({ cls := "TrustChain$CertificateReader", name := "require", desc := "(Z)V" } : MethodName)) ∈ tb := tb_in (tm_3 (List.mem_of_getElem? (i := 153) rfl)) rfl
theorem q3_154 : (Cond.sameMethod "TrustChain$CertificateReader" "TrustChain$Reader" "require" "(Z)V") ∈ tb := tb_in (tm_3 (List.mem_of_getElem? (i := 154) rfl)) rfl
theorem q3_155 : (Cond.declares ({ cls := "TrustChain$Reader", name := "require", desc := "(Z)V" } : MethodName)) ∈ lw_tbl := tm_3 (List.mem_of_getElem? (i := 155) rfl)
theorem q3_156 : (Cond.selects "TrustChain$CertificateReader" ({ cls := "TrustChain$CertificateReader", name := "require", desc := "(Z)V" } : MethodName) ({ cls := "TrustChain$Reader", name := "require", desc := "(Z)V" } : MethodName)) ∈ tb := tb_in (tm_3 (List.mem_of_getElem? (i := 156) rfl)) rfl
theorem q3_157 : (Cond.instanceMethod ({ cls := "TrustChain$Reader", name := "require", desc := "(Z)V" } : MethodName)) ∈ tb := tb_in (tm_3 (List.mem_of_getElem? (i := 157) rfl)) rfl
theorem q3_158 : (Cond.code ({ cls := "TrustChain$Reader", name := "require", desc := "(Z)V" } : MethodName) prog_8_method_7_code (2 : Nat) none) ∈ tb := tb_in (tm_3 (List.mem_of_getElem? (i := 158) rfl)) rfl
theorem q3_159 : (Cond.methodLink "TrustChain$CertificateReader" (51 : Nat) ({ cls := "TrustChain$CertificateReader", name := "finish", desc := "(I)V" } : MethodName)) ∈ tb := tb_in (tm_3 (List.mem_of_getElem? (i := 159) rfl)) rfl
theorem q3_160 : (Cond.sameMethod "TrustChain$CertificateReader" "TrustChain$Reader" "finish" "(I)V") ∈ tb := tb_in (tm_3 (List.mem_of_getElem? (i := 160) rfl)) rfl
theorem q3_161 : (Cond.declares ({ cls := "TrustChain$Reader", name := "finish", desc := "(I)V" } : MethodName)) ∈ lw_tbl := tm_3 (List.mem_of_getElem? (i := 161) rfl)
theorem q3_162 : (Cond.selects "TrustChain$CertificateReader" ({ cls := "TrustChain$CertificateReader", name := "finish", desc := "(I)V" } : MethodName) ({ cls := "TrustChain$Reader", name := "finish", desc := "(I)V" } : MethodName)) ∈ tb := tb_in (tm_3 (List.mem_of_getElem? (i := 162) rfl)) rfl
theorem q3_163 : (Cond.instanceMethod ({ cls := "TrustChain$Reader", name := "finish", desc := "(I)V" } : MethodName)) ∈ tb := tb_in (tm_3 (List.mem_of_getElem? (i := 163) rfl)) rfl
theorem q3_164 : (Cond.code ({ cls := "TrustChain$Reader", name := "finish", desc := "(I)V" } : MethodName) prog_8_method_9_code (2 : Nat) none) ∈ tb := tb_in (tm_3 (List.mem_of_getElem? (i := 164) rfl)) rfl
theorem q3_165 : (Cond.methodLink "TrustChain$CertificateReader" (83 : Nat) ({ cls := "TrustChain$CertificateReader", name := "serial", desc := "(I)LTrustChain$Slice;" } : MethodName)) ∈ tb := tb_in (tm_3 (List.mem_of_getElem? (i := 165) rfl)) rfl
theorem q3_166 : (Cond.sameMethod "TrustChain$CertificateReader" "TrustChain$Reader" "serial" "(I)LTrustChain$Slice;") ∈ tb := tb_in (tm_3 (List.mem_of_getElem? (i := 166) rfl)) rfl
theorem q3_167 : (Cond.declares ({ cls := "TrustChain$Reader", name := "serial", desc := "(I)LTrustChain$Slice;" } : MethodName)) ∈ lw_tbl := tm_3 (List.mem_of_getElem? (i := 167) rfl)
theorem q3_168 : (Cond.selects "TrustChain$CertificateReader" ({ cls := "TrustChain$CertificateReader", name := "serial", desc := "(I)LTrustChain$Slice;" } : MethodName) ({ cls := "TrustChain$Reader", name := "serial", desc := "(I)LTrustChain$Slice;" } : MethodName)) ∈ tb := tb_in (tm_3 (List.mem_of_getElem? (i := 168) rfl)) rfl
theorem q3_169 : (Cond.instanceMethod ({ cls := "TrustChain$Reader", name := "serial", desc := "(I)LTrustChain$Slice;" } : MethodName)) ∈ tb := tb_in (tm_3 (List.mem_of_getElem? (i := 169) rfl)) rfl
theorem q3_170 : (Cond.code ({ cls := "TrustChain$Reader", name := "serial", desc := "(I)LTrustChain$Slice;" } : MethodName) prog_8_method_12_code (4 : Nat) (some (FieldType.object "TrustChain$Slice"))) ∈ tb := tb_in (tm_3 (List.mem_of_getElem? (i := 170) rfl)) rfl
theorem q3_171 : (Cond.methodLink "TrustChain$Reader" (62 : Nat) ({ cls := "TrustChain$Reader", name := "number", desc := "(II)LTrustChain$Slice;" } : MethodName)) ∈ tb := tb_in (tm_3 (List.mem_of_getElem? (i := 171) rfl)) rfl
theorem q3_172 : (Cond.methodLink "TrustChain$Reader" (66 : Nat) ({ cls := "TrustChain$Slice", name := "at", desc := "(I)I" } : MethodName)) ∈ tb := tb_in (tm_3 (List.mem_of_getElem? (i := 172) rfl)) rfl
theorem q3_173 : (Cond.methodLink "TrustChain$Reader" (69 : Nat) ({ cls := "TrustChain$Slice", name := "length", desc := "()I" } : MethodName)) ∈ tb := tb_in (tm_3 (List.mem_of_getElem? (i := 173) rfl)) rfl
theorem q3_174 : (Cond.methodLink "TrustChain$Reader" (73 : Nat) ({ cls := "TrustChain$Reader", name := "require", desc := "(Z)V" } : MethodName)) ∈ tb := tb_in (tm_3 (List.mem_of_getElem? (i := 174) rfl)) rfl
theorem q3_175 : (Cond.methodLink "TrustChain$CertificateReader" (89 : Nat) ({ cls := "TrustChain$CertificateReader", name := "algorithm", desc := "(II)V" } : MethodName)) ∈ tb := tb_in (tm_3 (List.mem_of_getElem? (i := 175) rfl)) rfl
theorem q3_176 : (Cond.sameMethod "TrustChain$CertificateReader" "TrustChain$Reader" "algorithm" "(II)V") ∈ tb := tb_in (tm_3 (List.mem_of_getElem? (i := 176) rfl)) rfl
theorem q3_177 : (Cond.declares ({ cls := "TrustChain$Reader", name := "algorithm", desc := "(II)V" } : MethodName)) ∈ lw_tbl := tm_3 (List.mem_of_getElem? (i := 177) rfl)
theorem q3_178 : (Cond.selects "TrustChain$CertificateReader" ({ cls := "TrustChain$CertificateReader", name := "algorithm", desc := "(II)V" } : MethodName) ({ cls := "TrustChain$Reader", name := "algorithm", desc := "(II)V" } : MethodName)) ∈ tb := tb_in (tm_3 (List.mem_of_getElem? (i := 178) rfl)) rfl
theorem q3_179 : (Cond.instanceMethod ({ cls := "TrustChain$Reader", name := "algorithm", desc := "(II)V" } : MethodName)) ∈ tb := tb_in (tm_3 (List.mem_of_getElem? (i := 179) rfl)) rfl
theorem q3_180 : (Cond.code ({ cls := "TrustChain$Reader", name := "algorithm", desc := "(II)V" } : MethodName) prog_8_method_16_code (7 : Nat) none) ∈ tb := tb_in (tm_3 (List.mem_of_getElem? (i := 180) rfl)) rfl
theorem q3_181 : (Cond.fieldLink "TrustChain$Reader" (77 : Nat) "TrustChain$Reader" "PKCS1" "[I") ∈ tb := tb_in (tm_3 (List.mem_of_getElem? (i := 181) rfl)) rfl
theorem q3_182 : (Cond.laysStatic "TrustChain$Reader" "PKCS1" "[I") ∈ lw_tbl := tm_3 (List.mem_of_getElem? (i := 182) rfl)
theorem q3_183 : (Cond.methodLink "TrustChain$Reader" (81 : Nat) ({ cls := "TrustChain$Reader", name := "finish", desc := "(I)V" } : MethodName)) ∈ tb := tb_in (tm_3 (List.mem_of_getElem? (i := 183) rfl)) rfl
theorem q3_184 : (Cond.methodLink "TrustChain$CertificateReader" (93 : Nat) ({ cls := "TrustChain$CertificateReader", name := "fullName", desc := "(I)LTrustChain$Slice;" } : MethodName)) ∈ tb := tb_in (tm_3 (List.mem_of_getElem? (i := 184) rfl)) rfl
theorem q3_185 : (Cond.sameMethod "TrustChain$CertificateReader" "TrustChain$Reader" "fullName" "(I)LTrustChain$Slice;") ∈ tb := tb_in (tm_3 (List.mem_of_getElem? (i := 185) rfl)) rfl
theorem q3_186 : (Cond.declares ({ cls := "TrustChain$Reader", name := "fullName", desc := "(I)LTrustChain$Slice;" } : MethodName)) ∈ lw_tbl := tm_3 (List.mem_of_getElem? (i := 186) rfl)
theorem q3_187 : (Cond.selects "TrustChain$CertificateReader" ({ cls := "TrustChain$CertificateReader", name := "fullName", desc := "(I)LTrustChain$Slice;" } : MethodName) ({ cls := "TrustChain$Reader", name := "fullName", desc := "(I)LTrustChain$Slice;" } : MethodName)) ∈ tb := tb_in (tm_3 (List.mem_of_getElem? (i := 187) rfl)) rfl
theorem q3_188 : (Cond.instanceMethod ({ cls := "TrustChain$Reader", name := "fullName", desc := "(I)LTrustChain$Slice;" } : MethodName)) ∈ tb := tb_in (tm_3 (List.mem_of_getElem? (i := 188) rfl)) rfl
theorem q3_189 : (Cond.code ({ cls := "TrustChain$Reader", name := "fullName", desc := "(I)LTrustChain$Slice;" } : MethodName) prog_8_method_18_code (4 : Nat) (some (FieldType.object "TrustChain$Slice"))) ∈ tb := tb_in (tm_3 (List.mem_of_getElem? (i := 189) rfl)) rfl
theorem q3_190 : (Cond.methodLink "TrustChain$Reader" (99 : Nat) ({ cls := "TrustChain$Reader", name := "name", desc := "(I)LTrustChain$Slice;" } : MethodName)) ∈ tb := tb_in (tm_3 (List.mem_of_getElem? (i := 190) rfl)) rfl
theorem q3_191 : (Cond.instanceMethod ({ cls := "TrustChain$Reader", name := "name", desc := "(I)LTrustChain$Slice;" } : MethodName)) ∈ tb := tb_in (tm_3 (List.mem_of_getElem? (i := 191) rfl)) rfl
theorem q3_192 : (Cond.sameMethod "TrustChain$Reader" "TrustChain$Reader" "name" "(I)LTrustChain$Slice;") ∈ tb := tb_in (tm_3 (List.mem_of_getElem? (i := 192) rfl)) rfl
theorem q3_193 : (Cond.selects "TrustChain$CertificateReader" ({ cls := "TrustChain$Reader", name := "name", desc := "(I)LTrustChain$Slice;" } : MethodName) ({ cls := "TrustChain$Reader", name := "name", desc := "(I)LTrustChain$Slice;" } : MethodName)) ∈ tb := tb_in (tm_3 (List.mem_of_getElem? (i := 193) rfl)) rfl
theorem q3_194 : (Cond.selects "TrustChain$ListReader" ({ cls := "TrustChain$Reader", name := "name", desc := "(I)LTrustChain$Slice;" } : MethodName) ({ cls := "TrustChain$Reader", name := "name", desc := "(I)LTrustChain$Slice;" } : MethodName)) ∈ tb := tb_in (tm_3 (List.mem_of_getElem? (i := 194) rfl)) rfl
theorem q3_195 : (Cond.code ({ cls := "TrustChain$Reader", name := "name", desc := "(I)LTrustChain$Slice;" } : MethodName) prog_8_method_17_code (11 : Nat) (some (FieldType.object "TrustChain$Slice"))) ∈ tb := tb_in (tm_3 (List.mem_of_getElem? (i := 195) rfl)) rfl
theorem q3_196 : (Cond.methodLink "TrustChain$Reader" (41 : Nat) ({ cls := "TrustChain$Reader", name := "more", desc := "(I)Z" } : MethodName)) ∈ tb := tb_in (tm_3 (List.mem_of_getElem? (i := 196) rfl)) rfl
theorem q3_197 : (Cond.instanceMethod ({ cls := "TrustChain$Reader", name := "more", desc := "(I)Z" } : MethodName)) ∈ tb := tb_in (tm_3 (List.mem_of_getElem? (i := 197) rfl)) rfl
theorem q3_198 : (Cond.sameMethod "TrustChain$Reader" "TrustChain$Reader" "more" "(I)Z") ∈ tb := tb_in (tm_3 (List.mem_of_getElem? (i := 198) rfl)) rfl
theorem q3_199 : (Cond.selects "TrustChain$CertificateReader" ({ cls := "TrustChain$Reader", name := "more", desc := "(I)Z" } : MethodName) ({ cls := "TrustChain$Reader", name := "more", desc := "(I)Z" } : MethodName)) ∈ tb := tb_in (tm_3 (List.mem_of_getElem? (i := 199) rfl)) rfl
theorem q3_200 : (Cond.selects "TrustChain$ListReader" ({ cls := "TrustChain$Reader", name := "more", desc := "(I)Z" } : MethodName) ({ cls := "TrustChain$Reader", name := "more", desc := "(I)Z" } : MethodName)) ∈ tb := tb_in (tm_3 (List.mem_of_getElem? (i := 200) rfl)) rfl
theorem q3_201 : (Cond.code ({ cls := "TrustChain$Reader", name := "more", desc := "(I)Z" } : MethodName) prog_8_method_4_code (2 : Nat) (some FieldType.boolean)) ∈ tb := tb_in (tm_3 (List.mem_of_getElem? (i := 201) rfl)) rfl
theorem q3_202 : (Cond.methodLink "TrustChain$Reader" (85 : Nat) ({ cls := "TrustChain$Reader", name := "isOid", desc := "(II)Z" } : MethodName)) ∈ tb := tb_in (tm_3 (List.mem_of_getElem? (i := 202) rfl)) rfl
theorem q3_204 : (Cond.instanceMethod ({ cls := "TrustChain$Reader", name := "isOid", desc := "(II)Z" } : MethodName)) ∈ tb := tb_in (tm_3 (List.mem_of_getElem? (i := 204) rfl)) rfl
theorem q3_205 : (Cond.code ({ cls := "TrustChain$Reader", name := "isOid", desc := "(II)Z" } : MethodName) prog_8_method_28_code (5 : Nat) (some FieldType.boolean)) ∈ tb := tb_in (tm_3 (List.mem_of_getElem? (i := 205) rfl)) rfl
theorem q3_206 : (Cond.methodLink "TrustChain$Reader" (89 : Nat) ({ cls := "TrustChain$Reader", name := "nextIs", desc := "(II)Z" } : MethodName)) ∈ tb := tb_in (tm_3 (List.mem_of_getElem? (i := 206) rfl)) rfl
theorem q3_207 : (Cond.instanceMethod ({ cls := "TrustChain$Reader", name := "nextIs", desc := "(II)Z" } : MethodName)) ∈ tb := tb_in (tm_3 (List.mem_of_getElem? (i := 207) rfl)) rfl
theorem q3_208 : (Cond.sameMethod "TrustChain$Reader" "TrustChain$Reader" "nextIs" "(II)Z") ∈ tb := tb_in (tm_3 (List.mem_of_getElem? (i := 208) rfl)) rfl
theorem q3_209 : (Cond.selects "TrustChain$CertificateReader" ({ cls := "TrustChain$Reader", name := "nextIs", desc := "(II)Z" } : MethodName) ({ cls := "TrustChain$Reader", name := "nextIs", desc := "(II)Z" } : MethodName)) ∈ tb := tb_in (tm_3 (List.mem_of_getElem? (i := 209) rfl)) rfl
theorem q3_210 : (Cond.selects "TrustChain$ListReader" ({ cls := "TrustChain$Reader", name := "nextIs", desc := "(II)Z" } : MethodName) ({ cls := "TrustChain$Reader", name := "nextIs", desc := "(II)Z" } : MethodName)) ∈ tb := tb_in (tm_3 (List.mem_of_getElem? (i := 210) rfl)) rfl
theorem q3_211 : (Cond.code ({ cls := "TrustChain$Reader", name := "nextIs", desc := "(II)Z" } : MethodName) prog_8_method_5_code (3 : Nat) (some FieldType.boolean)) ∈ tb := tb_in (tm_3 (List.mem_of_getElem? (i := 211) rfl)) rfl
theorem q3_212 : (Cond.methodLink "TrustChain$Reader" (92 : Nat) ({ cls := "TrustChain$Reader", name := "isUtf8", desc := "(II)Z" } : MethodName)) ∈ tb := tb_in (tm_3 (List.mem_of_getElem? (i := 212) rfl)) rfl
theorem q3_213 : (Cond.privateMethod ({ cls := "TrustChain$Reader", name := "isUtf8", desc := "(II)Z" } : MethodName)) ∈ lw_tbl := tm_3 (List.mem_of_getElem? (i := 213) rfl)
theorem q3_214 : (Cond.instanceMethod ({ cls := "TrustChain$Reader", name := "isUtf8", desc := "(II)Z" } : MethodName)) ∈ tb := tb_in (tm_3 (List.mem_of_getElem? (i := 214) rfl)) rfl
theorem q3_215 : (Cond.code ({ cls := "TrustChain$Reader", name := "isUtf8", desc := "(II)Z" } : MethodName) prog_8_method_31_code (10 : Nat) (some FieldType.boolean)) ∈ tb := tb_in (tm_3 (List.mem_of_getElem? (i := 215) rfl)) rfl
theorem q3_216 : (Cond.constant "TrustChain$Reader" (174 : Nat) (55296 : Int32)) ∈ tb := tb_in (tm_3 (List.mem_of_getElem? (i := 216) rfl)) rfl
theorem q3_217 : (Cond.constant "TrustChain$Reader" (175 : Nat) (57343 : Int32)) ∈ tb := tb_in (tm_3 (List.mem_of_getElem? (i := 217) rfl)) rfl
theorem q3_218 : (Cond.constant "TrustChain$Reader" (176 : Nat) (1114111 : Int32)) ∈ tb := tb_in (tm_3 (List.mem_of_getElem? (i := 218) rfl)) rfl
theorem q3_219 : (Cond.constant "TrustChain$Reader" (177 : Nat) (65536 : Int32)) ∈ tb := tb_in (tm_3 (List.mem_of_getElem? (i := 219) rfl)) rfl
theorem q3_220 : (Cond.methodLink "TrustChain$Reader" (95 : Nat) ({ cls := "TrustChain$Reader", name := "isSimple", desc := "(III)Z" } : MethodName)) ∈ tb := tb_in (tm_3 (List.mem_of_getElem? (i := 220) rfl)) rfl
theorem q3_222 : (Cond.instanceMethod ({ cls := "TrustChain$Reader", name := "isSimple", desc := "(III)Z" } : MethodName)) ∈ tb := tb_in (tm_3 (List.mem_of_getElem? (i := 222) rfl)) rfl
theorem q3_223 : (Cond.code ({ cls := "TrustChain$Reader", name := "isSimple", desc := "(III)Z" } : MethodName) prog_8_method_29_code (5 : Nat) (some FieldType.boolean)) ∈ tb := tb_in (tm_3 (List.mem_of_getElem? (i := 223) rfl)) rfl
theorem q3_224 : (Cond.methodLink "TrustChain$Reader" (171 : Nat) ({ cls := "TrustChain$Reader", name := "isPrintable", desc := "(I)Z" } : MethodName)) ∈ tb := tb_in (tm_3 (List.mem_of_getElem? (i := 224) rfl)) rfl
theorem q3_225 : (Cond.static ({ cls := "TrustChain$Reader", name := "isPrintable", desc := "(I)Z" } : MethodName)) ∈ tb := tb_in (tm_3 (List.mem_of_getElem? (i := 225) rfl)) rfl
theorem q3_226 : (Cond.code ({ cls := "TrustChain$Reader", name := "isPrintable", desc := "(I)Z" } : MethodName) prog_8_method_30_code (4 : Nat) (some FieldType.boolean)) ∈ tb := tb_in (tm_3 (List.mem_of_getElem? (i := 226) rfl)) rfl
theorem q3_227 : (Cond.methodLink "TrustChain$Reader" (103 : Nat) ({ cls := "TrustChain$Reader", name := "refuse", desc := "(I)V" } : MethodName)) ∈ tb := tb_in (tm_3 (List.mem_of_getElem? (i := 227) rfl)) rfl
theorem q3_228 : (Cond.instanceMethod ({ cls := "TrustChain$Reader", name := "refuse", desc := "(I)V" } : MethodName)) ∈ tb := tb_in (tm_3 (List.mem_of_getElem? (i := 228) rfl)) rfl
theorem q3_229 : (Cond.sameMethod "TrustChain$Reader" "TrustChain$Reader" "refuse" "(I)V") ∈ tb := tb_in (tm_3 (List.mem_of_getElem? (i := 229) rfl)) rfl
theorem q3_230 : (Cond.selects "TrustChain$CertificateReader" ({ cls := "TrustChain$Reader", name := "refuse", desc := "(I)V" } : MethodName) ({ cls := "TrustChain$Reader", name := "refuse", desc := "(I)V" } : MethodName)) ∈ tb := tb_in (tm_3 (List.mem_of_getElem? (i := 230) rfl)) rfl
theorem q3_231 : (Cond.selects "TrustChain$ListReader" ({ cls := "TrustChain$Reader", name := "refuse", desc := "(I)V" } : MethodName) ({ cls := "TrustChain$Reader", name := "refuse", desc := "(I)V" } : MethodName)) ∈ tb := tb_in (tm_3 (List.mem_of_getElem? (i := 231) rfl)) rfl
theorem q3_232 : (Cond.code ({ cls := "TrustChain$Reader", name := "refuse", desc := "(I)V" } : MethodName) prog_8_method_6_code (2 : Nat) none) ∈ tb := tb_in (tm_3 (List.mem_of_getElem? (i := 232) rfl)) rfl
theorem q3_233 : (Cond.methodLink "TrustChain$CertificateReader" (99 : Nat) ({ cls := "TrustChain$CertificateReader", name := "time", desc := "(I)J" } : MethodName)) ∈ tb := tb_in (tm_3 (List.mem_of_getElem? (i := 233) rfl)) rfl
theorem q3_234 : (Cond.sameMethod "TrustChain$CertificateReader" "TrustChain$Reader" "time" "(I)J") ∈ tb := tb_in (tm_3 (List.mem_of_getElem? (i := 234) rfl)) rfl
theorem q3_235 : (Cond.declares ({ cls := "TrustChain$Reader", name := "time", desc := "(I)J" } : MethodName)) ∈ lw_tbl := tm_3 (List.mem_of_getElem? (i := 235) rfl)
theorem q3_236 : (Cond.selects "TrustChain$CertificateReader" ({ cls := "TrustChain$CertificateReader", name := "time", desc := "(I)J" } : MethodName) ({ cls := "TrustChain$Reader", name := "time", desc := "(I)J" } : MethodName)) ∈ tb := tb_in (tm_3 (List.mem_of_getElem? (i := 236) rfl)) rfl
theorem q3_237 : (Cond.instanceMethod ({ cls := "TrustChain$Reader", name := "time", desc := "(I)J" } : MethodName)) ∈ tb := tb_in (tm_3 (List.mem_of_getElem? (i := 237) rfl)) rfl
theorem q3_238 : (Cond.code ({ cls := "TrustChain$Reader", name := "time", desc := "(I)J" } : MethodName) prog_8_method_22_code (13 : Nat) (some FieldType.long)) ∈ tb := tb_in (tm_3 (List.mem_of_getElem? (i := 238) rfl)) rfl
theorem q3_239 : (Cond.methodLink "TrustChain$Reader" (144 : Nat) ({ cls := "TrustChain$Reader", name := "digits", desc := "(I)I" } : MethodName)) ∈ tb := tb_in (tm_3 (List.mem_of_getElem? (i := 239) rfl)) rfl
theorem q4_1 : (Cond.instanceMethod ({ cls := "TrustChain$Reader", name := "digits", desc := "(I)I" } : MethodName)) ∈ tb := tb_in (tm_4 (List.mem_of_getElem? (i := 1) rfl)) rfl
theorem q4_2 : (Cond.code ({ cls := "TrustChain$Reader", name := "digits", desc := "(I)I" } : MethodName) prog_8_method_23_code (2 : Nat) (some FieldType.int)) ∈ tb := tb_in (tm_4 (List.mem_of_getElem? (i := 2) rfl)) rfl
theorem q4_3 : (Cond.methodLink "TrustChain$Reader" (147 : Nat) ({ cls := "TrustChain$Reader", name := "areDigits", desc := "(II)Z" } : MethodName)) ∈ tb := tb_in (tm_4 (List.mem_of_getElem? (i := 3) rfl)) rfl
theorem q4_5 : (Cond.instanceMethod ({ cls := "TrustChain$Reader", name := "areDigits", desc := "(II)Z" } : MethodName)) ∈ tb := tb_in (tm_4 (List.mem_of_getElem? (i := 5) rfl)) rfl
theorem q4_6 : (Cond.code ({ cls := "TrustChain$Reader", name := "areDigits", desc := "(II)Z" } : MethodName) prog_8_method_24_code (4 : Nat) (some FieldType.boolean)) ∈ tb := tb_in (tm_4 (List.mem_of_getElem? (i := 6) rfl)) rfl
theorem q4_7 : (Cond.methodLink "TrustChain$Reader" (150 : Nat) ({ cls := "TrustChain$Reader", name := "isDay", desc := "(III)Z" } : MethodName)) ∈ tb := tb_in (tm_4 (List.mem_of_getElem? (i := 7) rfl)) rfl
theorem q4_8 : (Cond.static ({ cls := "TrustChain$Reader", name := "isDay", desc := "(III)Z" } : MethodName)) ∈ tb := tb_in (tm_4 (List.mem_of_getElem? (i := 8) rfl)) rfl
theorem q4_9 : (Cond.code ({ cls := "TrustChain$Reader", name := "isDay", desc := "(III)Z" } : MethodName) prog_8_method_26_code (4 : Nat) (some FieldType.boolean)) ∈ tb := tb_in (tm_4 (List.mem_of_getElem? (i := 9) rfl)) rfl
theorem q4_10 : (Cond.fieldLink "TrustChain$Reader" (161 : Nat) "TrustChain$Reader" "MONTH_STARTS" "[I") ∈ tb := tb_in (tm_4 (List.mem_of_getElem? (i := 10) rfl)) rfl
theorem q4_11 : (Cond.laysStatic "TrustChain$Reader" "MONTH_STARTS" "[I") ∈ lw_tbl := tm_4 (List.mem_of_getElem? (i := 11) rfl)
theorem q4_12 : (Cond.methodLink "TrustChain$Reader" (164 : Nat) ({ cls := "TrustChain$Reader", name := "isLeap", desc := "(I)Z" } : MethodName)) ∈ tb := tb_in (tm_4 (List.mem_of_getElem? (i := 12) rfl)) rfl
theorem q4_13 : (Cond.static ({ cls := "TrustChain$Reader", name := "isLeap", desc := "(I)Z" } : MethodName)) ∈ tb := tb_in (tm_4 (List.mem_of_getElem? (i := 13) rfl)) rfl
theorem q4_14 : (Cond.code ({ cls := "TrustChain$Reader", name := "isLeap", desc := "(I)Z" } : MethodName) prog_8_method_25_code (1 : Nat) (some FieldType.boolean)) ∈ tb := tb_in (tm_4 (List.mem_of_getElem? (i := 14) rfl)) rfl
theorem q4_15 : (Cond.methodLink "TrustChain$Reader" (153 : Nat) ({ cls := "TrustChain$Reader", name := "daysTo", desc := "(III)J" } : MethodName)) ∈ tb := tb_in (tm_4 (List.mem_of_getElem? (i := 15) rfl)) rfl
theorem q4_16 : (Cond.static ({ cls := "TrustChain$Reader", name := "daysTo", desc := "(III)J" } : MethodName)) ∈ tb := tb_in (tm_4 (List.mem_of_getElem? (i := 16) rfl)) rfl
theorem q4_17 : (Cond.code ({ cls := "TrustChain$Reader", name := "daysTo", desc := "(III)J" } : MethodName) prog_8_method_27_code (5 : Nat) (some FieldType.long)) ∈ tb := tb_in (tm_4 (List.mem_of_getElem? (i := 17) rfl)) rfl
theorem q4_18 : (Cond.constantLong "TrustChain$Reader" (167 : Nat) (365 : Int64)) ∈ tb := tb_in (tm_4 (List.mem_of_getElem? (i := 18) rfl)) rfl
theorem q4_19 : (Cond.constantLong "TrustChain$Reader" (169 : Nat) (719527 : Int64)) ∈ tb := tb_in (tm_4 (List.mem_of_getElem? (i := 19) rfl)) rfl
theorem q4_20 : (Cond.constantLong "TrustChain$Reader" (157 : Nat) (24 : Int64)) ∈ tb := tb_in (tm_4 (List.mem_of_getElem? (i := 20) rfl)) rfl
theorem q4_21 : (Cond.constantLong "TrustChain$Reader" (159 : Nat) (60 : Int64)) ∈ tb := tb_in (tm_4 (List.mem_of_getElem? (i := 21) rfl)) rfl
theorem q4_22 : (Cond.methodLink "TrustChain$CertificateReader" (110 : Nat) ({ cls := "TrustChain$CertificateReader", name := "name", desc := "(I)LTrustChain$Slice;" } : MethodName)) ∈ tb := tb_in (tm_4 (List.mem_of_getElem? (i := 22) rfl)) rfl
theorem q4_23 : (Cond.sameMethod "TrustChain$CertificateReader" "TrustChain$Reader" "name" "(I)LTrustChain$Slice;") ∈ tb := tb_in (tm_4 (List.mem_of_getElem? (i := 23) rfl)) rfl
theorem q4_24 : (Cond.declares ({ cls := "TrustChain$Reader", name := "name", desc := "(I)LTrustChain$Slice;" } : MethodName)) ∈ lw_tbl := tm_4 (List.mem_of_getElem? (i := 24) rfl)
theorem q4_25 : (Cond.selects "TrustChain$CertificateReader" ({ cls := "TrustChain$CertificateReader", name := "name", desc := "(I)LTrustChain$Slice;" } : MethodName) ({ cls := "TrustChain$Reader", name := "name", desc := "(I)LTrustChain$Slice;" } : MethodName)) ∈ tb := tb_in (tm_4 (List.mem_of_getElem? (i := 25) rfl)) rfl
theorem q4_26 : (Cond.methodLink "TrustChain$CertificateReader" (122 : Nat) ({ cls := "TrustChain$Slice", name := "same", desc := "(LTrustChain$Slice;)Z" } : MethodName)) ∈ tb := tb_in (tm_4 (List.mem_of_getElem? (i := 26) rfl)) rfl
theorem q4_27 : (Cond.instanceMethod ({ cls := "TrustChain$Slice", name := "same", desc := "(LTrustChain$Slice;)Z" } : MethodName)) ∈ tb := tb_in (tm_4 (List.mem_of_getElem? (i := 27) rfl)) rfl
theorem q4_28 : (Cond.selects "TrustChain$Slice" ({ cls := "TrustChain$Slice", name := "same", desc := "(LTrustChain$Slice;)Z" } : MethodName) ({ cls := "TrustChain$Slice", name := "same", desc := "(LTrustChain$Slice;)Z" } : MethodName)) ∈ tb := tb_in (tm_4 (List.mem_of_getElem? (i := 28) rfl)) rfl
theorem q4_29 : (Cond.code ({ cls := "TrustChain$Slice", name := "same", desc := "(LTrustChain$Slice;)Z" } : MethodName) prog_12_method_4_code (2 : Nat) (some FieldType.boolean)) ∈ tb := tb_in (tm_4 (List.mem_of_getElem? (i := 29) rfl)) rfl
theorem q4_30 : (Cond.methodLink "TrustChain$Slice" (26 : Nat) ({ cls := "TrustChain$Slice", name := "beginsWith", desc := "(LTrustChain$Slice;)Z" } : MethodName)) ∈ tb := tb_in (tm_4 (List.mem_of_getElem? (i := 30) rfl)) rfl
theorem q4_31 : (Cond.instanceMethod ({ cls := "TrustChain$Slice", name := "beginsWith", desc := "(LTrustChain$Slice;)Z" } : MethodName)) ∈ tb := tb_in (tm_4 (List.mem_of_getElem? (i := 31) rfl)) rfl
theorem q4_32 : (Cond.selects "TrustChain$Slice" ({ cls := "TrustChain$Slice", name := "beginsWith", desc := "(LTrustChain$Slice;)Z" } : MethodName) ({ cls := "TrustChain$Slice", name := "beginsWith", desc := "(LTrustChain$Slice;)Z" } : MethodName)) ∈ tb := tb_in (tm_4 (List.mem_of_getElem? (i := 32) rfl)) rfl
theorem q4_33 : (Cond.code ({ cls := "TrustChain$Slice", name := "beginsWith", desc := "(LTrustChain$Slice;)Z" } : MethodName) prog_12_method_5_code (3 : Nat) (some FieldType.boolean)) ∈ tb := tb_in (tm_4 (List.mem_of_getElem? (i := 33) rfl)) rfl
theorem q4_34 : (Cond.methodLink "TrustChain$CertificateReader" (41 : Nat) ({ cls := "TrustChain$CertificateReader", name := "readKey", desc := "(I)V" } : MethodName)) ∈ tb := tb_in (tm_4 (List.mem_of_getElem? (i := 34) rfl)) rfl
theorem q4_36 : (Cond.instanceMethod ({ cls := "TrustChain$CertificateReader", name := "readKey", desc := "(I)V" } : MethodName)) ∈ tb := tb_in (tm_4 (List.mem_of_getElem? (i := 36) rfl)) rfl
theorem q4_37 : (Cond.code ({ cls := "TrustChain$CertificateReader", name := "readKey", desc := "(I)V" } : MethodName) prog_3_method_4_code (7 : Nat) none) ∈ tb := tb_in (tm_4 (List.mem_of_getElem? (i := 37) rfl)) rfl
theorem q4_38 : (Cond.methodLink "TrustChain$CertificateReader" (130 : Nat) ({ cls := "TrustChain$CertificateReader", name := "openBits", desc := "(I)I" } : MethodName)) ∈ tb := tb_in (tm_4 (List.mem_of_getElem? (i := 38) rfl)) rfl
theorem q4_39 : (Cond.sameMethod "TrustChain$CertificateReader" "TrustChain$Reader" "openBits" "(I)I") ∈ tb := tb_in (tm_4 (List.mem_of_getElem? (i := 39) rfl)) rfl
theorem q4_40 : (Cond.declares ({ cls := "TrustChain$Reader", name := "openBits", desc := "(I)I" } : MethodName)) ∈ lw_tbl := tm_4 (List.mem_of_getElem? (i := 40) rfl)
theorem q4_41 : (Cond.selects "TrustChain$CertificateReader" ({ cls := "TrustChain$CertificateReader", name := "openBits", desc := "(I)I" } : MethodName) ({ cls := "TrustChain$Reader", name := "openBits", desc := "(I)I" } : MethodName)) ∈ tb := tb_in (tm_4 (List.mem_of_getElem? (i := 41) rfl)) rfl
theorem q4_42 : (Cond.instanceMethod ({ cls := "TrustChain$Reader", name := "openBits", desc := "(I)I" } : MethodName)) ∈ tb := tb_in (tm_4 (List.mem_of_getElem? (i := 42) rfl)) rfl
theorem q4_43 : (Cond.code ({ cls := "TrustChain$Reader", name := "openBits", desc := "(I)I" } : MethodName) prog_8_method_14_code (3 : Nat) (some FieldType.int)) ∈ tb := tb_in (tm_4 (List.mem_of_getElem? (i := 43) rfl)) rfl
theorem q4_44 : (Cond.methodLink "TrustChain$CertificateReader" (134 : Nat) ({ cls := "TrustChain$CertificateReader", name := "readModulus", desc := "(I)V" } : MethodName)) ∈ tb := tb_in (tm_4 (List.mem_of_getElem? (i := 44) rfl)) rfl
theorem q4_46 : (Cond.instanceMethod ({ cls := "TrustChain$CertificateReader", name := "readModulus", desc := "(I)V" } : MethodName)) ∈ tb := tb_in (tm_4 (List.mem_of_getElem? (i := 46) rfl)) rfl
theorem q4_47 : (Cond.code ({ cls := "TrustChain$CertificateReader", name := "readModulus", desc := "(I)V" } : MethodName) prog_3_method_5_code (6 : Nat) none) ∈ tb := tb_in (tm_4 (List.mem_of_getElem? (i := 47) rfl)) rfl
theorem q4_48 : (Cond.methodLink "TrustChain$CertificateReader" (144 : Nat) ({ cls := "TrustChain$Slice", name := "at", desc := "(I)I" } : MethodName)) ∈ tb := tb_in (tm_4 (List.mem_of_getElem? (i := 48) rfl)) rfl
theorem q4_49 : (Cond.methodLink "TrustChain$CertificateReader" (153 : Nat) ({ cls := "TrustChain$Slice", name := "length", desc := "()I" } : MethodName)) ∈ tb := tb_in (tm_4 (List.mem_of_getElem? (i := 49) rfl)) rfl
theorem q4_50 : (Cond.constantLong "TrustChain$CertificateReader" (137 : Nat) (3 : Int64)) ∈ tb := tb_in (tm_4 (List.mem_of_getElem? (i := 50) rfl)) rfl
theorem q4_51 : (Cond.constantLong "TrustChain$CertificateReader" (139 : Nat) (2147483647 : Int64)) ∈ tb := tb_in (tm_4 (List.mem_of_getElem? (i := 51) rfl)) rfl
theorem q4_52 : (Cond.methodLink "TrustChain$CertificateReader" (44 : Nat) ({ cls := "TrustChain$CertificateReader", name := "nextIs", desc := "(II)Z" } : MethodName)) ∈ tb := tb_in (tm_4 (List.mem_of_getElem? (i := 52) rfl)) rfl
theorem q4_53 : (Cond.sameMethod "TrustChain$CertificateReader" "TrustChain$Reader" "nextIs" "(II)Z") ∈ tb := tb_in (tm_4 (List.mem_of_getElem? (i := 53) rfl)) rfl
theorem q4_54 : (Cond.declares ({ cls := "TrustChain$Reader", name := "nextIs", desc := "(II)Z" } : MethodName)) ∈ lw_tbl := tm_4 (List.mem_of_getElem? (i := 54) rfl)
theorem q4_55 : (Cond.selects "TrustChain$CertificateReader" ({ cls := "TrustChain$CertificateReader", name := "nextIs", desc := "(II)Z" } : MethodName) ({ cls := "TrustChain$Reader", name := "nextIs", desc := "(II)Z" } : MethodName)) ∈ tb := tb_in (tm_4 (List.mem_of_getElem? (i := 55) rfl)) rfl
theorem q4_56 : (Cond.methodLink "TrustChain$CertificateReader" (48 : Nat) ({ cls := "TrustChain$CertificateReader", name := "readExtensions", desc := "(I)V" } : MethodName)) ∈ tb := tb_in (tm_4 (List.mem_of_getElem? (i := 56) rfl)) rfl
theorem q4_57 : (Cond.sameMethod "TrustChain$CertificateReader" "TrustChain$Reader" "readExtensions" "(I)V") ∈ tb := tb_in (tm_4 (List.mem_of_getElem? (i := 57) rfl)) rfl
theorem q4_58 : (Cond.declares ({ cls := "TrustChain$Reader", name := "readExtensions", desc := "(I)V" } : MethodName)) ∈ lw_tbl := tm_4 (List.mem_of_getElem? (i := 58) rfl)
theorem q4_59 : (Cond.selects "TrustChain$CertificateReader" ({ cls := "TrustChain$CertificateReader", name := "readExtensions", desc := "(I)V" } : MethodName) ({ cls := "TrustChain$Reader", name := "readExtensions", desc := "(I)V" } : MethodName)) ∈ tb := tb_in (tm_4 (List.mem_of_getElem? (i := 59) rfl)) rfl
theorem q4_60 : (Cond.instanceMethod ({ cls := "TrustChain$Reader", name := "readExtensions", desc := "(I)V" } : MethodName)) ∈ tb := tb_in (tm_4 (List.mem_of_getElem? (i := 60) rfl)) rfl
theorem q4_61 : (Cond.code ({ cls := "TrustChain$Reader", name := "readExtensions", desc := "(I)V" } : MethodName) prog_8_method_19_code (10 : Nat) none) ∈ tb := tb_in (tm_4 (List.mem_of_getElem? (i := 61) rfl)) rfl
theorem q4_62 : (Cond.methodLink "TrustChain$Reader" (106 : Nat) ({ cls := "java/util/ArrayList", name := "clear", desc := "()V" } : MethodName)) ∈ tb := tb_in (tm_4 (List.mem_of_getElem? (i := 62) rfl)) rfl
theorem q4_63 : (Cond.instanceMethod ({ cls := "java/util/ArrayList", name := "clear", desc := "()V" } : MethodName)) ∈ tb := tb_in (tm_4 (List.mem_of_getElem? (i := 63) rfl)) rfl
theorem q4_64 : (Cond.selects "java/util/ArrayList" ({ cls := "java/util/ArrayList", name := "clear", desc := "()V" } : MethodName) ({ cls := "java/util/ArrayList", name := "clear", desc := "()V" } : MethodName)) ∈ tb := tb_in (tm_4 (List.mem_of_getElem? (i := 64) rfl)) rfl
theorem q4_65 : (Cond.code ({ cls := "java/util/ArrayList", name := "clear", desc := "()V" } : MethodName) prog_32_method_40_code (4 : Nat) none) ∈ tb := tb_in (tm_4 (List.mem_of_getElem? (i := 65) rfl)) rfl
theorem q4_66 : (Cond.methodLink "TrustChain$Reader" (109 : Nat) ({ cls := "TrustChain$Reader", name := "flag", desc := "(I)V" } : MethodName)) ∈ tb := tb_in (tm_4 (List.mem_of_getElem? (i := 66) rfl)) rfl
theorem q4_67 : (Cond.instanceMethod ({ cls := "TrustChain$Reader", name := "flag", desc := "(I)V" } : MethodName)) ∈ tb := tb_in (tm_4 (List.mem_of_getElem? (i := 67) rfl)) rfl
theorem q4_68 : (Cond.sameMethod "TrustChain$Reader" "TrustChain$Reader" "flag" "(I)V") ∈ tb := tb_in (tm_4 (List.mem_of_getElem? (i := 68) rfl)) rfl
theorem q4_69 : (Cond.selects "TrustChain$CertificateReader" ({ cls := "TrustChain$Reader", name := "flag", desc := "(I)V" } : MethodName) ({ cls := "TrustChain$Reader", name := "flag", desc := "(I)V" } : MethodName)) ∈ tb := tb_in (tm_4 (List.mem_of_getElem? (i := 69) rfl)) rfl
theorem q4_70 : (Cond.selects "TrustChain$ListReader" ({ cls := "TrustChain$Reader", name := "flag", desc := "(I)V" } : MethodName) ({ cls := "TrustChain$Reader", name := "flag", desc := "(I)V" } : MethodName)) ∈ tb := tb_in (tm_4 (List.mem_of_getElem? (i := 70) rfl)) rfl
theorem q4_71 : (Cond.code ({ cls := "TrustChain$Reader", name := "flag", desc := "(I)V" } : MethodName) prog_8_method_13_code (3 : Nat) none) ∈ tb := tb_in (tm_4 (List.mem_of_getElem? (i := 71) rfl)) rfl
theorem q4_72 : (Cond.methodLink "TrustChain$Reader" (112 : Nat) ({ cls := "TrustChain$Reader", name := "kindNumber", desc := "(LTrustChain$Slice;)I" } : MethodName)) ∈ tb := tb_in (tm_4 (List.mem_of_getElem? (i := 72) rfl)) rfl
theorem q4_73 : (Cond.static ({ cls := "TrustChain$Reader", name := "kindNumber", desc := "(LTrustChain$Slice;)I" } : MethodName)) ∈ tb := tb_in (tm_4 (List.mem_of_getElem? (i := 73) rfl)) rfl
theorem q4_74 : (Cond.code ({ cls := "TrustChain$Reader", name := "kindNumber", desc := "(LTrustChain$Slice;)I" } : MethodName) prog_8_method_33_code (1 : Nat) (some FieldType.int)) ∈ tb := tb_in (tm_4 (List.mem_of_getElem? (i := 74) rfl)) rfl
theorem q4_75 : (Cond.methodLink "TrustChain$Reader" (116 : Nat) ({ cls := "TrustChain$Reader", name := "readKnown", desc := "(II)Z" } : MethodName)) ∈ tb := tb_in (tm_4 (List.mem_of_getElem? (i := 75) rfl)) rfl
theorem q4_76 : (Cond.declares ({ cls := "TrustChain$Reader", name := "readKnown", desc := "(II)Z" } : MethodName)) ∈ lw_tbl := tm_4 (List.mem_of_getElem? (i := 76) rfl)
theorem q4_77 : (Cond.sameMethod "TrustChain$Reader" "TrustChain$Reader" "readKnown" "(II)Z") ∈ tb := tb_in (tm_4 (List.mem_of_getElem? (i := 77) rfl)) rfl
theorem q4_78 : (Cond.selects "TrustChain$CertificateReader" ({ cls := "TrustChain$Reader", name := "readKnown", desc := "(II)Z" } : MethodName) ({ cls := "TrustChain$CertificateReader", name := "readKnown", desc := "(II)Z" } : MethodName)) ∈ tb := tb_in (tm_4 (List.mem_of_getElem? (i := 78) rfl)) rfl
theorem q4_79 : (Cond.instanceMethod ({ cls := "TrustChain$CertificateReader", name := "readKnown", desc := "(II)Z" } : MethodName)) ∈ tb := tb_in (tm_4 (List.mem_of_getElem? (i := 79) rfl)) rfl
theorem q4_80 : (Cond.code ({ cls := "TrustChain$CertificateReader", name := "readKnown", desc := "(II)Z" } : MethodName) prog_3_method_6_code (5 : Nat) (some FieldType.boolean)) ∈ tb := tb_in (tm_4 (List.mem_of_getElem? (i := 80) rfl)) rfl
theorem q4_81 : (Cond.methodLink "TrustChain$CertificateReader" (163 : Nat) ({ cls := "TrustChain$CertificateReader", name := "plain", desc := "(III)LTrustChain$Slice;" } : MethodName)) ∈ tb := tb_in (tm_4 (List.mem_of_getElem? (i := 81) rfl)) rfl
theorem q4_82 : (Cond.sameMethod "TrustChain$CertificateReader" "TrustChain$Reader" "plain" "(III)LTrustChain$Slice;") ∈ tb := tb_in (tm_4 (List.mem_of_getElem? (i := 82) rfl)) rfl
theorem q4_83 : (Cond.declares ({ cls := "TrustChain$Reader", name := "plain", desc := "(III)LTrustChain$Slice;" } : MethodName)) ∈ lw_tbl := tm_4 (List.mem_of_getElem? (i := 83) rfl)
theorem q4_84 : (Cond.selects "TrustChain$CertificateReader" ({ cls := "TrustChain$CertificateReader", name := "plain", desc := "(III)LTrustChain$Slice;" } : MethodName) ({ cls := "TrustChain$Reader", name := "plain", desc := "(III)LTrustChain$Slice;" } : MethodName)) ∈ tb := tb_in (tm_4 (List.mem_of_getElem? (i := 84) rfl)) rfl
theorem q4_85 : (Cond.instanceMethod ({ cls := "TrustChain$Reader", name := "plain", desc := "(III)LTrustChain$Slice;" } : MethodName)) ∈ tb := tb_in (tm_4 (List.mem_of_getElem? (i := 85) rfl)) rfl
theorem q4_86 : (Cond.code ({ cls := "TrustChain$Reader", name := "plain", desc := "(III)LTrustChain$Slice;" } : MethodName) prog_8_method_15_code (6 : Nat) (some (FieldType.object "TrustChain$Slice"))) ∈ tb := tb_in (tm_4 (List.mem_of_getElem? (i := 86) rfl)) rfl
theorem q4_87 : (Cond.methodLink "TrustChain$CertificateReader" (170 : Nat) ({ cls := "TrustChain$CertificateReader", name := "readUsage", desc := "(I)V" } : MethodName)) ∈ tb := tb_in (tm_4 (List.mem_of_getElem? (i := 87) rfl)) rfl
theorem q4_89 : (Cond.instanceMethod ({ cls := "TrustChain$CertificateReader", name := "readUsage", desc := "(I)V" } : MethodName)) ∈ tb := tb_in (tm_4 (List.mem_of_getElem? (i := 89) rfl)) rfl
theorem q4_90 : (Cond.code ({ cls := "TrustChain$CertificateReader", name := "readUsage", desc := "(I)V" } : MethodName) prog_3_method_8_code (10 : Nat) none) ∈ tb := tb_in (tm_4 (List.mem_of_getElem? (i := 90) rfl)) rfl
theorem q4_91 : (Cond.methodLink "TrustChain$CertificateReader" (210 : Nat) ({ cls := "TrustChain$CertificateReader", name := "octet", desc := "(I)I" } : MethodName)) ∈ tb := tb_in (tm_4 (List.mem_of_getElem? (i := 91) rfl)) rfl
theorem q4_92 : (Cond.sameMethod "TrustChain$CertificateReader" "TrustChain$Reader" "octet" "(I)I") ∈ tb := tb_in (tm_4 (List.mem_of_getElem? (i := 92) rfl)) rfl
theorem q4_93 : (Cond.declares ({ cls := "TrustChain$Reader", name := "octet", desc := "(I)I" } : MethodName)) ∈ lw_tbl := tm_4 (List.mem_of_getElem? (i := 93) rfl)
theorem q4_94 : (Cond.selects "TrustChain$CertificateReader" ({ cls := "TrustChain$CertificateReader", name := "octet", desc := "(I)I" } : MethodName) ({ cls := "TrustChain$Reader", name := "octet", desc := "(I)I" } : MethodName)) ∈ tb := tb_in (tm_4 (List.mem_of_getElem? (i := 94) rfl)) rfl
theorem q4_95 : (Cond.methodLink "TrustChain$CertificateReader" (213 : Nat) ({ cls := "TrustChain$CertificateReader", name := "leave", desc := "(IZ)V" } : MethodName)) ∈ tb := tb_in (tm_4 (List.mem_of_getElem? (i := 95) rfl)) rfl
theorem q4_96 : (Cond.sameMethod "TrustChain$CertificateReader" "TrustChain$Reader" "leave" "(IZ)V") ∈ tb := tb_in (tm_4 (List.mem_of_getElem? (i := 96) rfl)) rfl
theorem q4_97 : (Cond.declares ({ cls := "TrustChain$Reader", name := "leave", desc := "(IZ)V" } : MethodName)) ∈ lw_tbl := tm_4 (List.mem_of_getElem? (i := 97) rfl)
theorem q4_98 : (Cond.selects "TrustChain$CertificateReader" ({ cls := "TrustChain$CertificateReader", name := "leave", desc := "(IZ)V" } : MethodName) ({ cls := "TrustChain$Reader", name := "leave", desc := "(IZ)V" } : MethodName)) ∈ tb := tb_in (tm_4 (List.mem_of_getElem? (i := 98) rfl)) rfl
theorem q4_99 : (Cond.methodLink "TrustChain$CertificateReader" (173 : Nat) ({ cls := "TrustChain$CertificateReader", name := "readNames", desc := "(I)V" } : MethodName)) ∈ tb := tb_in (tm_4 (List.mem_of_getElem? (i := 99) rfl)) rfl
theorem q4_101 : (Cond.instanceMethod ({ cls := "TrustChain$CertificateReader", name := "readNames", desc := "(I)V" } : MethodName)) ∈ tb := tb_in (tm_4 (List.mem_of_getElem? (i := 101) rfl)) rfl
theorem q4_102 : (Cond.code ({ cls := "TrustChain$CertificateReader", name := "readNames", desc := "(I)V" } : MethodName) prog_3_method_9_code (5 : Nat) none) ∈ tb := tb_in (tm_4 (List.mem_of_getElem? (i := 102) rfl)) rfl
theorem q4_103 : (Cond.methodLink "TrustChain$CertificateReader" (187 : Nat) ({ cls := "TrustChain$CertificateReader", name := "more", desc := "(I)Z" } : MethodName)) ∈ tb := tb_in (tm_4 (List.mem_of_getElem? (i := 103) rfl)) rfl
theorem q4_104 : (Cond.sameMethod "TrustChain$CertificateReader" "TrustChain$Reader" "more" "(I)Z") ∈ tb := tb_in (tm_4 (List.mem_of_getElem? (i := 104) rfl)) rfl
theorem q4_105 : (Cond.declares ({ cls := "TrustChain$Reader", name := "more", desc := "(I)Z" } : MethodName)) ∈ lw_tbl := tm_4 (List.mem_of_getElem? (i := 105) rfl)
theorem q4_106 : (Cond.selects "TrustChain$CertificateReader" ({ cls := "TrustChain$CertificateReader", name := "more", desc := "(I)Z" } : MethodName) ({ cls := "TrustChain$Reader", name := "more", desc := "(I)Z" } : MethodName)) ∈ tb := tb_in (tm_4 (List.mem_of_getElem? (i := 106) rfl)) rfl
theorem q4_107 : (Cond.methodLink "TrustChain$CertificateReader" (229 : Nat) ({ cls := "java/util/ArrayList", name := "add", desc := "(Ljava/lang/Object;)Z" } : MethodName)) ∈ tb := tb_in (tm_4 (List.mem_of_getElem? (i := 107) rfl)) rfl
theorem q4_108 : (Cond.instanceMethod ({ cls := "java/util/ArrayList", name := "add", desc := "(Ljava/lang/Object;)Z" } : MethodName)) ∈ tb := tb_in (tm_4 (List.mem_of_getElem? (i := 108) rfl)) rfl
theorem q4_109 : (Cond.selects "java/util/ArrayList" ({ cls := "java/util/ArrayList", name := "add", desc := "(Ljava/lang/Object;)Z" } : MethodName) ({ cls := "java/util/ArrayList", name := "add", desc := "(Ljava/lang/Object;)Z" } : MethodName)) ∈ tb := tb_in (tm_4 (List.mem_of_getElem? (i := 109) rfl)) rfl
theorem q4_110 : (Cond.code ({ cls := "java/util/ArrayList", name := "add", desc := "(Ljava/lang/Object;)Z" } : MethodName) prog_32_method_25_code (2 : Nat) (some FieldType.boolean)) ∈ tb := tb_in (tm_4 (List.mem_of_getElem? (i := 110) rfl)) rfl
theorem q4_111 : (Cond.methodLink "java/util/ArrayList" (131 : Nat) ({ cls := "java/util/ArrayList", name := "add", desc := "(Ljava/lang/Object;[Ljava/lang/Object;I)V" } : MethodName)) ∈ tb := tb_in (tm_4 (List.mem_of_getElem? (i := 111) rfl)) rfl
theorem q4_113 : (Cond.instanceMethod ({ cls := "java/util/ArrayList", name := "add", desc := "(Ljava/lang/Object;[Ljava/lang/Object;I)V" } : MethodName)) ∈ tb := tb_in (tm_4 (List.mem_of_getElem? (i := 113) rfl)) rfl
theorem q4_114 : (Cond.code ({ cls := "java/util/ArrayList", name := "add", desc := "(Ljava/lang/Object;[Ljava/lang/Object;I)V" } : MethodName) prog_32_method_24_code (4 : Nat) none) ∈ tb := tb_in (tm_4 (List.mem_of_getElem? (i := 114) rfl)) rfl
theorem q4_115 : (Cond.methodLink "java/util/ArrayList" (129 : Nat) ({ cls := "java/util/ArrayList", name := "grow", desc := "()[Ljava/lang/Object;" } : MethodName)) ∈ tb := tb_in (tm_4 (List.mem_of_getElem? (i := 115) rfl)) rfl
theorem q4_117 : (Cond.instanceMethod ({ cls := "java/util/ArrayList", name := "grow", desc := "()[Ljava/lang/Object;" } : MethodName)) ∈ tb := tb_in (tm_4 (List.mem_of_getElem? (i := 117) rfl)) rfl
theorem q4_118 : (Cond.code ({ cls := "java/util/ArrayList", name := "grow", desc := "()[Ljava/lang/Object;" } : MethodName) prog_32_method_7_code (1 : Nat) (some (FieldType.array (FieldType.object "java/lang/Object")))) ∈ tb := tb_in (tm_4 (List.mem_of_getElem? (i := 118) rfl)) rfl
theorem q4_119 : (Cond.methodLink "java/util/ArrayList" (69 : Nat) ({ cls := "java/util/ArrayList", name := "grow", desc := "(I)[Ljava/lang/Object;" } : MethodName)) ∈ tb := tb_in (tm_4 (List.mem_of_getElem? (i := 119) rfl)) rfl
theorem q4_120 : (Cond.privateMethod ({ cls := "java/util/ArrayList", name := "grow", desc := "(I)[Ljava/lang/Object;" } : MethodName)) ∈ lw_tbl := tm_4 (List.mem_of_getElem? (i := 120) rfl)
theorem q4_121 : (Cond.instanceMethod ({ cls := "java/util/ArrayList", name := "grow", desc := "(I)[Ljava/lang/Object;" } : MethodName)) ∈ tb := tb_in (tm_4 (List.mem_of_getElem? (i := 121) rfl)) rfl
theorem q4_122 : (Cond.code ({ cls := "java/util/ArrayList", name := "grow", desc := "(I)[Ljava/lang/Object;" } : MethodName) prog_32_method_6_code (4 : Nat) (some (FieldType.array (FieldType.object "java/lang/Object")))) ∈ tb := tb_in (tm_4 (List.mem_of_getElem? (i := 122) rfl)) rfl
theorem q4_123 : (Cond.methodLink "java/util/ArrayList" (73 : Nat) ({ cls := "jdk/internal/util/ArraysSupport", name := "newLength", desc := "(III)I" } : MethodName)) ∈ tb := tb_in (tm_4 (List.mem_of_getElem? (i := 123) rfl)) rfl
theorem q4_124 : (Cond.static ({ cls := "jdk/internal/util/ArraysSupport", name := "newLength", desc := "(III)I" } : MethodName)) ∈ tb := tb_in (tm_4 (List.mem_of_getElem? (i := 124) rfl)) rfl
theorem q4_125 : (Cond.code ({ cls := "jdk/internal/util/ArraysSupport", name := "newLength", desc := "(III)I" } : MethodName) prog_39_method_27_code (4 : Nat) (some FieldType.int)) ∈ tb := tb_in (tm_4 (List.mem_of_getElem? (i := 125) rfl)) rfl
theorem q4_126 : (Cond.methodLink "jdk/internal/util/ArraysSupport" (194 : Nat) ({ cls := "java/lang/Math", name := "max", desc := "(II)I" } : MethodName)) ∈ tb := tb_in (tm_4 (List.mem_of_getElem? (i := 126) rfl)) rfl
theorem q4_127 : (Cond.static ({ cls := "java/lang/Math", name := "max", desc := "(II)I" } : MethodName)) ∈ tb := tb_in (tm_4 (List.mem_of_getElem? (i := 127) rfl)) rfl
theorem q4_128 : (Cond.code ({ cls := "java/lang/Math", name := "max", desc := "(II)I" } : MethodName) prog_23_method_65_code (2 : Nat) (some FieldType.int)) ∈ tb := tb_in (tm_4 (List.mem_of_getElem? (i := 128) rfl)) rfl
theorem q4_129 : (Cond.constant "jdk/internal/util/ArraysSupport" (200 : Nat) (2147483639 : Int32)) ∈ tb := tb_in (tm_4 (List.mem_of_getElem? (i := 129) rfl)) rfl
theorem q4_133 : (Cond.methodLink "java/util/ArrayList" (66 : Nat) ({ cls := "java/util/Arrays", name := "copyOf", desc := "([Ljava/lang/Object;I)[Ljava/lang/Object;" } : MethodName)) ∈ tb := tb_in (tm_4 (List.mem_of_getElem? (i := 133) rfl)) rfl
theorem q4_134 : (Cond.static ({ cls := "java/util/Arrays", name := "copyOf", desc := "([Ljava/lang/Object;I)[Ljava/lang/Object;" } : MethodName)) ∈ tb := tb_in (tm_4 (List.mem_of_getElem? (i := 134) rfl)) rfl
theorem q4_135 : (Cond.code ({ cls := "java/util/Arrays", name := "copyOf", desc := "([Ljava/lang/Object;I)[Ljava/lang/Object;" } : MethodName) prog_33_method_119_code (2 : Nat) (some (FieldType.array (FieldType.object "java/lang/Object")))) ∈ tb := tb_in (tm_4 (List.mem_of_getElem? (i := 135) rfl)) rfl
theorem q4_136 : (Cond.methodLink "java/util/Arrays" (86 : Nat) ({ cls := "java/lang/Object", name := "getClass", desc := "()Ljava/lang/Class;" } : MethodName)) ∈ tb := tb_in (tm_4 (List.mem_of_getElem? (i := 136) rfl)) rfl
theorem q4_137 : (Cond.instanceMethod ({ cls := "java/lang/Object", name := "getClass", desc := "()Ljava/lang/Class;" } : MethodName)) ∈ tb := tb_in (tm_4 (List.mem_of_getElem? (i := 137) rfl)) rfl
theorem q4_155 : (Cond.native ({ cls := "java/lang/Object", name := "getClass", desc := "()Ljava/lang/Class;" } : MethodName)) ∈ tb := tb_in (tm_4 (List.mem_of_getElem? (i := 155) rfl)) rfl
theorem q4_156 : (Cond.methodLink "java/util/Arrays" (300 : Nat) ({ cls := "java/util/Arrays", name := "copyOf", desc := "([Ljava/lang/Object;ILjava/lang/Class;)[Ljava/lang/Object;" } : MethodName)) ∈ tb := tb_in (tm_4 (List.mem_of_getElem? (i := 156) rfl)) rfl
theorem q4_157 : (Cond.static ({ cls := "java/util/Arrays", name := "copyOf", desc := "([Ljava/lang/Object;ILjava/lang/Class;)[Ljava/lang/Object;" } : MethodName)) ∈ tb := tb_in (tm_4 (List.mem_of_getElem? (i := 157) rfl)) rfl
theorem q4_158 : (Cond.code ({ cls := "java/util/Arrays", name := "copyOf", desc := "([Ljava/lang/Object;ILjava/lang/Class;)[Ljava/lang/Object;" } : MethodName) prog_33_method_120_code (4 : Nat) (some (FieldType.array (FieldType.object "java/lang/Object")))) ∈ tb := tb_in (tm_4 (List.mem_of_getElem? (i := 158) rfl)) rfl
theorem q4_159 : (Cond.classLink "java/util/Arrays" (110 : Nat) "[Ljava/lang/Object;") ∈ tb := tb_in (tm_4 (List.mem_of_getElem? (i := 159) rfl)) rfl
theorem q4_160 : (Cond.arrayOver (FieldType.object "java/lang/Object")) ∈ lw_tbl := tm_4 (List.mem_of_getElem? (i := 160) rfl)
theorem q4_161 : (Cond.classLink "java/util/Arrays" (2 : Nat) "java/lang/Object") ∈ tb := tb_in (tm_4 (List.mem_of_getElem? (i := 161) rfl)) rfl
theorem q4_162 : (Cond.methodLink "java/util/ArrayList" (79 : Nat) ({ cls := "java/lang/Math", name := "max", desc := "(II)I" } : MethodName)) ∈ tb := tb_in (tm_4 (List.mem_of_getElem? (i := 162) rfl)) rfl
theorem q4_163 : (Cond.classLink "java/util/ArrayList" (7 : Nat) "java/lang/Object") ∈ tb := tb_in (tm_4 (List.mem_of_getElem? (i := 163) rfl)) rfl
theorem q4_164 : (Cond.methodLink "TrustChain$CertificateReader" (235 : Nat) ({ cls := "TrustChain$CertificateReader", name := "isVisible", desc := "(LTrustChain$Slice;)Z" } : MethodName)) ∈ tb := tb_in (tm_4 (List.mem_of_getElem? (i := 164) rfl)) rfl
theorem q4_165 : (Cond.static ({ cls := "TrustChain$CertificateReader", name := "isVisible", desc := "(LTrustChain$Slice;)Z" } : MethodName)) ∈ tb := tb_in (tm_4 (List.mem_of_getElem? (i := 165) rfl)) rfl
theorem q4_166 : (Cond.code ({ cls := "TrustChain$CertificateReader", name := "isVisible", desc := "(LTrustChain$Slice;)Z" } : MethodName) prog_3_method_11_code (2 : Nat) (some FieldType.boolean)) ∈ tb := tb_in (tm_4 (List.mem_of_getElem? (i := 166) rfl)) rfl
theorem q4_167 : (Cond.methodLink "TrustChain$CertificateReader" (176 : Nat) ({ cls := "TrustChain$CertificateReader", name := "readBasic", desc := "(I)V" } : MethodName)) ∈ tb := tb_in (tm_4 (List.mem_of_getElem? (i := 167) rfl)) rfl
theorem q4_169 : (Cond.instanceMethod ({ cls := "TrustChain$CertificateReader", name := "readBasic", desc := "(I)V" } : MethodName)) ∈ tb := tb_in (tm_4 (List.mem_of_getElem? (i := 169) rfl)) rfl
theorem q4_170 : (Cond.code ({ cls := "TrustChain$CertificateReader", name := "readBasic", desc := "(I)V" } : MethodName) prog_3_method_7_code (6 : Nat) none) ∈ tb := tb_in (tm_4 (List.mem_of_getElem? (i := 170) rfl)) rfl
theorem q4_171 : (Cond.methodLink "TrustChain$CertificateReader" (199 : Nat) ({ cls := "TrustChain$CertificateReader", name := "flag", desc := "(I)V" } : MethodName)) ∈ tb := tb_in (tm_4 (List.mem_of_getElem? (i := 171) rfl)) rfl
theorem q4_172 : (Cond.sameMethod "TrustChain$CertificateReader" "TrustChain$Reader" "flag" "(I)V") ∈ tb := tb_in (tm_4 (List.mem_of_getElem? (i := 172) rfl)) rfl
theorem q4_173 : (Cond.declares ({ cls := "TrustChain$Reader", name := "flag", desc := "(I)V" } : MethodName)) ∈ lw_tbl := tm_4 (List.mem_of_getElem? (i := 173) rfl)
theorem q4_174 : (Cond.selects "TrustChain$CertificateReader" ({ cls := "TrustChain$CertificateReader", name := "flag", desc := "(I)V" } : MethodName) ({ cls := "TrustChain$Reader", name := "flag", desc := "(I)V" } : MethodName)) ∈ tb := tb_in (tm_4 (List.mem_of_getElem? (i := 174) rfl)) rfl
theorem q4_175 : (Cond.constantLong "TrustChain$CertificateReader" (205 : Nat) (255 : Int64)) ∈ tb := tb_in (tm_4 (List.mem_of_getElem? (i := 175) rfl)) rfl
theorem q4_176 : (Cond.methodLink "TrustChain$CertificateReader" (183 : Nat) ({ cls := "TrustChain$CertificateReader", name := "readTrees", desc := "(ILTrustChain$NameSet;I)V" } : MethodName)) ∈ tb := tb_in (tm_4 (List.mem_of_getElem? (i := 176) rfl)) rfl
theorem q4_178 : (Cond.instanceMethod ({ cls := "TrustChain$CertificateReader", name := "readTrees", desc := "(ILTrustChain$NameSet;I)V" } : MethodName)) ∈ tb := tb_in (tm_4 (List.mem_of_getElem? (i := 178) rfl)) rfl
theorem q4_179 : (Cond.code ({ cls := "TrustChain$CertificateReader", name := "readTrees", desc := "(ILTrustChain$NameSet;I)V" } : MethodName) prog_3_method_10_code (8 : Nat) none) ∈ tb := tb_in (tm_4 (List.mem_of_getElem? (i := 179) rfl)) rfl
theorem q4_180 : (Cond.methodLink "TrustChain$CertificateReader" (194 : Nat) ({ cls := "TrustChain$CertificateReader", name := "issuerKey", desc := "(I)LTrustChain$Slice;" } : MethodName)) ∈ tb := tb_in (tm_4 (List.mem_of_getElem? (i := 180) rfl)) rfl
theorem q4_181 : (Cond.sameMethod "TrustChain$CertificateReader" "TrustChain$Reader" "issuerKey" "(I)LTrustChain$Slice;") ∈ tb := tb_in (tm_4 (List.mem_of_getElem? (i := 181) rfl)) rfl
theorem q4_182 : (Cond.declares ({ cls := "TrustChain$Reader", name := "issuerKey", desc := "(I)LTrustChain$Slice;" } : MethodName)) ∈ lw_tbl := tm_4 (List.mem_of_getElem? (i := 182) rfl)
theorem q4_183 : (Cond.selects "TrustChain$CertificateReader" ({ cls := "TrustChain$CertificateReader", name := "issuerKey", desc := "(I)LTrustChain$Slice;" } : MethodName) ({ cls := "TrustChain$Reader", name := "issuerKey", desc := "(I)LTrustChain$Slice;" } : MethodName)) ∈ tb := tb_in (tm_4 (List.mem_of_getElem? (i := 183) rfl)) rfl
theorem q4_184 : (Cond.instanceMethod ({ cls := "TrustChain$Reader", name := "issuerKey", desc := "(I)LTrustChain$Slice;" } : MethodName)) ∈ tb := tb_in (tm_4 (List.mem_of_getElem? (i := 184) rfl)) rfl
theorem q4_185 : (Cond.code ({ cls := "TrustChain$Reader", name := "issuerKey", desc := "(I)LTrustChain$Slice;" } : MethodName) prog_8_method_21_code (4 : Nat) (some (FieldType.object "TrustChain$Slice"))) ∈ tb := tb_in (tm_4 (List.mem_of_getElem? (i := 185) rfl)) rfl
theorem q4_186 : (Cond.methodLink "TrustChain$Reader" (140 : Nat) ({ cls := "TrustChain$Reader", name := "plain", desc := "(III)LTrustChain$Slice;" } : MethodName)) ∈ tb := tb_in (tm_4 (List.mem_of_getElem? (i := 186) rfl)) rfl
theorem q4_187 : (Cond.selects "TrustChain$ListReader" ({ cls := "TrustChain$Reader", name := "readKnown", desc := "(II)Z" } : MethodName) ({ cls := "TrustChain$ListReader", name := "readKnown", desc := "(II)Z" } : MethodName)) ∈ tb := tb_in (tm_4 (List.mem_of_getElem? (i := 187) rfl)) rfl
theorem q4_188 : (Cond.instanceMethod ({ cls := "TrustChain$ListReader", name := "readKnown", desc := "(II)Z" } : MethodName)) ∈ tb := tb_in (tm_4 (List.mem_of_getElem? (i := 188) rfl)) rfl
theorem q4_189 : (Cond.code ({ cls := "TrustChain$ListReader", name := "readKnown", desc := "(II)Z" } : MethodName) prog_4_method_4_code (5 : Nat) (some FieldType.boolean)) ∈ tb := tb_in (tm_4 (List.mem_of_getElem? (i := 189) rfl)) rfl
theorem q4_190 : (Cond.methodLink "TrustChain$ListReader" (89 : Nat) ({ cls := "TrustChain$ListReader", name := "number", desc := "(II)LTrustChain$Slice;" } : MethodName)) ∈ tb := tb_in (tm_4 (List.mem_of_getElem? (i := 190) rfl)) rfl
theorem q4_191 : (Cond.sameMethod "TrustChain$ListReader" "TrustChain$Reader" "number" "(II)LTrustChain$Slice;") ∈ tb := tb_in (tm_4 (List.mem_of_getElem? (i := 191) rfl)) rfl
theorem q4_192 : (Cond.selects "TrustChain$ListReader" ({ cls := "TrustChain$ListReader", name := "number", desc := "(II)LTrustChain$Slice;" } : MethodName) ({ cls := "TrustChain$Reader", name := "number", desc := "(II)LTrustChain$Slice;" } : MethodName)) ∈ tb := tb_in (tm_4 (List.mem_of_getElem? (i := 192) rfl)) rfl
theorem q4_193 : (Cond.methodLink "TrustChain$ListReader" (93 : Nat) ({ cls := "TrustChain$Slice", name := "number", desc := "()J" } : MethodName)) ∈ tb := tb_in (tm_4 (List.mem_of_getElem? (i := 193) rfl)) rfl
theorem q4_194 : (Cond.constantLong "TrustChain$ListReader" (117 : Nat) (10 : Int64)) ∈ tb := tb_in (tm_4 (List.mem_of_getElem? (i := 194) rfl)) rfl
theorem q4_195 : (Cond.constantLong "TrustChain$ListReader" (119 : Nat) (7 : Int64)) ∈ tb := tb_in (tm_4 (List.mem_of_getElem? (i := 195) rfl)) rfl
theorem q4_196 : (Cond.methodLink "TrustChain$ListReader" (96 : Nat) ({ cls := "TrustChain$ListReader", name := "require", desc := "(Z)V" } : MethodName)) ∈ tb := tb_in (tm_4 (List.mem_of_getElem? (i := 196) rfl)) rfl
theorem q4_197 : (Cond.sameMethod "TrustChain$ListReader" "TrustChain$Reader" "require" "(Z)V") ∈ tb := tb_in (tm_4 (List.mem_of_getElem? (i := 197) rfl)) rfl
theorem q4_198 : (Cond.selects "TrustChain$ListReader" ({ cls := "TrustChain$ListReader", name := "require", desc := "(Z)V" } : MethodName) ({ cls := "TrustChain$Reader", name := "require", desc := "(Z)V" } : MethodName)) ∈ tb := tb_in (tm_4 (List.mem_of_getElem? (i := 198) rfl)) rfl
theorem q4_199 : (Cond.methodLink "TrustChain$ListReader" (121 : Nat) ({ cls := "TrustChain$Slice", name := "at", desc := "(I)I" } : MethodName)) ∈ tb := tb_in (tm_4 (List.mem_of_getElem? (i := 199) rfl)) rfl
theorem q4_200 : (Cond.methodLink "TrustChain$ListReader" (125 : Nat) ({ cls := "TrustChain$Slice", name := "length", desc := "()I" } : MethodName)) ∈ tb := tb_in (tm_4 (List.mem_of_getElem? (i := 200) rfl)) rfl
theorem q4_201 : (Cond.methodLink "TrustChain$ListReader" (129 : Nat) ({ cls := "TrustChain$ListReader", name := "issuerKey", desc := "(I)LTrustChain$Slice;" } : MethodName)) ∈ tb := tb_in (tm_4 (List.mem_of_getElem? (i := 201) rfl)) rfl
theorem q4_202 : (Cond.sameMethod "TrustChain$ListReader" "TrustChain$Reader" "issuerKey" "(I)LTrustChain$Slice;") ∈ tb := tb_in (tm_4 (List.mem_of_getElem? (i := 202) rfl)) rfl
theorem q4_203 : (Cond.selects "TrustChain$ListReader" ({ cls := "TrustChain$ListReader", name := "issuerKey", desc := "(I)LTrustChain$Slice;" } : MethodName) ({ cls := "TrustChain$Reader", name := "issuerKey", desc := "(I)LTrustChain$Slice;" } : MethodName)) ∈ tb := tb_in (tm_4 (List.mem_of_getElem? (i := 203) rfl)) rfl
theorem q4_204 : (Cond.methodLink "TrustChain$Reader" (119 : Nat) ({ cls := "TrustChain$Reader", name := "isRepeated", desc := "(LTrustChain$Slice;)Z" } : MethodName)) ∈ tb := tb_in (tm_4 (List.mem_of_getElem? (i := 204) rfl)) rfl
theorem q4_205 : (Cond.privateMethod ({ cls := "TrustChain$Reader", name := "isRepeated", desc := "(LTrustChain$Slice;)Z" } : MethodName)) ∈ lw_tbl := tm_4 (List.mem_of_getElem? (i := 205) rfl)
theorem q4_206 : (Cond.instanceMethod ({ cls := "TrustChain$Reader", name := "isRepeated", desc := "(LTrustChain$Slice;)Z" } : MethodName)) ∈ tb := tb_in (tm_4 (List.mem_of_getElem? (i := 206) rfl)) rfl
theorem q4_207 : (Cond.code ({ cls := "TrustChain$Reader", name := "isRepeated", desc := "(LTrustChain$Slice;)Z" } : MethodName) prog_8_method_32_code (3 : Nat) (some FieldType.boolean)) ∈ tb := tb_in (tm_4 (List.mem_of_getElem? (i := 207) rfl)) rfl
theorem q4_208 : (Cond.methodLink "TrustChain$Reader" (178 : Nat) ({ cls := "java/util/ArrayList", name := "size", desc := "()I" } : MethodName)) ∈ tb := tb_in (tm_4 (List.mem_of_getElem? (i := 208) rfl)) rfl
theorem q4_209 : (Cond.methodLink "TrustChain$Reader" (181 : Nat) ({ cls := "java/util/ArrayList", name := "get", desc := "(I)Ljava/lang/Object;" } : MethodName)) ∈ tb := tb_in (tm_4 (List.mem_of_getElem? (i := 209) rfl)) rfl
theorem q4_210 : (Cond.instanceMethod ({ cls := "java/util/ArrayList", name := "get", desc := "(I)Ljava/lang/Object;" } : MethodName)) ∈ tb := tb_in (tm_4 (List.mem_of_getElem? (i := 210) rfl)) rfl
theorem q4_211 : (Cond.selects "java/util/ArrayList" ({ cls := "java/util/ArrayList", name := "get", desc := "(I)Ljava/lang/Object;" } : MethodName) ({ cls := "java/util/ArrayList", name := "get", desc := "(I)Ljava/lang/Object;" } : MethodName)) ∈ tb := tb_in (tm_4 (List.mem_of_getElem? (i := 211) rfl)) rfl
theorem q4_212 : (Cond.code ({ cls := "java/util/ArrayList", name := "get", desc := "(I)Ljava/lang/Object;" } : MethodName) prog_32_method_20_code (2 : Nat) (some (FieldType.object "java/lang/Object"))) ∈ tb := tb_in (tm_4 (List.mem_of_getElem? (i := 212) rfl)) rfl
theorem q4_213 : (Cond.methodLink "java/util/ArrayList" (118 : Nat) ({ cls := "java/util/Objects", name := "checkIndex", desc := "(II)I" } : MethodName)) ∈ tb := tb_in (tm_4 (List.mem_of_getElem? (i := 213) rfl)) rfl
theorem q4_214 : (Cond.static ({ cls := "java/util/Objects", name := "checkIndex", desc := "(II)I" } : MethodName)) ∈ tb := tb_in (tm_4 (List.mem_of_getElem? (i := 214) rfl)) rfl
theorem q4_215 : (Cond.code ({ cls := "java/util/Objects", name := "checkIndex", desc := "(II)I" } : MethodName) prog_36_method_17_code (2 : Nat) (some FieldType.int)) ∈ tb := tb_in (tm_4 (List.mem_of_getElem? (i := 215) rfl)) rfl
theorem q4_216 : (Cond.methodLink "java/util/Objects" (105 : Nat) ({ cls := "jdk/internal/util/Preconditions", name := "checkIndex", desc := "(IILjava/util/function/BiFunction;)I" } : MethodName)) ∈ tb := tb_in (tm_4 (List.mem_of_getElem? (i := 216) rfl)) rfl
theorem q4_217 : (Cond.static ({ cls := "jdk/internal/util/Preconditions", name := "checkIndex", desc := "(IILjava/util/function/BiFunction;)I" } : MethodName)) ∈ tb := tb_in (tm_4 (List.mem_of_getElem? (i := 217) rfl)) rfl
theorem q4_218 : (Cond.code ({ cls := "jdk/internal/util/Preconditions", name := "checkIndex", desc := "(IILjava/util/function/BiFunction;)I" } : MethodName) prog_40_method_11_code (3 : Nat) (some FieldType.int)) ∈ tb := tb_in (tm_4 (List.mem_of_getElem? (i := 218) rfl)) rfl
theorem q4_219 : (Cond.methodLink "java/util/ArrayList" (123 : Nat) ({ cls := "java/util/ArrayList", name := "elementData", desc := "(I)Ljava/lang/Object;" } : MethodName)) ∈ tb := tb_in (tm_4 (List.mem_of_getElem? (i := 219) rfl)) rfl
theorem q4_220 : (Cond.instanceMethod ({ cls := "java/util/ArrayList", name := "elementData", desc := "(I)Ljava/lang/Object;" } : MethodName)) ∈ tb := tb_in (tm_4 (List.mem_of_getElem? (i := 220) rfl)) rfl
theorem q4_221 : (Cond.selects "java/util/ArrayList" ({ cls := "java/util/ArrayList", name := "elementData", desc := "(I)Ljava/lang/Object;" } : MethodName) ({ cls := "java/util/ArrayList", name := "elementData", desc := "(I)Ljava/lang/Object;" } : MethodName)) ∈ tb := tb_in (tm_4 (List.mem_of_getElem? (i := 221) rfl)) rfl
theorem q4_222 : (Cond.code ({ cls := "java/util/ArrayList", name := "elementData", desc := "(I)Ljava/lang/Object;" } : MethodName) prog_32_method_18_code (2 : Nat) (some (FieldType.object "java/lang/Object"))) ∈ tb := tb_in (tm_4 (List.mem_of_getElem? (i := 222) rfl)) rfl
theorem q4_223 : (Cond.methodLink "TrustChain$Reader" (185 : Nat) ({ cls := "TrustChain$Slice", name := "same", desc := "(LTrustChain$Slice;)Z" } : MethodName)) ∈ tb := tb_in (tm_4 (List.mem_of_getElem? (i := 223) rfl)) rfl
theorem q4_224 : (Cond.methodLink "TrustChain$Reader" (123 : Nat) ({ cls := "java/util/ArrayList", name := "add", desc := "(Ljava/lang/Object;)Z" } : MethodName)) ∈ tb := tb_in (tm_4 (List.mem_of_getElem? (i := 224) rfl)) rfl
theorem q4_225 : (Cond.methodLink "TrustChain$CertificateReader" (66 : Nat) ({ cls := "TrustChain$CertificateReader", name := "readSignature", desc := "(LTrustChain$Paper;I)V" } : MethodName)) ∈ tb := tb_in (tm_4 (List.mem_of_getElem? (i := 225) rfl)) rfl
theorem q4_226 : (Cond.sameMethod "TrustChain$CertificateReader" "TrustChain$Reader" "readSignature" "(LTrustChain$Paper;I)V") ∈ tb := tb_in (tm_4 (List.mem_of_getElem? (i := 226) rfl)) rfl
theorem q4_227 : (Cond.declares ({ cls := "TrustChain$Reader", name := "readSignature", desc := "(LTrustChain$Paper;I)V" } : MethodName)) ∈ lw_tbl := tm_4 (List.mem_of_getElem? (i := 227) rfl)
theorem q4_228 : (Cond.selects "TrustChain$CertificateReader" ({ cls := "TrustChain$CertificateReader", name := "readSignature", desc := "(LTrustChain$Paper;I)V" } : MethodName) ({ cls := "TrustChain$Reader", name := "readSignature", desc := "(LTrustChain$Paper;I)V" } : MethodName)) ∈ tb := tb_in (tm_4 (List.mem_of_getElem? (i := 228) rfl)) rfl
theorem q4_229 : (Cond.instanceMethod ({ cls := "TrustChain$Reader", name := "readSignature", desc := "(LTrustChain$Paper;I)V" } : MethodName)) ∈ tb := tb_in (tm_4 (List.mem_of_getElem? (i := 229) rfl)) rfl
theorem q4_230 : (Cond.code ({ cls := "TrustChain$Reader", name := "readSignature", desc := "(LTrustChain$Paper;I)V" } : MethodName) prog_8_method_20_code (4 : Nat) none) ∈ tb := tb_in (tm_4 (List.mem_of_getElem? (i := 230) rfl)) rfl
theorem q4_231 : (Cond.methodLink "TrustChain$Reader" (127 : Nat) ({ cls := "TrustChain$Reader", name := "algorithm", desc := "(II)V" } : MethodName)) ∈ tb := tb_in (tm_4 (List.mem_of_getElem? (i := 231) rfl)) rfl
theorem q4_232 : (Cond.methodLink "TrustChain$Reader" (131 : Nat) ({ cls := "TrustChain$Reader", name := "openBits", desc := "(I)I" } : MethodName)) ∈ tb := tb_in (tm_4 (List.mem_of_getElem? (i := 232) rfl)) rfl
theorem q4_233 : (Cond.classLink "TrustChain" (110 : Nat) "java/lang/IllegalArgumentException") ∈ tb := tb_in (tm_4 (List.mem_of_getElem? (i := 233) rfl)) rfl
theorem q4_235 : (Cond.castable "java/lang/IllegalArgumentException" "java/lang/IllegalArgumentException") ∈ lw_tbl := tm_4 (List.mem_of_getElem? (i := 235) rfl)
theorem q5_9 : (Cond.methodLink "TrustChain" (128 : Nat) ({ cls := "TrustChain$Sha256", name := "hash", desc := "(LTrustChain$Slice;[I)V" } : MethodName)) ∈ tb := tb_in (tm_5 (List.mem_of_getElem? (i := 9) rfl)) rfl
theorem q5_10 : (Cond.instanceMethod ({ cls := "TrustChain$Sha256", name := "hash", desc := "(LTrustChain$Slice;[I)V" } : MethodName)) ∈ tb := tb_in (tm_5 (List.mem_of_getElem? (i := 10) rfl)) rfl
theorem q5_11 : (Cond.selects "TrustChain$Sha256" ({ cls := "TrustChain$Sha256", name := "hash", desc := "(LTrustChain$Slice;[I)V" } : MethodName) ({ cls := "TrustChain$Sha256", name := "hash", desc := "(LTrustChain$Slice;[I)V" } : MethodName)) ∈ tb := tb_in (tm_5 (List.mem_of_getElem? (i := 11) rfl)) rfl
theorem q5_12 : (Cond.code ({ cls := "TrustChain$Sha256", name := "hash", desc := "(LTrustChain$Slice;[I)V" } : MethodName) prog_11_method_2_code (5 : Nat) none) ∈ tb := tb_in (tm_5 (List.mem_of_getElem? (i := 12) rfl)) rfl
theorem q5_13 : (Cond.fieldLink "TrustChain$Sha256" (15 : Nat) "TrustChain$Sha256" "START" "[I") ∈ tb := tb_in (tm_5 (List.mem_of_getElem? (i := 13) rfl)) rfl
theorem q5_14 : (Cond.laysStatic "TrustChain$Sha256" "START" "[I") ∈ lw_tbl := tm_5 (List.mem_of_getElem? (i := 14) rfl)
theorem q5_15 : (Cond.methodLink "TrustChain$Sha256" (18 : Nat) ({ cls := "java/lang/System", name := "arraycopy", desc := "(Ljava/lang/Object;ILjava/lang/Object;II)V" } : MethodName)) ∈ tb := tb_in (tm_5 (List.mem_of_getElem? (i := 15) rfl)) rfl
theorem q5_16 : (Cond.methodLink "TrustChain$Sha256" (24 : Nat) ({ cls := "TrustChain$Slice", name := "length", desc := "()I" } : MethodName)) ∈ tb := tb_in (tm_5 (List.mem_of_getElem? (i := 16) rfl)) rfl
theorem q5_17 : (Cond.methodLink "TrustChain$Sha256" (30 : Nat) ({ cls := "TrustChain$Sha256", name := "fillSchedule", desc := "(LTrustChain$Slice;II)V" } : MethodName)) ∈ tb := tb_in (tm_5 (List.mem_of_getElem? (i := 17) rfl)) rfl
theorem q5_19 : (Cond.instanceMethod ({ cls := "TrustChain$Sha256", name := "fillSchedule", desc := "(LTrustChain$Slice;II)V" } : MethodName)) ∈ tb := tb_in (tm_5 (List.mem_of_getElem? (i := 19) rfl)) rfl
theorem q5_20 : (Cond.code ({ cls := "TrustChain$Sha256", name := "fillSchedule", desc := "(LTrustChain$Slice;II)V" } : MethodName) prog_11_method_3_code (9 : Nat) none) ∈ tb := tb_in (tm_5 (List.mem_of_getElem? (i := 20) rfl)) rfl
theorem q5_21 : (Cond.methodLink "TrustChain$Sha256" (38 : Nat) ({ cls := "TrustChain$Sha256", name := "padded", desc := "(LTrustChain$Slice;II)I" } : MethodName)) ∈ tb := tb_in (tm_5 (List.mem_of_getElem? (i := 21) rfl)) rfl
theorem q5_22 : (Cond.static ({ cls := "TrustChain$Sha256", name := "padded", desc := "(LTrustChain$Slice;II)I" } : MethodName)) ∈ tb := tb_in (tm_5 (List.mem_of_getElem? (i := 22) rfl)) rfl
theorem q5_23 : (Cond.code ({ cls := "TrustChain$Sha256", name := "padded", desc := "(LTrustChain$Slice;II)I" } : MethodName) prog_11_method_4_code (3 : Nat) (some FieldType.int)) ∈ tb := tb_in (tm_5 (List.mem_of_getElem? (i := 23) rfl)) rfl
theorem q5_24 : (Cond.methodLink "TrustChain$Sha256" (46 : Nat) ({ cls := "TrustChain$Slice", name := "at", desc := "(I)I" } : MethodName)) ∈ tb := tb_in (tm_5 (List.mem_of_getElem? (i := 24) rfl)) rfl
theorem q5_25 : (Cond.methodLink "TrustChain$Sha256" (42 : Nat) ({ cls := "TrustChain$Sha256", name := "turn", desc := "(II)I" } : MethodName)) ∈ tb := tb_in (tm_5 (List.mem_of_getElem? (i := 25) rfl)) rfl
theorem q5_26 : (Cond.static ({ cls := "TrustChain$Sha256", name := "turn", desc := "(II)I" } : MethodName)) ∈ tb := tb_in (tm_5 (List.mem_of_getElem? (i := 26) rfl)) rfl
theorem q5_27 : (Cond.code ({ cls := "TrustChain$Sha256", name := "turn", desc := "(II)I" } : MethodName) prog_11_method_6_code (2 : Nat) (some FieldType.int)) ∈ tb := tb_in (tm_5 (List.mem_of_getElem? (i := 27) rfl)) rfl
theorem q5_28 : (Cond.methodLink "TrustChain$Sha256" (34 : Nat) ({ cls := "TrustChain$Sha256", name := "mix", desc := "([I)V" } : MethodName)) ∈ tb := tb_in (tm_5 (List.mem_of_getElem? (i := 28) rfl)) rfl
theorem q5_30 : (Cond.instanceMethod ({ cls := "TrustChain$Sha256", name := "mix", desc := "([I)V" } : MethodName)) ∈ tb := tb_in (tm_5 (List.mem_of_getElem? (i := 30) rfl)) rfl
theorem q5_31 : (Cond.code ({ cls := "TrustChain$Sha256", name := "mix", desc := "([I)V" } : MethodName) prog_11_method_5_code (15 : Nat) none) ∈ tb := tb_in (tm_5 (List.mem_of_getElem? (i := 31) rfl)) rfl
theorem q5_32 : (Cond.fieldLink "TrustChain$Sha256" (50 : Nat) "TrustChain$Sha256" "ROUND" "[I") ∈ tb := tb_in (tm_5 (List.mem_of_getElem? (i := 32) rfl)) rfl
theorem q5_33 : (Cond.laysStatic "TrustChain$Sha256" "ROUND" "[I") ∈ lw_tbl := tm_5 (List.mem_of_getElem? (i := 33) rfl)
theorem q5_34 : (Cond.methodLink "TrustChain" (138 : Nat) ({ cls := "java/util/ArrayList", name := "add", desc := "(Ljava/lang/Object;)Z" } : MethodName)) ∈ tb := tb_in (tm_5 (List.mem_of_getElem? (i := 34) rfl)) rfl
theorem q5_35 : (Cond.methodLink "TrustChain" (142 : Nat) ({ cls := "TrustChain", name := "linkIssuers", desc := "(LTrustChain$Certificate;)V" } : MethodName)) ∈ tb := tb_in (tm_5 (List.mem_of_getElem? (i := 35) rfl)) rfl
theorem q5_37 : (Cond.instanceMethod ({ cls := "TrustChain", name := "linkIssuers", desc := "(LTrustChain$Certificate;)V" } : MethodName)) ∈ tb := tb_in (tm_5 (List.mem_of_getElem? (i := 37) rfl)) rfl
theorem q5_38 : (Cond.code ({ cls := "TrustChain", name := "linkIssuers", desc := "(LTrustChain$Certificate;)V" } : MethodName) prog_1_method_21_code (4 : Nat) none) ∈ tb := tb_in (tm_5 (List.mem_of_getElem? (i := 38) rfl)) rfl
theorem q5_39 : (Cond.methodLink "TrustChain" (165 : Nat) ({ cls := "java/util/ArrayList", name := "get", desc := "(I)Ljava/lang/Object;" } : MethodName)) ∈ tb := tb_in (tm_5 (List.mem_of_getElem? (i := 39) rfl)) rfl
theorem q5_40 : (Cond.classLink "TrustChain" (120 : Nat) "TrustChain$Certificate") ∈ tb := tb_in (tm_5 (List.mem_of_getElem? (i := 40) rfl)) rfl
theorem q5_41 : (Cond.methodLink "TrustChain" (254 : Nat) ({ cls := "TrustChain$Certificate", name := "mayFollow", desc := "(LTrustChain$Certificate;)Z" } : MethodName)) ∈ tb := tb_in (tm_5 (List.mem_of_getElem? (i := 41) rfl)) rfl
theorem q5_42 : (Cond.instanceMethod ({ cls := "TrustChain$Certificate", name := "mayFollow", desc := "(LTrustChain$Certificate;)Z" } : MethodName)) ∈ tb := tb_in (tm_5 (List.mem_of_getElem? (i := 42) rfl)) rfl
theorem q5_43 : (Cond.selects "TrustChain$Certificate" ({ cls := "TrustChain$Certificate", name := "mayFollow", desc := "(LTrustChain$Certificate;)Z" } : MethodName) ({ cls := "TrustChain$Certificate", name := "mayFollow", desc := "(LTrustChain$Certificate;)Z" } : MethodName)) ∈ tb := tb_in (tm_5 (List.mem_of_getElem? (i := 43) rfl)) rfl
theorem q5_44 : (Cond.code ({ cls := "TrustChain$Certificate", name := "mayFollow", desc := "(LTrustChain$Certificate;)Z" } : MethodName) prog_2_method_2_code (3 : Nat) (some FieldType.boolean)) ∈ tb := tb_in (tm_5 (List.mem_of_getElem? (i := 44) rfl)) rfl
theorem q5_45 : (Cond.methodLink "TrustChain$Certificate" (77 : Nat) ({ cls := "TrustChain$Slice", name := "length", desc := "()I" } : MethodName)) ∈ tb := tb_in (tm_5 (List.mem_of_getElem? (i := 45) rfl)) rfl
theorem q5_46 : (Cond.methodLink "TrustChain$Certificate" (86 : Nat) ({ cls := "TrustChain$Slice", name := "same", desc := "(LTrustChain$Slice;)Z" } : MethodName)) ∈ tb := tb_in (tm_5 (List.mem_of_getElem? (i := 46) rfl)) rfl
theorem q5_47 : (Cond.methodLink "TrustChainLaw" (72 : Nat) ({ cls := "TrustChainLaw", name := "list", desc := "(LTrustChain;I[J)I" } : MethodName)) ∈ tb := tb_in (tm_5 (List.mem_of_getElem? (i := 47) rfl)) rfl
theorem q5_48 : (Cond.static ({ cls := "TrustChainLaw", name := "list", desc := "(LTrustChain;I[J)I" } : MethodName)) ∈ tb := tb_in (tm_5 (List.mem_of_getElem? (i := 48) rfl)) rfl
theorem q5_49 : (Cond.codeWith ({ cls := "TrustChainLaw", name := "list", desc := "(LTrustChain;I[J)I" } : MethodName) method_5_code (4 : Nat) (some FieldType.int) [((0 : Nat), (9 : Nat), (12 : Nat), (13 : Nat)), ((0 : Nat), (9 : Nat), (15 : Nat), (19 : Nat))]) ∈ tb := tb_in (tm_5 (List.mem_of_getElem? (i := 49) rfl)) rfl
theorem q5_50 : (Cond.methodLink "TrustChainLaw" (21 : Nat) ({ cls := "TrustChain", name := "list", desc := "(I)I" } : MethodName)) ∈ tb := tb_in (tm_5 (List.mem_of_getElem? (i := 50) rfl)) rfl
theorem q5_51 : (Cond.instanceMethod ({ cls := "TrustChain", name := "list", desc := "(I)I" } : MethodName)) ∈ tb := tb_in (tm_5 (List.mem_of_getElem? (i := 51) rfl)) rfl
theorem q5_52 : (Cond.selects "TrustChain" ({ cls := "TrustChain", name := "list", desc := "(I)I" } : MethodName) ({ cls := "TrustChain", name := "list", desc := "(I)I" } : MethodName)) ∈ tb := tb_in (tm_5 (List.mem_of_getElem? (i := 52) rfl)) rfl
theorem q5_53 : (Cond.code ({ cls := "TrustChain", name := "list", desc := "(I)I" } : MethodName) prog_1_method_4_code (3 : Nat) (some FieldType.int)) ∈ tb := tb_in (tm_5 (List.mem_of_getElem? (i := 53) rfl)) rfl
theorem q5_54 : (Cond.classLink "TrustChain" (146 : Nat) "TrustChain$ListReader") ∈ tb := tb_in (tm_5 (List.mem_of_getElem? (i := 54) rfl)) rfl
theorem q5_55 : (Cond.instantiable "TrustChain$ListReader" (10 : Nat)) ∈ tb := tb_in (tm_5 (List.mem_of_getElem? (i := 55) rfl)) rfl
theorem q5_56 : (Cond.methodLink "TrustChain" (148 : Nat) ({ cls := "TrustChain$ListReader", name := "<init>", desc := "([B)V" } : MethodName)) ∈ tb := tb_in (tm_5 (List.mem_of_getElem? (i := 56) rfl)) rfl
theorem q5_57 : (Cond.instanceMethod ({ cls := "TrustChain$ListReader", name := "<init>", desc := "([B)V" } : MethodName)) ∈ tb := tb_in (tm_5 (List.mem_of_getElem? (i := 57) rfl)) rfl
theorem q5_58 : (Cond.code ({ cls := "TrustChain$ListReader", name := "<init>", desc := "([B)V" } : MethodName) prog_4_method_1_code (2 : Nat) none) ∈ tb := tb_in (tm_5 (List.mem_of_getElem? (i := 58) rfl)) rfl
theorem q5_59 : (Cond.methodLink "TrustChain$ListReader" (3 : Nat) ({ cls := "TrustChain$Reader", name := "<init>", desc := "([B)V" } : MethodName)) ∈ tb := tb_in (tm_5 (List.mem_of_getElem? (i := 59) rfl)) rfl
theorem q5_60 : (Cond.classLink "TrustChain$ListReader" (15 : Nat) "TrustChain$Paper") ∈ tb := tb_in (tm_5 (List.mem_of_getElem? (i := 60) rfl)) rfl
theorem q5_61 : (Cond.instantiable "TrustChain$Paper" (9 : Nat)) ∈ tb := tb_in (tm_5 (List.mem_of_getElem? (i := 61) rfl)) rfl
theorem q5_62 : (Cond.classLink "TrustChain$ListReader" (17 : Nat) "TrustChain$Slice") ∈ tb := tb_in (tm_5 (List.mem_of_getElem? (i := 62) rfl)) rfl
theorem q5_63 : (Cond.methodLink "TrustChain$ListReader" (19 : Nat) ({ cls := "TrustChain$Slice", name := "<init>", desc := "([BII)V" } : MethodName)) ∈ tb := tb_in (tm_5 (List.mem_of_getElem? (i := 63) rfl)) rfl
theorem q5_64 : (Cond.methodLink "TrustChain$ListReader" (22 : Nat) ({ cls := "TrustChain$Paper", name := "<init>", desc := "(LTrustChain$Slice;)V" } : MethodName)) ∈ tb := tb_in (tm_5 (List.mem_of_getElem? (i := 64) rfl)) rfl
theorem q5_65 : (Cond.laysFinal "TrustChain$Paper" "TrustChain$Paper" "hash" "[I") ∈ tb := tb_in (tm_5 (List.mem_of_getElem? (i := 65) rfl)) rfl
theorem q5_66 : (Cond.laysFinal "TrustChain$Paper" "TrustChain$Paper" "signers" "[I") ∈ tb := tb_in (tm_5 (List.mem_of_getElem? (i := 66) rfl)) rfl
theorem q5_67 : (Cond.laysFinal "TrustChain$Paper" "TrustChain$Paper" "entries" "Ljava/util/ArrayList;") ∈ tb := tb_in (tm_5 (List.mem_of_getElem? (i := 67) rfl)) rfl
theorem q5_68 : (Cond.lays "TrustChain$Paper" "TrustChain$Paper" "body" "LTrustChain$Slice;") ∈ tb := tb_in (tm_5 (List.mem_of_getElem? (i := 68) rfl)) rfl
theorem q5_69 : (Cond.lays "TrustChain$Paper" "TrustChain$Paper" "signature" "LTrustChain$Slice;") ∈ tb := tb_in (tm_5 (List.mem_of_getElem? (i := 69) rfl)) rfl
theorem q5_70 : (Cond.lays "TrustChain$Paper" "TrustChain$Paper" "issuer" "LTrustChain$Slice;") ∈ tb := tb_in (tm_5 (List.mem_of_getElem? (i := 70) rfl)) rfl
theorem q5_71 : (Cond.lays "TrustChain$Paper" "TrustChain$Paper" "first" "J") ∈ tb := tb_in (tm_5 (List.mem_of_getElem? (i := 71) rfl)) rfl
theorem q5_72 : (Cond.lays "TrustChain$Paper" "TrustChain$Paper" "last" "J") ∈ tb := tb_in (tm_5 (List.mem_of_getElem? (i := 72) rfl)) rfl
theorem q5_73 : (Cond.lays "TrustChain$Paper" "TrustChain$Paper" "matters" "I") ∈ tb := tb_in (tm_5 (List.mem_of_getElem? (i := 73) rfl)) rfl
theorem q5_75 : (Cond.fieldLink "TrustChain$ListReader" (25 : Nat) "TrustChain$ListReader" "result" "LTrustChain$Paper;") ∈ tb := tb_in (tm_5 (List.mem_of_getElem? (i := 75) rfl)) rfl
theorem q5_76 : (Cond.fieldLink "TrustChain" (153 : Nat) "TrustChain$ListReader" "result" "LTrustChain$Paper;") ∈ tb := tb_in (tm_5 (List.mem_of_getElem? (i := 76) rfl)) rfl
theorem q5_77 : (Cond.fieldLink "TrustChain$ListReader" (9 : Nat) "TrustChain$ListReader" "inEntry" "Z") ∈ tb := tb_in (tm_5 (List.mem_of_getElem? (i := 77) rfl)) rfl
theorem q5_78 : (Cond.laysFinal "TrustChain$ListReader" "TrustChain$ListReader" "result" "LTrustChain$Paper;") ∈ tb := tb_in (tm_5 (List.mem_of_getElem? (i := 78) rfl)) rfl
theorem q5_80 : (Cond.lays "TrustChain$ListReader" "TrustChain$ListReader" "inEntry" "Z") ∈ tb := tb_in (tm_5 (List.mem_of_getElem? (i := 80) rfl)) rfl
theorem q5_82 : (Cond.laysFinal "TrustChain$ListReader" "TrustChain$Reader" "text" "[B") ∈ tb := tb_in (tm_5 (List.mem_of_getElem? (i := 82) rfl)) rfl
theorem q5_83 : (Cond.lays "TrustChain$ListReader" "TrustChain$Reader" "place" "I") ∈ tb := tb_in (tm_5 (List.mem_of_getElem? (i := 83) rfl)) rfl
theorem q5_84 : (Cond.lays "TrustChain$ListReader" "TrustChain$Reader" "start" "I") ∈ tb := tb_in (tm_5 (List.mem_of_getElem? (i := 84) rfl)) rfl
theorem q5_85 : (Cond.lays "TrustChain$ListReader" "TrustChain$Reader" "wrongAt" "I") ∈ tb := tb_in (tm_5 (List.mem_of_getElem? (i := 85) rfl)) rfl
theorem q5_86 : (Cond.lays "TrustChain$ListReader" "TrustChain$Reader" "parts" "I") ∈ tb := tb_in (tm_5 (List.mem_of_getElem? (i := 86) rfl)) rfl
theorem q5_87 : (Cond.lays "TrustChain$ListReader" "TrustChain$Reader" "matters" "I") ∈ tb := tb_in (tm_5 (List.mem_of_getElem? (i := 87) rfl)) rfl
theorem q5_88 : (Cond.lays "TrustChain$ListReader" "TrustChain$Reader" "extensions" "I") ∈ tb := tb_in (tm_5 (List.mem_of_getElem? (i := 88) rfl)) rfl
theorem q5_89 : (Cond.laysFinal "TrustChain$ListReader" "TrustChain$Reader" "kinds" "Ljava/util/ArrayList;") ∈ tb := tb_in (tm_5 (List.mem_of_getElem? (i := 89) rfl)) rfl
theorem q5_91 : (Cond.methodLink "TrustChain" (149 : Nat) ({ cls := "TrustChain$ListReader", name := "readList", desc := "()V" } : MethodName)) ∈ tb := tb_in (tm_5 (List.mem_of_getElem? (i := 91) rfl)) rfl
theorem q5_92 : (Cond.instanceMethod ({ cls := "TrustChain$ListReader", name := "readList", desc := "()V" } : MethodName)) ∈ tb := tb_in (tm_5 (List.mem_of_getElem? (i := 92) rfl)) rfl
theorem q5_93 : (Cond.selects "TrustChain$ListReader" ({ cls := "TrustChain$ListReader", name := "readList", desc := "()V" } : MethodName) ({ cls := "TrustChain$ListReader", name := "readList", desc := "()V" } : MethodName)) ∈ tb := tb_in (tm_5 (List.mem_of_getElem? (i := 93) rfl)) rfl
theorem q5_94 : (Cond.code ({ cls := "TrustChain$ListReader", name := "readList", desc := "()V" } : MethodName) prog_4_method_2_code (7 : Nat) none) ∈ tb := tb_in (tm_5 (List.mem_of_getElem? (i := 94) rfl)) rfl
theorem q5_95 : (Cond.methodLink "TrustChain$ListReader" (33 : Nat) ({ cls := "TrustChain$ListReader", name := "open", desc := "(II)I" } : MethodName)) ∈ tb := tb_in (tm_5 (List.mem_of_getElem? (i := 95) rfl)) rfl
theorem q5_96 : (Cond.sameMethod "TrustChain$ListReader" "TrustChain$Reader" "open" "(II)I") ∈ tb := tb_in (tm_5 (List.mem_of_getElem? (i := 96) rfl)) rfl
theorem q5_97 : (Cond.selects "TrustChain$ListReader" ({ cls := "TrustChain$ListReader", name := "open", desc := "(II)I" } : MethodName) ({ cls := "TrustChain$Reader", name := "open", desc := "(II)I" } : MethodName)) ∈ tb := tb_in (tm_5 (List.mem_of_getElem? (i := 97) rfl)) rfl
theorem q5_98 : (Cond.methodLink "TrustChain$ListReader" (41 : Nat) ({ cls := "TrustChain$ListReader", name := "readHead", desc := "(I)V" } : MethodName)) ∈ tb := tb_in (tm_5 (List.mem_of_getElem? (i := 98) rfl)) rfl
theorem q5_100 : (Cond.instanceMethod ({ cls := "TrustChain$ListReader", name := "readHead", desc := "(I)V" } : MethodName)) ∈ tb := tb_in (tm_5 (List.mem_of_getElem? (i := 100) rfl)) rfl
theorem q5_101 : (Cond.code ({ cls := "TrustChain$ListReader", name := "readHead", desc := "(I)V" } : MethodName) prog_4_method_3_code (2 : Nat) none) ∈ tb := tb_in (tm_5 (List.mem_of_getElem? (i := 101) rfl)) rfl
theorem q5_102 : (Cond.methodLink "TrustChain$ListReader" (100 : Nat) ({ cls := "TrustChain$ListReader", name := "algorithm", desc := "(II)V" } : MethodName)) ∈ tb := tb_in (tm_5 (List.mem_of_getElem? (i := 102) rfl)) rfl
theorem q5_103 : (Cond.sameMethod "TrustChain$ListReader" "TrustChain$Reader" "algorithm" "(II)V") ∈ tb := tb_in (tm_5 (List.mem_of_getElem? (i := 103) rfl)) rfl
theorem q5_104 : (Cond.selects "TrustChain$ListReader" ({ cls := "TrustChain$ListReader", name := "algorithm", desc := "(II)V" } : MethodName) ({ cls := "TrustChain$Reader", name := "algorithm", desc := "(II)V" } : MethodName)) ∈ tb := tb_in (tm_5 (List.mem_of_getElem? (i := 104) rfl)) rfl
theorem q5_105 : (Cond.methodLink "TrustChain$ListReader" (104 : Nat) ({ cls := "TrustChain$ListReader", name := "fullName", desc := "(I)LTrustChain$Slice;" } : MethodName)) ∈ tb := tb_in (tm_5 (List.mem_of_getElem? (i := 105) rfl)) rfl
theorem q5_106 : (Cond.sameMethod "TrustChain$ListReader" "TrustChain$Reader" "fullName" "(I)LTrustChain$Slice;") ∈ tb := tb_in (tm_5 (List.mem_of_getElem? (i := 106) rfl)) rfl
theorem q5_107 : (Cond.selects "TrustChain$ListReader" ({ cls := "TrustChain$ListReader", name := "fullName", desc := "(I)LTrustChain$Slice;" } : MethodName) ({ cls := "TrustChain$Reader", name := "fullName", desc := "(I)LTrustChain$Slice;" } : MethodName)) ∈ tb := tb_in (tm_5 (List.mem_of_getElem? (i := 107) rfl)) rfl
theorem q5_108 : (Cond.methodLink "TrustChain$ListReader" (63 : Nat) ({ cls := "TrustChain$ListReader", name := "time", desc := "(I)J" } : MethodName)) ∈ tb := tb_in (tm_5 (List.mem_of_getElem? (i := 108) rfl)) rfl
theorem q5_109 : (Cond.sameMethod "TrustChain$ListReader" "TrustChain$Reader" "time" "(I)J") ∈ tb := tb_in (tm_5 (List.mem_of_getElem? (i := 109) rfl)) rfl
theorem q5_110 : (Cond.selects "TrustChain$ListReader" ({ cls := "TrustChain$ListReader", name := "time", desc := "(I)J" } : MethodName) ({ cls := "TrustChain$Reader", name := "time", desc := "(I)J" } : MethodName)) ∈ tb := tb_in (tm_5 (List.mem_of_getElem? (i := 110) rfl)) rfl
theorem q5_111 : (Cond.methodLink "TrustChain$ListReader" (45 : Nat) ({ cls := "TrustChain$ListReader", name := "nextIs", desc := "(II)Z" } : MethodName)) ∈ tb := tb_in (tm_5 (List.mem_of_getElem? (i := 111) rfl)) rfl
theorem q5_112 : (Cond.sameMethod "TrustChain$ListReader" "TrustChain$Reader" "nextIs" "(II)Z") ∈ tb := tb_in (tm_5 (List.mem_of_getElem? (i := 112) rfl)) rfl
theorem q5_113 : (Cond.selects "TrustChain$ListReader" ({ cls := "TrustChain$ListReader", name := "nextIs", desc := "(II)Z" } : MethodName) ({ cls := "TrustChain$Reader", name := "nextIs", desc := "(II)Z" } : MethodName)) ∈ tb := tb_in (tm_5 (List.mem_of_getElem? (i := 113) rfl)) rfl
theorem q5_114 : (Cond.methodLink "TrustChain$ListReader" (53 : Nat) ({ cls := "TrustChain$ListReader", name := "serial", desc := "(I)LTrustChain$Slice;" } : MethodName)) ∈ tb := tb_in (tm_5 (List.mem_of_getElem? (i := 114) rfl)) rfl
theorem q5_115 : (Cond.sameMethod "TrustChain$ListReader" "TrustChain$Reader" "serial" "(I)LTrustChain$Slice;") ∈ tb := tb_in (tm_5 (List.mem_of_getElem? (i := 115) rfl)) rfl
theorem q5_116 : (Cond.selects "TrustChain$ListReader" ({ cls := "TrustChain$ListReader", name := "serial", desc := "(I)LTrustChain$Slice;" } : MethodName) ({ cls := "TrustChain$Reader", name := "serial", desc := "(I)LTrustChain$Slice;" } : MethodName)) ∈ tb := tb_in (tm_5 (List.mem_of_getElem? (i := 116) rfl)) rfl
theorem q5_117 : (Cond.methodLink "TrustChain$ListReader" (57 : Nat) ({ cls := "java/util/ArrayList", name := "add", desc := "(Ljava/lang/Object;)Z" } : MethodName)) ∈ tb := tb_in (tm_5 (List.mem_of_getElem? (i := 117) rfl)) rfl
theorem q5_118 : (Cond.methodLink "TrustChain$ListReader" (67 : Nat) ({ cls := "TrustChain$ListReader", name := "readExtensions", desc := "(I)V" } : MethodName)) ∈ tb := tb_in (tm_5 (List.mem_of_getElem? (i := 118) rfl)) rfl
theorem q5_119 : (Cond.sameMethod "TrustChain$ListReader" "TrustChain$Reader" "readExtensions" "(I)V") ∈ tb := tb_in (tm_5 (List.mem_of_getElem? (i := 119) rfl)) rfl
theorem q5_120 : (Cond.selects "TrustChain$ListReader" ({ cls := "TrustChain$ListReader", name := "readExtensions", desc := "(I)V" } : MethodName) ({ cls := "TrustChain$Reader", name := "readExtensions", desc := "(I)V" } : MethodName)) ∈ tb := tb_in (tm_5 (List.mem_of_getElem? (i := 120) rfl)) rfl
theorem q5_121 : (Cond.methodLink "TrustChain$ListReader" (70 : Nat) ({ cls := "TrustChain$ListReader", name := "finish", desc := "(I)V" } : MethodName)) ∈ tb := tb_in (tm_5 (List.mem_of_getElem? (i := 121) rfl)) rfl
theorem q5_122 : (Cond.sameMethod "TrustChain$ListReader" "TrustChain$Reader" "finish" "(I)V") ∈ tb := tb_in (tm_5 (List.mem_of_getElem? (i := 122) rfl)) rfl
theorem q5_123 : (Cond.selects "TrustChain$ListReader" ({ cls := "TrustChain$ListReader", name := "finish", desc := "(I)V" } : MethodName) ({ cls := "TrustChain$Reader", name := "finish", desc := "(I)V" } : MethodName)) ∈ tb := tb_in (tm_5 (List.mem_of_getElem? (i := 123) rfl)) rfl
theorem q5_124 : (Cond.methodLink "TrustChain$ListReader" (73 : Nat) ({ cls := "TrustChain$ListReader", name := "more", desc := "(I)Z" } : MethodName)) ∈ tb := tb_in (tm_5 (List.mem_of_getElem? (i := 124) rfl)) rfl
theorem q5_125 : (Cond.sameMethod "TrustChain$ListReader" "TrustChain$Reader" "more" "(I)Z") ∈ tb := tb_in (tm_5 (List.mem_of_getElem? (i := 125) rfl)) rfl
theorem q5_126 : (Cond.selects "TrustChain$ListReader" ({ cls := "TrustChain$ListReader", name := "more", desc := "(I)Z" } : MethodName) ({ cls := "TrustChain$Reader", name := "more", desc := "(I)Z" } : MethodName)) ∈ tb := tb_in (tm_5 (List.mem_of_getElem? (i := 126) rfl)) rfl
theorem q5_127 : (Cond.methodLink "TrustChain$ListReader" (85 : Nat) ({ cls := "TrustChain$ListReader", name := "readSignature", desc := "(LTrustChain$Paper;I)V" } : MethodName)) ∈ tb := tb_in (tm_5 (List.mem_of_getElem? (i := 127) rfl)) rfl
theorem q5_128 : (Cond.sameMethod "TrustChain$ListReader" "TrustChain$Reader" "readSignature" "(LTrustChain$Paper;I)V") ∈ tb := tb_in (tm_5 (List.mem_of_getElem? (i := 128) rfl)) rfl
theorem q5_129 : (Cond.selects "TrustChain$ListReader" ({ cls := "TrustChain$ListReader", name := "readSignature", desc := "(LTrustChain$Paper;I)V" } : MethodName) ({ cls := "TrustChain$Reader", name := "readSignature", desc := "(LTrustChain$Paper;I)V" } : MethodName)) ∈ tb := tb_in (tm_5 (List.mem_of_getElem? (i := 129) rfl)) rfl
theorem q5_130 : (Cond.methodLink "TrustChainLaw" (81 : Nat) ({ cls := "TrustChainLaw", name := "trust", desc := "(LTrustChain;IZ[J)I" } : MethodName)) ∈ tb := tb_in (tm_5 (List.mem_of_getElem? (i := 130) rfl)) rfl
theorem q5_131 : (Cond.static ({ cls := "TrustChainLaw", name := "trust", desc := "(LTrustChain;IZ[J)I" } : MethodName)) ∈ tb := tb_in (tm_5 (List.mem_of_getElem? (i := 131) rfl)) rfl
theorem q5_132 : (Cond.codeWith ({ cls := "TrustChainLaw", name := "trust", desc := "(LTrustChain;IZ[J)I" } : MethodName) method_6_code (5 : Nat) (some FieldType.int) [((0 : Nat), (17 : Nat), (20 : Nat), (13 : Nat))]) ∈ tb := tb_in (tm_5 (List.mem_of_getElem? (i := 132) rfl)) rfl
theorem q5_133 : (Cond.methodLink "TrustChainLaw" (25 : Nat) ({ cls := "TrustChain", name := "trust", desc := "(IZ)Z" } : MethodName)) ∈ tb := tb_in (tm_5 (List.mem_of_getElem? (i := 133) rfl)) rfl
theorem q5_134 : (Cond.instanceMethod ({ cls := "TrustChain", name := "trust", desc := "(IZ)Z" } : MethodName)) ∈ tb := tb_in (tm_5 (List.mem_of_getElem? (i := 134) rfl)) rfl
theorem q5_135 : (Cond.selects "TrustChain" ({ cls := "TrustChain", name := "trust", desc := "(IZ)Z" } : MethodName) ({ cls := "TrustChain", name := "trust", desc := "(IZ)Z" } : MethodName)) ∈ tb := tb_in (tm_5 (List.mem_of_getElem? (i := 135) rfl)) rfl
theorem q5_136 : (Cond.code ({ cls := "TrustChain", name := "trust", desc := "(IZ)Z" } : MethodName) prog_1_method_6_code (5 : Nat) (some FieldType.boolean)) ∈ tb := tb_in (tm_5 (List.mem_of_getElem? (i := 136) rfl)) rfl
theorem q5_137 : (Cond.methodLink "TrustChain" (160 : Nat) ({ cls := "TrustChain", name := "isStored", desc := "(I)Z" } : MethodName)) ∈ tb := tb_in (tm_5 (List.mem_of_getElem? (i := 137) rfl)) rfl
theorem q5_139 : (Cond.instanceMethod ({ cls := "TrustChain", name := "isStored", desc := "(I)Z" } : MethodName)) ∈ tb := tb_in (tm_5 (List.mem_of_getElem? (i := 139) rfl)) rfl
theorem q5_140 : (Cond.code ({ cls := "TrustChain", name := "isStored", desc := "(I)Z" } : MethodName) prog_1_method_19_code (2 : Nat) (some FieldType.boolean)) ∈ tb := tb_in (tm_5 (List.mem_of_getElem? (i := 140) rfl)) rfl
theorem q5_142 : (Cond.methodLink "TrustChainLaw" (84 : Nat) ({ cls := "TrustChainLaw", name := "part", desc := "(LTrustChain;II[J)I" } : MethodName)) ∈ tb := tb_in (tm_5 (List.mem_of_getElem? (i := 142) rfl)) rfl
theorem q5_143 : (Cond.static ({ cls := "TrustChainLaw", name := "part", desc := "(LTrustChain;II[J)I" } : MethodName)) ∈ tb := tb_in (tm_5 (List.mem_of_getElem? (i := 143) rfl)) rfl
theorem q5_144 : (Cond.codeWith ({ cls := "TrustChainLaw", name := "part", desc := "(LTrustChain;II[J)I" } : MethodName) method_7_code (5 : Nat) (some FieldType.int) [((0 : Nat), (9 : Nat), (12 : Nat), (19 : Nat)), ((0 : Nat), (9 : Nat), (16 : Nat), (13 : Nat))]) ∈ tb := tb_in (tm_5 (List.mem_of_getElem? (i := 144) rfl)) rfl
theorem q5_145 : (Cond.methodLink "TrustChainLaw" (29 : Nat) ({ cls := "TrustChain", name := "part", desc := "(II)J" } : MethodName)) ∈ tb := tb_in (tm_5 (List.mem_of_getElem? (i := 145) rfl)) rfl
theorem q5_146 : (Cond.instanceMethod ({ cls := "TrustChain", name := "part", desc := "(II)J" } : MethodName)) ∈ tb := tb_in (tm_5 (List.mem_of_getElem? (i := 146) rfl)) rfl
theorem q5_147 : (Cond.selects "TrustChain" ({ cls := "TrustChain", name := "part", desc := "(II)J" } : MethodName) ({ cls := "TrustChain", name := "part", desc := "(II)J" } : MethodName)) ∈ tb := tb_in (tm_5 (List.mem_of_getElem? (i := 147) rfl)) rfl
theorem q5_148 : (Cond.code ({ cls := "TrustChain", name := "part", desc := "(II)J" } : MethodName) prog_1_method_7_code (3 : Nat) (some FieldType.long)) ∈ tb := tb_in (tm_5 (List.mem_of_getElem? (i := 148) rfl)) rfl
theorem q5_150 : (Cond.methodLink "TrustChain" (171 : Nat) ({ cls := "TrustChain$Certificate", name := "tell", desc := "(I)J" } : MethodName)) ∈ tb := tb_in (tm_5 (List.mem_of_getElem? (i := 150) rfl)) rfl
theorem q5_151 : (Cond.instanceMethod ({ cls := "TrustChain$Certificate", name := "tell", desc := "(I)J" } : MethodName)) ∈ tb := tb_in (tm_5 (List.mem_of_getElem? (i := 151) rfl)) rfl
theorem q5_152 : (Cond.selects "TrustChain$Certificate" ({ cls := "TrustChain$Certificate", name := "tell", desc := "(I)J" } : MethodName) ({ cls := "TrustChain$Certificate", name := "tell", desc := "(I)J" } : MethodName)) ∈ tb := tb_in (tm_5 (List.mem_of_getElem? (i := 152) rfl)) rfl
theorem q5_153 : (Cond.code ({ cls := "TrustChain$Certificate", name := "tell", desc := "(I)J" } : MethodName) prog_2_method_6_code (2 : Nat) (some FieldType.long)) ∈ tb := tb_in (tm_5 (List.mem_of_getElem? (i := 153) rfl)) rfl
theorem q5_154 : (Cond.methodLink "TrustChain$Certificate" (116 : Nat) ({ cls := "java/util/ArrayList", name := "size", desc := "()I" } : MethodName)) ∈ tb := tb_in (tm_5 (List.mem_of_getElem? (i := 154) rfl)) rfl
theorem q5_155 : (Cond.methodLink "TrustChainLaw" (88 : Nat) ({ cls := "TrustChainLaw", name := "listPart", desc := "(LTrustChain;II[J)I" } : MethodName)) ∈ tb := tb_in (tm_5 (List.mem_of_getElem? (i := 155) rfl)) rfl
theorem q5_156 : (Cond.static ({ cls := "TrustChainLaw", name := "listPart", desc := "(LTrustChain;II[J)I" } : MethodName)) ∈ tb := tb_in (tm_5 (List.mem_of_getElem? (i := 156) rfl)) rfl
theorem q5_157 : (Cond.codeWith ({ cls := "TrustChainLaw", name := "listPart", desc := "(LTrustChain;II[J)I" } : MethodName) method_8_code (5 : Nat) (some FieldType.int) [((0 : Nat), (9 : Nat), (12 : Nat), (19 : Nat)), ((0 : Nat), (9 : Nat), (16 : Nat), (13 : Nat))]) ∈ tb := tb_in (tm_5 (List.mem_of_getElem? (i := 157) rfl)) rfl
theorem q5_158 : (Cond.methodLink "TrustChainLaw" (33 : Nat) ({ cls := "TrustChain", name := "listPart", desc := "(II)J" } : MethodName)) ∈ tb := tb_in (tm_5 (List.mem_of_getElem? (i := 158) rfl)) rfl
theorem q5_159 : (Cond.instanceMethod ({ cls := "TrustChain", name := "listPart", desc := "(II)J" } : MethodName)) ∈ tb := tb_in (tm_5 (List.mem_of_getElem? (i := 159) rfl)) rfl
theorem q5_160 : (Cond.selects "TrustChain" ({ cls := "TrustChain", name := "listPart", desc := "(II)J" } : MethodName) ({ cls := "TrustChain", name := "listPart", desc := "(II)J" } : MethodName)) ∈ tb := tb_in (tm_5 (List.mem_of_getElem? (i := 160) rfl)) rfl
theorem q5_161 : (Cond.code ({ cls := "TrustChain", name := "listPart", desc := "(II)J" } : MethodName) prog_1_method_8_code (4 : Nat) (some FieldType.long)) ∈ tb := tb_in (tm_5 (List.mem_of_getElem? (i := 161) rfl)) rfl
theorem q5_162 : (Cond.methodLink "TrustChain" (175 : Nat) ({ cls := "TrustChain", name := "isListed", desc := "(I)Z" } : MethodName)) ∈ tb := tb_in (tm_5 (List.mem_of_getElem? (i := 162) rfl)) rfl
theorem q5_164 : (Cond.instanceMethod ({ cls := "TrustChain", name := "isListed", desc := "(I)Z" } : MethodName)) ∈ tb := tb_in (tm_5 (List.mem_of_getElem? (i := 164) rfl)) rfl
theorem q5_165 : (Cond.code ({ cls := "TrustChain", name := "isListed", desc := "(I)Z" } : MethodName) prog_1_method_20_code (2 : Nat) (some FieldType.boolean)) ∈ tb := tb_in (tm_5 (List.mem_of_getElem? (i := 165) rfl)) rfl
theorem q5_167 : (Cond.classLink "TrustChain" (157 : Nat) "TrustChain$Paper") ∈ tb := tb_in (tm_5 (List.mem_of_getElem? (i := 167) rfl)) rfl
theorem q5_168 : (Cond.methodLink "TrustChainLaw" (91 : Nat) ({ cls := "TrustChainLaw", name := "signed", desc := "(LTrustChain;ZII[J)I" } : MethodName)) ∈ tb := tb_in (tm_5 (List.mem_of_getElem? (i := 168) rfl)) rfl
theorem q5_169 : (Cond.static ({ cls := "TrustChainLaw", name := "signed", desc := "(LTrustChain;ZII[J)I" } : MethodName)) ∈ tb := tb_in (tm_5 (List.mem_of_getElem? (i := 169) rfl)) rfl
theorem q5_170 : (Cond.codeWith ({ cls := "TrustChainLaw", name := "signed", desc := "(LTrustChain;ZII[J)I" } : MethodName) method_9_code (6 : Nat) (some FieldType.int) [((0 : Nat), (19 : Nat), (22 : Nat), (13 : Nat))]) ∈ tb := tb_in (tm_5 (List.mem_of_getElem? (i := 170) rfl)) rfl
theorem q5_171 : (Cond.methodLink "TrustChainLaw" (36 : Nat) ({ cls := "TrustChain", name := "signed", desc := "(ZII)Z" } : MethodName)) ∈ tb := tb_in (tm_5 (List.mem_of_getElem? (i := 171) rfl)) rfl
theorem q5_172 : (Cond.instanceMethod ({ cls := "TrustChain", name := "signed", desc := "(ZII)Z" } : MethodName)) ∈ tb := tb_in (tm_5 (List.mem_of_getElem? (i := 172) rfl)) rfl
theorem q5_173 : (Cond.selects "TrustChain" ({ cls := "TrustChain", name := "signed", desc := "(ZII)Z" } : MethodName) ({ cls := "TrustChain", name := "signed", desc := "(ZII)Z" } : MethodName)) ∈ tb := tb_in (tm_5 (List.mem_of_getElem? (i := 173) rfl)) rfl
theorem q5_174 : (Cond.code ({ cls := "TrustChain", name := "signed", desc := "(ZII)Z" } : MethodName) prog_1_method_9_code (5 : Nat) (some FieldType.boolean)) ∈ tb := tb_in (tm_5 (List.mem_of_getElem? (i := 174) rfl)) rfl
theorem q5_176 : (Cond.methodLink "TrustChain" (195 : Nat) ({ cls := "TrustChain$Rsa", name := "isSigned", desc := "(LTrustChain$Paper;LTrustChain$Certificate;)Z" } : MethodName)) ∈ tb := tb_in (tm_5 (List.mem_of_getElem? (i := 176) rfl)) rfl
theorem q5_177 : (Cond.instanceMethod ({ cls := "TrustChain$Rsa", name := "isSigned", desc := "(LTrustChain$Paper;LTrustChain$Certificate;)Z" } : MethodName)) ∈ tb := tb_in (tm_5 (List.mem_of_getElem? (i := 177) rfl)) rfl
theorem q5_178 : (Cond.selects "TrustChain$Rsa" ({ cls := "TrustChain$Rsa", name := "isSigned", desc := "(LTrustChain$Paper;LTrustChain$Certificate;)Z" } : MethodName) ({ cls := "TrustChain$Rsa", name := "isSigned", desc := "(LTrustChain$Paper;LTrustChain$Certificate;)Z" } : MethodName)) ∈ tb := tb_in (tm_5 (List.mem_of_getElem? (i := 178) rfl)) rfl
theorem q5_179 : (Cond.code ({ cls := "TrustChain$Rsa", name := "isSigned", desc := "(LTrustChain$Paper;LTrustChain$Certificate;)Z" } : MethodName) prog_9_method_2_code (4 : Nat) (some FieldType.boolean)) ∈ tb := tb_in (tm_5 (List.mem_of_getElem? (i := 179) rfl)) rfl
theorem q5_180 : (Cond.methodLink "TrustChain$Rsa" (49 : Nat) ({ cls := "TrustChain$Rsa", name := "verifies", desc := "(LTrustChain$Paper;LTrustChain$Certificate;)Z" } : MethodName)) ∈ tb := tb_in (tm_5 (List.mem_of_getElem? (i := 180) rfl)) rfl
theorem q5_182 : (Cond.instanceMethod ({ cls := "TrustChain$Rsa", name := "verifies", desc := "(LTrustChain$Paper;LTrustChain$Certificate;)Z" } : MethodName)) ∈ tb := tb_in (tm_5 (List.mem_of_getElem? (i := 182) rfl)) rfl
theorem q5_183 : (Cond.code ({ cls := "TrustChain$Rsa", name := "verifies", desc := "(LTrustChain$Paper;LTrustChain$Certificate;)Z" } : MethodName) prog_9_method_3_code (6 : Nat) (some FieldType.boolean)) ∈ tb := tb_in (tm_5 (List.mem_of_getElem? (i := 183) rfl)) rfl
theorem q5_184 : (Cond.methodLink "TrustChain$Rsa" (56 : Nat) ({ cls := "TrustChain$Slice", name := "length", desc := "()I" } : MethodName)) ∈ tb := tb_in (tm_5 (List.mem_of_getElem? (i := 184) rfl)) rfl
theorem q5_185 : (Cond.methodLink "TrustChain$Rsa" (65 : Nat) ({ cls := "TrustChain$Rsa", name := "load", desc := "(LTrustChain$Slice;[J)V" } : MethodName)) ∈ tb := tb_in (tm_5 (List.mem_of_getElem? (i := 185) rfl)) rfl
theorem q5_187 : (Cond.instanceMethod ({ cls := "TrustChain$Rsa", name := "load", desc := "(LTrustChain$Slice;[J)V" } : MethodName)) ∈ tb := tb_in (tm_5 (List.mem_of_getElem? (i := 187) rfl)) rfl
theorem q5_188 : (Cond.code ({ cls := "TrustChain$Rsa", name := "load", desc := "(LTrustChain$Slice;[J)V" } : MethodName) prog_9_method_4_code (5 : Nat) none) ∈ tb := tb_in (tm_5 (List.mem_of_getElem? (i := 188) rfl)) rfl
theorem q5_189 : (Cond.methodLink "TrustChain$Rsa" (100 : Nat) ({ cls := "java/util/Arrays", name := "fill", desc := "([JJ)V" } : MethodName)) ∈ tb := tb_in (tm_5 (List.mem_of_getElem? (i := 189) rfl)) rfl
theorem q5_190 : (Cond.static ({ cls := "java/util/Arrays", name := "fill", desc := "([JJ)V" } : MethodName)) ∈ tb := tb_in (tm_5 (List.mem_of_getElem? (i := 190) rfl)) rfl
theorem q5_191 : (Cond.code ({ cls := "java/util/Arrays", name := "fill", desc := "([JJ)V" } : MethodName) prog_33_method_101_code (5 : Nat) none) ∈ tb := tb_in (tm_5 (List.mem_of_getElem? (i := 191) rfl)) rfl
theorem q5_192 : (Cond.methodLink "TrustChain$Rsa" (106 : Nat) ({ cls := "TrustChain$Slice", name := "at", desc := "(I)I" } : MethodName)) ∈ tb := tb_in (tm_5 (List.mem_of_getElem? (i := 192) rfl)) rfl
theorem q5_193 : (Cond.methodLink "TrustChain$Rsa" (69 : Nat) ({ cls := "TrustChain$Rsa", name := "isBelowModulus", desc := "([J)Z" } : MethodName)) ∈ tb := tb_in (tm_5 (List.mem_of_getElem? (i := 193) rfl)) rfl
theorem q5_195 : (Cond.instanceMethod ({ cls := "TrustChain$Rsa", name := "isBelowModulus", desc := "([J)Z" } : MethodName)) ∈ tb := tb_in (tm_5 (List.mem_of_getElem? (i := 195) rfl)) rfl
theorem q5_196 : (Cond.code ({ cls := "TrustChain$Rsa", name := "isBelowModulus", desc := "([J)Z" } : MethodName) prog_9_method_5_code (3 : Nat) (some FieldType.boolean)) ∈ tb := tb_in (tm_5 (List.mem_of_getElem? (i := 196) rfl)) rfl
theorem q5_197 : (Cond.methodLink "TrustChain$Rsa" (76 : Nat) ({ cls := "TrustChain$Rsa", name := "prepare", desc := "(I)V" } : MethodName)) ∈ tb := tb_in (tm_5 (List.mem_of_getElem? (i := 197) rfl)) rfl
theorem q5_199 : (Cond.instanceMethod ({ cls := "TrustChain$Rsa", name := "prepare", desc := "(I)V" } : MethodName)) ∈ tb := tb_in (tm_5 (List.mem_of_getElem? (i := 199) rfl)) rfl
theorem q5_200 : (Cond.code ({ cls := "TrustChain$Rsa", name := "prepare", desc := "(I)V" } : MethodName) prog_9_method_6_code (11 : Nat) none) ∈ tb := tb_in (tm_5 (List.mem_of_getElem? (i := 200) rfl)) rfl
theorem q5_201 : (Cond.constantLong "TrustChain$Rsa" (110 : Nat) (2 : Int64)) ∈ tb := tb_in (tm_5 (List.mem_of_getElem? (i := 201) rfl)) rfl
theorem q5_202 : (Cond.constantLong "TrustChain$Rsa" (112 : Nat) (4294967295 : Int64)) ∈ tb := tb_in (tm_5 (List.mem_of_getElem? (i := 202) rfl)) rfl
theorem q5_203 : (Cond.methodLink "TrustChain$Rsa" (114 : Nat) ({ cls := "java/lang/Math", name := "min", desc := "(II)I" } : MethodName)) ∈ tb := tb_in (tm_5 (List.mem_of_getElem? (i := 203) rfl)) rfl
theorem q5_204 : (Cond.methodLink "TrustChain$Rsa" (120 : Nat) ({ cls := "java/lang/Math", name := "max", desc := "(II)I" } : MethodName)) ∈ tb := tb_in (tm_5 (List.mem_of_getElem? (i := 204) rfl)) rfl
theorem q5_205 : (Cond.methodLink "TrustChain$Rsa" (123 : Nat) ({ cls := "TrustChain$Rsa", name := "settle", desc := "([J)V" } : MethodName)) ∈ tb := tb_in (tm_5 (List.mem_of_getElem? (i := 205) rfl)) rfl
theorem q5_207 : (Cond.instanceMethod ({ cls := "TrustChain$Rsa", name := "settle", desc := "([J)V" } : MethodName)) ∈ tb := tb_in (tm_5 (List.mem_of_getElem? (i := 207) rfl)) rfl
theorem q5_208 : (Cond.code ({ cls := "TrustChain$Rsa", name := "settle", desc := "([J)V" } : MethodName) prog_9_method_8_code (9 : Nat) none) ∈ tb := tb_in (tm_5 (List.mem_of_getElem? (i := 208) rfl)) rfl
theorem q5_209 : (Cond.methodLink "TrustChain$Rsa" (80 : Nat) ({ cls := "TrustChain$Rsa", name := "multiply", desc := "([J[J[J)V" } : MethodName)) ∈ tb := tb_in (tm_5 (List.mem_of_getElem? (i := 209) rfl)) rfl
theorem q5_211 : (Cond.instanceMethod ({ cls := "TrustChain$Rsa", name := "multiply", desc := "([J[J[J)V" } : MethodName)) ∈ tb := tb_in (tm_5 (List.mem_of_getElem? (i := 211) rfl)) rfl
theorem q5_212 : (Cond.code ({ cls := "TrustChain$Rsa", name := "multiply", desc := "([J[J[J)V" } : MethodName) prog_9_method_7_code (14 : Nat) none) ∈ tb := tb_in (tm_5 (List.mem_of_getElem? (i := 212) rfl)) rfl
theorem q5_213 : (Cond.methodLink "TrustChain$Rsa" (87 : Nat) ({ cls := "java/lang/System", name := "arraycopy", desc := "(Ljava/lang/Object;ILjava/lang/Object;II)V" } : MethodName)) ∈ tb := tb_in (tm_5 (List.mem_of_getElem? (i := 213) rfl)) rfl
theorem q5_214 : (Cond.methodLink "TrustChain$Rsa" (96 : Nat) ({ cls := "TrustChain$Rsa", name := "hasForm", desc := "([II)Z" } : MethodName)) ∈ tb := tb_in (tm_5 (List.mem_of_getElem? (i := 214) rfl)) rfl
theorem q5_216 : (Cond.instanceMethod ({ cls := "TrustChain$Rsa", name := "hasForm", desc := "([II)Z" } : MethodName)) ∈ tb := tb_in (tm_5 (List.mem_of_getElem? (i := 216) rfl)) rfl
theorem q5_217 : (Cond.code ({ cls := "TrustChain$Rsa", name := "hasForm", desc := "([II)Z" } : MethodName) prog_9_method_9_code (5 : Nat) (some FieldType.boolean)) ∈ tb := tb_in (tm_5 (List.mem_of_getElem? (i := 217) rfl)) rfl
theorem q5_218 : (Cond.methodLink "TrustChain$Rsa" (127 : Nat) ({ cls := "TrustChain$Rsa", name := "due", desc := "([III)I" } : MethodName)) ∈ tb := tb_in (tm_5 (List.mem_of_getElem? (i := 218) rfl)) rfl
theorem q5_219 : (Cond.static ({ cls := "TrustChain$Rsa", name := "due", desc := "([III)I" } : MethodName)) ∈ tb := tb_in (tm_5 (List.mem_of_getElem? (i := 219) rfl)) rfl
theorem q5_220 : (Cond.code ({ cls := "TrustChain$Rsa", name := "due", desc := "([III)I" } : MethodName) prog_9_method_10_code (4 : Nat) (some FieldType.int)) ∈ tb := tb_in (tm_5 (List.mem_of_getElem? (i := 220) rfl)) rfl
theorem q5_221 : (Cond.fieldLink "TrustChain$Rsa" (131 : Nat) "TrustChain$Rsa" "PREFIX" "[I") ∈ tb := tb_in (tm_5 (List.mem_of_getElem? (i := 221) rfl)) rfl
theorem q5_222 : (Cond.laysStatic "TrustChain$Rsa" "PREFIX" "[I") ∈ lw_tbl := tm_5 (List.mem_of_getElem? (i := 222) rfl)
theorem q5_223 : (Cond.methodLink "TrustChainLaw" (95 : Nat) ({ cls := "TrustChainLaw", name := "digest", desc := "(LTrustChain;II[J)I" } : MethodName)) ∈ tb := tb_in (tm_5 (List.mem_of_getElem? (i := 223) rfl)) rfl
theorem q5_224 : (Cond.static ({ cls := "TrustChainLaw", name := "digest", desc := "(LTrustChain;II[J)I" } : MethodName)) ∈ tb := tb_in (tm_5 (List.mem_of_getElem? (i := 224) rfl)) rfl
theorem q5_225 : (Cond.codeWith ({ cls := "TrustChainLaw", name := "digest", desc := "(LTrustChain;II[J)I" } : MethodName) method_10_code (5 : Nat) (some FieldType.int) [((0 : Nat), (10 : Nat), (13 : Nat), (13 : Nat))]) ∈ tb := tb_in (tm_5 (List.mem_of_getElem? (i := 225) rfl)) rfl
theorem q5_226 : (Cond.methodLink "TrustChainLaw" (40 : Nat) ({ cls := "TrustChain", name := "digest", desc := "(II)I" } : MethodName)) ∈ tb := tb_in (tm_5 (List.mem_of_getElem? (i := 226) rfl)) rfl
theorem q5_227 : (Cond.instanceMethod ({ cls := "TrustChain", name := "digest", desc := "(II)I" } : MethodName)) ∈ tb := tb_in (tm_5 (List.mem_of_getElem? (i := 227) rfl)) rfl
theorem q5_228 : (Cond.selects "TrustChain" ({ cls := "TrustChain", name := "digest", desc := "(II)I" } : MethodName) ({ cls := "TrustChain", name := "digest", desc := "(II)I" } : MethodName)) ∈ tb := tb_in (tm_5 (List.mem_of_getElem? (i := 228) rfl)) rfl
theorem q5_229 : (Cond.code ({ cls := "TrustChain", name := "digest", desc := "(II)I" } : MethodName) prog_1_method_10_code (3 : Nat) (some FieldType.int)) ∈ tb := tb_in (tm_5 (List.mem_of_getElem? (i := 229) rfl)) rfl
theorem q5_231 : (Cond.methodLink "TrustChainLaw" (100 : Nat) ({ cls := "TrustChainLaw", name := "validate", desc := "(LTrustChain;IJIZ[J)I" } : MethodName)) ∈ tb := tb_in (tm_5 (List.mem_of_getElem? (i := 231) rfl)) rfl
theorem q5_232 : (Cond.static ({ cls := "TrustChainLaw", name := "validate", desc := "(LTrustChain;IJIZ[J)I" } : MethodName)) ∈ tb := tb_in (tm_5 (List.mem_of_getElem? (i := 232) rfl)) rfl
theorem q5_233 : (Cond.codeWith ({ cls := "TrustChainLaw", name := "validate", desc := "(LTrustChain;IJIZ[J)I" } : MethodName) method_11_code (8 : Nat) (some FieldType.int) [((0 : Nat), (15 : Nat), (18 : Nat), (19 : Nat)), ((0 : Nat), (15 : Nat), (22 : Nat), (13 : Nat))]) ∈ tb := tb_in (tm_5 (List.mem_of_getElem? (i := 233) rfl)) rfl
theorem q5_234 : (Cond.methodLink "TrustChainLaw" (44 : Nat) ({ cls := "TrustChain", name := "validate", desc := "(IJIZ)I" } : MethodName)) ∈ tb := tb_in (tm_5 (List.mem_of_getElem? (i := 234) rfl)) rfl
theorem q5_235 : (Cond.instanceMethod ({ cls := "TrustChain", name := "validate", desc := "(IJIZ)I" } : MethodName)) ∈ tb := tb_in (tm_5 (List.mem_of_getElem? (i := 235) rfl)) rfl
theorem q5_236 : (Cond.selects "TrustChain" ({ cls := "TrustChain", name := "validate", desc := "(IJIZ)I" } : MethodName) ({ cls := "TrustChain", name := "validate", desc := "(IJIZ)I" } : MethodName)) ∈ tb := tb_in (tm_5 (List.mem_of_getElem? (i := 236) rfl)) rfl
theorem q5_237 : (Cond.code ({ cls := "TrustChain", name := "validate", desc := "(IJIZ)I" } : MethodName) prog_1_method_11_code (10 : Nat) (some FieldType.int)) ∈ tb := tb_in (tm_5 (List.mem_of_getElem? (i := 237) rfl)) rfl
theorem q5_239 : (Cond.methodLink "TrustChain" (203 : Nat) ({ cls := "TrustChain$PathCheck", name := "begin", desc := "(JZ)V" } : MethodName)) ∈ tb := tb_in (tm_5 (List.mem_of_getElem? (i := 239) rfl)) rfl
theorem q6_0 : (Cond.instanceMethod ({ cls := "TrustChain$PathCheck", name := "begin", desc := "(JZ)V" } : MethodName)) ∈ tb := tb_in (tm_6 (List.mem_of_getElem? (i := 0) rfl)) rfl
theorem q6_1 : (Cond.selects "TrustChain$PathCheck" ({ cls := "TrustChain$PathCheck", name := "begin", desc := "(JZ)V" } : MethodName) ({ cls := "TrustChain$PathCheck", name := "begin", desc := "(JZ)V" } : MethodName)) ∈ tb := tb_in (tm_6 (List.mem_of_getElem? (i := 1) rfl)) rfl
theorem q6_2 : (Cond.code ({ cls := "TrustChain$PathCheck", name := "begin", desc := "(JZ)V" } : MethodName) prog_7_method_2_code (4 : Nat) none) ∈ tb := tb_in (tm_6 (List.mem_of_getElem? (i := 2) rfl)) rfl
theorem q6_3 : (Cond.methodLink "TrustChain" (207 : Nat) ({ cls := "TrustChain$Search", name := "begin", desc := "(Ljava/util/ArrayList;LTrustChain$Certificate;I)Z" } : MethodName)) ∈ tb := tb_in (tm_6 (List.mem_of_getElem? (i := 3) rfl)) rfl
theorem q6_4 : (Cond.instanceMethod ({ cls := "TrustChain$Search", name := "begin", desc := "(Ljava/util/ArrayList;LTrustChain$Certificate;I)Z" } : MethodName)) ∈ tb := tb_in (tm_6 (List.mem_of_getElem? (i := 4) rfl)) rfl
theorem q6_5 : (Cond.selects "TrustChain$Search" ({ cls := "TrustChain$Search", name := "begin", desc := "(Ljava/util/ArrayList;LTrustChain$Certificate;I)Z" } : MethodName) ({ cls := "TrustChain$Search", name := "begin", desc := "(Ljava/util/ArrayList;LTrustChain$Certificate;I)Z" } : MethodName)) ∈ tb := tb_in (tm_6 (List.mem_of_getElem? (i := 5) rfl)) rfl
theorem q6_6 : (Cond.code ({ cls := "TrustChain$Search", name := "begin", desc := "(Ljava/util/ArrayList;LTrustChain$Certificate;I)Z" } : MethodName) prog_10_method_2_code (4 : Nat) (some FieldType.boolean)) ∈ tb := tb_in (tm_6 (List.mem_of_getElem? (i := 6) rfl)) rfl
theorem q6_7 : (Cond.methodLink "TrustChain$Search" (32 : Nat) ({ cls := "java/util/ArrayList", name := "clear", desc := "()V" } : MethodName)) ∈ tb := tb_in (tm_6 (List.mem_of_getElem? (i := 7) rfl)) rfl
theorem q6_8 : (Cond.methodLink "TrustChain$Search" (35 : Nat) ({ cls := "java/lang/Math", name := "min", desc := "(II)I" } : MethodName)) ∈ tb := tb_in (tm_6 (List.mem_of_getElem? (i := 8) rfl)) rfl
theorem q6_9 : (Cond.methodLink "TrustChain$Search" (41 : Nat) ({ cls := "TrustChain$Search", name := "put", desc := "(LTrustChain$Certificate;)V" } : MethodName)) ∈ tb := tb_in (tm_6 (List.mem_of_getElem? (i := 9) rfl)) rfl
theorem q6_11 : (Cond.instanceMethod ({ cls := "TrustChain$Search", name := "put", desc := "(LTrustChain$Certificate;)V" } : MethodName)) ∈ tb := tb_in (tm_6 (List.mem_of_getElem? (i := 11) rfl)) rfl
theorem q6_12 : (Cond.code ({ cls := "TrustChain$Search", name := "put", desc := "(LTrustChain$Certificate;)V" } : MethodName) prog_10_method_4_code (2 : Nat) none) ∈ tb := tb_in (tm_6 (List.mem_of_getElem? (i := 12) rfl)) rfl
theorem q6_13 : (Cond.methodLink "TrustChain$Search" (59 : Nat) ({ cls := "java/util/ArrayList", name := "size", desc := "()I" } : MethodName)) ∈ tb := tb_in (tm_6 (List.mem_of_getElem? (i := 13) rfl)) rfl
theorem q6_14 : (Cond.methodLink "TrustChain$Search" (74 : Nat) ({ cls := "java/util/ArrayList", name := "add", desc := "(Ljava/lang/Object;)Z" } : MethodName)) ∈ tb := tb_in (tm_6 (List.mem_of_getElem? (i := 14) rfl)) rfl
theorem q6_15 : (Cond.methodLink "TrustChain$Search" (51 : Nat) ({ cls := "TrustChain$Search", name := "advance", desc := "(Ljava/util/ArrayList;)Z" } : MethodName)) ∈ tb := tb_in (tm_6 (List.mem_of_getElem? (i := 15) rfl)) rfl
theorem q6_16 : (Cond.instanceMethod ({ cls := "TrustChain$Search", name := "advance", desc := "(Ljava/util/ArrayList;)Z" } : MethodName)) ∈ tb := tb_in (tm_6 (List.mem_of_getElem? (i := 16) rfl)) rfl
theorem q6_17 : (Cond.selects "TrustChain$Search" ({ cls := "TrustChain$Search", name := "advance", desc := "(Ljava/util/ArrayList;)Z" } : MethodName) ({ cls := "TrustChain$Search", name := "advance", desc := "(Ljava/util/ArrayList;)Z" } : MethodName)) ∈ tb := tb_in (tm_6 (List.mem_of_getElem? (i := 17) rfl)) rfl
theorem q6_18 : (Cond.code ({ cls := "TrustChain$Search", name := "advance", desc := "(Ljava/util/ArrayList;)Z" } : MethodName) prog_10_method_3_code (4 : Nat) (some FieldType.boolean)) ∈ tb := tb_in (tm_6 (List.mem_of_getElem? (i := 18) rfl)) rfl
theorem q6_19 : (Cond.methodLink "TrustChain$Search" (55 : Nat) ({ cls := "java/util/ArrayList", name := "isEmpty", desc := "()Z" } : MethodName)) ∈ tb := tb_in (tm_6 (List.mem_of_getElem? (i := 19) rfl)) rfl
theorem q6_20 : (Cond.instanceMethod ({ cls := "java/util/ArrayList", name := "isEmpty", desc := "()Z" } : MethodName)) ∈ tb := tb_in (tm_6 (List.mem_of_getElem? (i := 20) rfl)) rfl
theorem q6_21 : (Cond.selects "java/util/ArrayList" ({ cls := "java/util/ArrayList", name := "isEmpty", desc := "()Z" } : MethodName) ({ cls := "java/util/ArrayList", name := "isEmpty", desc := "()Z" } : MethodName)) ∈ tb := tb_in (tm_6 (List.mem_of_getElem? (i := 21) rfl)) rfl
theorem q6_22 : (Cond.code ({ cls := "java/util/ArrayList", name := "isEmpty", desc := "()Z" } : MethodName) prog_32_method_9_code (1 : Nat) (some FieldType.boolean)) ∈ tb := tb_in (tm_6 (List.mem_of_getElem? (i := 22) rfl)) rfl
theorem q6_23 : (Cond.methodLink "TrustChain$Search" (63 : Nat) ({ cls := "TrustChain$Search", name := "nextCandidate", desc := "(I)I" } : MethodName)) ∈ tb := tb_in (tm_6 (List.mem_of_getElem? (i := 23) rfl)) rfl
theorem q6_25 : (Cond.instanceMethod ({ cls := "TrustChain$Search", name := "nextCandidate", desc := "(I)I" } : MethodName)) ∈ tb := tb_in (tm_6 (List.mem_of_getElem? (i := 25) rfl)) rfl
theorem q6_26 : (Cond.code ({ cls := "TrustChain$Search", name := "nextCandidate", desc := "(I)I" } : MethodName) prog_10_method_6_code (5 : Nat) (some FieldType.int)) ∈ tb := tb_in (tm_6 (List.mem_of_getElem? (i := 26) rfl)) rfl
theorem q6_27 : (Cond.methodLink "TrustChain$Search" (70 : Nat) ({ cls := "java/util/ArrayList", name := "get", desc := "(I)Ljava/lang/Object;" } : MethodName)) ∈ tb := tb_in (tm_6 (List.mem_of_getElem? (i := 27) rfl)) rfl
theorem q6_28 : (Cond.classLink "TrustChain$Search" (46 : Nat) "TrustChain$Certificate") ∈ tb := tb_in (tm_6 (List.mem_of_getElem? (i := 28) rfl)) rfl
theorem q6_29 : (Cond.methodLink "TrustChain$Search" (67 : Nat) ({ cls := "TrustChain$Search", name := "takeOff", desc := "()V" } : MethodName)) ∈ tb := tb_in (tm_6 (List.mem_of_getElem? (i := 29) rfl)) rfl
theorem q6_31 : (Cond.instanceMethod ({ cls := "TrustChain$Search", name := "takeOff", desc := "()V" } : MethodName)) ∈ tb := tb_in (tm_6 (List.mem_of_getElem? (i := 31) rfl)) rfl
theorem q6_32 : (Cond.code ({ cls := "TrustChain$Search", name := "takeOff", desc := "()V" } : MethodName) prog_10_method_5_code (1 : Nat) none) ∈ tb := tb_in (tm_6 (List.mem_of_getElem? (i := 32) rfl)) rfl
theorem q6_33 : (Cond.methodLink "TrustChain$Search" (81 : Nat) ({ cls := "java/util/ArrayList", name := "remove", desc := "(I)Ljava/lang/Object;" } : MethodName)) ∈ tb := tb_in (tm_6 (List.mem_of_getElem? (i := 33) rfl)) rfl
theorem q6_34 : (Cond.instanceMethod ({ cls := "java/util/ArrayList", name := "remove", desc := "(I)Ljava/lang/Object;" } : MethodName)) ∈ tb := tb_in (tm_6 (List.mem_of_getElem? (i := 34) rfl)) rfl
theorem q6_35 : (Cond.selects "java/util/ArrayList" ({ cls := "java/util/ArrayList", name := "remove", desc := "(I)Ljava/lang/Object;" } : MethodName) ({ cls := "java/util/ArrayList", name := "remove", desc := "(I)Ljava/lang/Object;" } : MethodName)) ∈ tb := tb_in (tm_6 (List.mem_of_getElem? (i := 35) rfl)) rfl
theorem q6_36 : (Cond.code ({ cls := "java/util/ArrayList", name := "remove", desc := "(I)Ljava/lang/Object;" } : MethodName) prog_32_method_29_code (4 : Nat) (some (FieldType.object "java/lang/Object"))) ∈ tb := tb_in (tm_6 (List.mem_of_getElem? (i := 36) rfl)) rfl
theorem q6_37 : (Cond.methodLink "java/util/ArrayList" (144 : Nat) ({ cls := "java/util/ArrayList", name := "fastRemove", desc := "([Ljava/lang/Object;I)V" } : MethodName)) ∈ tb := tb_in (tm_6 (List.mem_of_getElem? (i := 37) rfl)) rfl
theorem q6_39 : (Cond.instanceMethod ({ cls := "java/util/ArrayList", name := "fastRemove", desc := "([Ljava/lang/Object;I)V" } : MethodName)) ∈ tb := tb_in (tm_6 (List.mem_of_getElem? (i := 39) rfl)) rfl
theorem q6_40 : (Cond.code ({ cls := "java/util/ArrayList", name := "fastRemove", desc := "([Ljava/lang/Object;I)V" } : MethodName) prog_32_method_39_code (4 : Nat) none) ∈ tb := tb_in (tm_6 (List.mem_of_getElem? (i := 40) rfl)) rfl
theorem q6_42 : (Cond.methodLink "TrustChain" (213 : Nat) ({ cls := "TrustChain$PathCheck", name := "faultOf", desc := "(Ljava/util/ArrayList;Ljava/util/ArrayList;LTrustChain$Rsa;)I" } : MethodName)) ∈ tb := tb_in (tm_6 (List.mem_of_getElem? (i := 42) rfl)) rfl
theorem q6_43 : (Cond.instanceMethod ({ cls := "TrustChain$PathCheck", name := "faultOf", desc := "(Ljava/util/ArrayList;Ljava/util/ArrayList;LTrustChain$Rsa;)I" } : MethodName)) ∈ tb := tb_in (tm_6 (List.mem_of_getElem? (i := 43) rfl)) rfl
theorem q6_44 : (Cond.selects "TrustChain$PathCheck" ({ cls := "TrustChain$PathCheck", name := "faultOf", desc := "(Ljava/util/ArrayList;Ljava/util/ArrayList;LTrustChain$Rsa;)I" } : MethodName) ({ cls := "TrustChain$PathCheck", name := "faultOf", desc := "(Ljava/util/ArrayList;Ljava/util/ArrayList;LTrustChain$Rsa;)I" } : MethodName)) ∈ tb := tb_in (tm_6 (List.mem_of_getElem? (i := 44) rfl)) rfl
theorem q6_45 : (Cond.code ({ cls := "TrustChain$PathCheck", name := "faultOf", desc := "(Ljava/util/ArrayList;Ljava/util/ArrayList;LTrustChain$Rsa;)I" } : MethodName) prog_7_method_3_code (6 : Nat) (some FieldType.int)) ∈ tb := tb_in (tm_6 (List.mem_of_getElem? (i := 45) rfl)) rfl
theorem q6_46 : (Cond.methodLink "TrustChain$PathCheck" (26 : Nat) ({ cls := "java/util/ArrayList", name := "size", desc := "()I" } : MethodName)) ∈ tb := tb_in (tm_6 (List.mem_of_getElem? (i := 46) rfl)) rfl
theorem q6_47 : (Cond.methodLink "TrustChain$PathCheck" (32 : Nat) ({ cls := "TrustChain$PathCheck", name := "faultAt", desc := "(Ljava/util/ArrayList;ILjava/util/ArrayList;LTrustChain$Rsa;)I" } : MethodName)) ∈ tb := tb_in (tm_6 (List.mem_of_getElem? (i := 47) rfl)) rfl
theorem q6_49 : (Cond.instanceMethod ({ cls := "TrustChain$PathCheck", name := "faultAt", desc := "(Ljava/util/ArrayList;ILjava/util/ArrayList;LTrustChain$Rsa;)I" } : MethodName)) ∈ tb := tb_in (tm_6 (List.mem_of_getElem? (i := 49) rfl)) rfl
theorem q6_50 : (Cond.code ({ cls := "TrustChain$PathCheck", name := "faultAt", desc := "(Ljava/util/ArrayList;ILjava/util/ArrayList;LTrustChain$Rsa;)I" } : MethodName) prog_7_method_4_code (7 : Nat) (some FieldType.int)) ∈ tb := tb_in (tm_6 (List.mem_of_getElem? (i := 50) rfl)) rfl
theorem q6_51 : (Cond.methodLink "TrustChain$PathCheck" (36 : Nat) ({ cls := "java/util/ArrayList", name := "get", desc := "(I)Ljava/lang/Object;" } : MethodName)) ∈ tb := tb_in (tm_6 (List.mem_of_getElem? (i := 51) rfl)) rfl
theorem q6_52 : (Cond.classLink "TrustChain$PathCheck" (40 : Nat) "TrustChain$Certificate") ∈ tb := tb_in (tm_6 (List.mem_of_getElem? (i := 52) rfl)) rfl
theorem q6_53 : (Cond.methodLink "TrustChain$PathCheck" (42 : Nat) ({ cls := "TrustChain$Rsa", name := "isSigned", desc := "(LTrustChain$Paper;LTrustChain$Certificate;)Z" } : MethodName)) ∈ tb := tb_in (tm_6 (List.mem_of_getElem? (i := 53) rfl)) rfl
theorem q6_54 : (Cond.methodLink "TrustChain$PathCheck" (48 : Nat) ({ cls := "TrustChain$Certificate", name := "isAt", desc := "(J)Z" } : MethodName)) ∈ tb := tb_in (tm_6 (List.mem_of_getElem? (i := 54) rfl)) rfl
theorem q6_55 : (Cond.sameMethod "TrustChain$Certificate" "TrustChain$Paper" "isAt" "(J)Z") ∈ tb := tb_in (tm_6 (List.mem_of_getElem? (i := 55) rfl)) rfl
theorem q6_56 : (Cond.declares ({ cls := "TrustChain$Paper", name := "isAt", desc := "(J)Z" } : MethodName)) ∈ lw_tbl := tm_6 (List.mem_of_getElem? (i := 56) rfl)
theorem q6_57 : (Cond.selects "TrustChain$Certificate" ({ cls := "TrustChain$Certificate", name := "isAt", desc := "(J)Z" } : MethodName) ({ cls := "TrustChain$Paper", name := "isAt", desc := "(J)Z" } : MethodName)) ∈ tb := tb_in (tm_6 (List.mem_of_getElem? (i := 57) rfl)) rfl
theorem q6_58 : (Cond.instanceMethod ({ cls := "TrustChain$Paper", name := "isAt", desc := "(J)Z" } : MethodName)) ∈ tb := tb_in (tm_6 (List.mem_of_getElem? (i := 58) rfl)) rfl
theorem q6_59 : (Cond.code ({ cls := "TrustChain$Paper", name := "isAt", desc := "(J)Z" } : MethodName) prog_6_method_2_code (3 : Nat) (some FieldType.boolean)) ∈ tb := tb_in (tm_6 (List.mem_of_getElem? (i := 59) rfl)) rfl
theorem q6_60 : (Cond.methodLink "TrustChain$PathCheck" (52 : Nat) ({ cls := "TrustChain$PathCheck", name := "isRevoked", desc := "(LTrustChain$Certificate;LTrustChain$Certificate;Ljava/util/ArrayList;LTrustChain$Rsa;)Z" } : MethodName)) ∈ tb := tb_in (tm_6 (List.mem_of_getElem? (i := 60) rfl)) rfl
theorem q6_62 : (Cond.instanceMethod ({ cls := "TrustChain$PathCheck", name := "isRevoked", desc := "(LTrustChain$Certificate;LTrustChain$Certificate;Ljava/util/ArrayList;LTrustChain$Rsa;)Z" } : MethodName)) ∈ tb := tb_in (tm_6 (List.mem_of_getElem? (i := 62) rfl)) rfl
theorem q6_63 : (Cond.code ({ cls := "TrustChain$PathCheck", name := "isRevoked", desc := "(LTrustChain$Certificate;LTrustChain$Certificate;Ljava/util/ArrayList;LTrustChain$Rsa;)Z" } : MethodName) prog_7_method_6_code (9 : Nat) (some FieldType.boolean)) ∈ tb := tb_in (tm_6 (List.mem_of_getElem? (i := 63) rfl)) rfl
theorem q6_64 : (Cond.classLink "TrustChain$PathCheck" (80 : Nat) "TrustChain$Paper") ∈ tb := tb_in (tm_6 (List.mem_of_getElem? (i := 64) rfl)) rfl
theorem q6_65 : (Cond.methodLink "TrustChain$PathCheck" (82 : Nat) ({ cls := "TrustChain$Paper", name := "isAt", desc := "(J)Z" } : MethodName)) ∈ tb := tb_in (tm_6 (List.mem_of_getElem? (i := 65) rfl)) rfl
theorem q6_66 : (Cond.methodLink "TrustChain$PathCheck" (76 : Nat) ({ cls := "TrustChain$Certificate", name := "mayUse", desc := "(I)Z" } : MethodName)) ∈ tb := tb_in (tm_6 (List.mem_of_getElem? (i := 66) rfl)) rfl
theorem q6_67 : (Cond.instanceMethod ({ cls := "TrustChain$Certificate", name := "mayUse", desc := "(I)Z" } : MethodName)) ∈ tb := tb_in (tm_6 (List.mem_of_getElem? (i := 67) rfl)) rfl
theorem q6_68 : (Cond.selects "TrustChain$Certificate" ({ cls := "TrustChain$Certificate", name := "mayUse", desc := "(I)Z" } : MethodName) ({ cls := "TrustChain$Certificate", name := "mayUse", desc := "(I)Z" } : MethodName)) ∈ tb := tb_in (tm_6 (List.mem_of_getElem? (i := 68) rfl)) rfl
theorem q6_69 : (Cond.code ({ cls := "TrustChain$Certificate", name := "mayUse", desc := "(I)Z" } : MethodName) prog_2_method_3_code (2 : Nat) (some FieldType.boolean)) ∈ tb := tb_in (tm_6 (List.mem_of_getElem? (i := 69) rfl)) rfl
theorem q6_70 : (Cond.methodLink "TrustChain$PathCheck" (89 : Nat) ({ cls := "TrustChain$Slice", name := "same", desc := "(LTrustChain$Slice;)Z" } : MethodName)) ∈ tb := tb_in (tm_6 (List.mem_of_getElem? (i := 70) rfl)) rfl
theorem q6_71 : (Cond.methodLink "TrustChain$PathCheck" (98 : Nat) ({ cls := "TrustChain$Paper", name := "hasEntry", desc := "(LTrustChain$Slice;)Z" } : MethodName)) ∈ tb := tb_in (tm_6 (List.mem_of_getElem? (i := 71) rfl)) rfl
theorem q6_72 : (Cond.instanceMethod ({ cls := "TrustChain$Paper", name := "hasEntry", desc := "(LTrustChain$Slice;)Z" } : MethodName)) ∈ tb := tb_in (tm_6 (List.mem_of_getElem? (i := 72) rfl)) rfl
theorem q6_73 : (Cond.selects "TrustChain$Paper" ({ cls := "TrustChain$Paper", name := "hasEntry", desc := "(LTrustChain$Slice;)Z" } : MethodName) ({ cls := "TrustChain$Paper", name := "hasEntry", desc := "(LTrustChain$Slice;)Z" } : MethodName)) ∈ tb := tb_in (tm_6 (List.mem_of_getElem? (i := 73) rfl)) rfl
theorem q6_76 : (Cond.code ({ cls := "TrustChain$Paper", name := "hasEntry", desc := "(LTrustChain$Slice;)Z" } : MethodName) prog_6_method_3_code (3 : Nat) (some FieldType.boolean)) ∈ tb := tb_in (tm_6 (List.mem_of_getElem? (i := 76) rfl)) rfl
theorem q6_77 : (Cond.methodLink "TrustChain$Paper" (46 : Nat) ({ cls := "java/util/ArrayList", name := "size", desc := "()I" } : MethodName)) ∈ tb := tb_in (tm_6 (List.mem_of_getElem? (i := 77) rfl)) rfl
theorem q6_78 : (Cond.methodLink "TrustChain$Paper" (50 : Nat) ({ cls := "java/util/ArrayList", name := "get", desc := "(I)Ljava/lang/Object;" } : MethodName)) ∈ tb := tb_in (tm_6 (List.mem_of_getElem? (i := 78) rfl)) rfl
theorem q6_79 : (Cond.classLink "TrustChain$Paper" (54 : Nat) "TrustChain$Slice") ∈ tb := tb_in (tm_6 (List.mem_of_getElem? (i := 79) rfl)) rfl
theorem q6_80 : (Cond.methodLink "TrustChain$Paper" (56 : Nat) ({ cls := "TrustChain$Slice", name := "same", desc := "(LTrustChain$Slice;)Z" } : MethodName)) ∈ tb := tb_in (tm_6 (List.mem_of_getElem? (i := 80) rfl)) rfl
theorem q6_81 : (Cond.methodLink "TrustChain$PathCheck" (59 : Nat) ({ cls := "TrustChain$PathCheck", name := "isNameAllowed", desc := "(Ljava/util/ArrayList;I)Z" } : MethodName)) ∈ tb := tb_in (tm_6 (List.mem_of_getElem? (i := 81) rfl)) rfl
theorem q6_82 : (Cond.static ({ cls := "TrustChain$PathCheck", name := "isNameAllowed", desc := "(Ljava/util/ArrayList;I)Z" } : MethodName)) ∈ tb := tb_in (tm_6 (List.mem_of_getElem? (i := 82) rfl)) rfl
theorem q6_83 : (Cond.code ({ cls := "TrustChain$PathCheck", name := "isNameAllowed", desc := "(Ljava/util/ArrayList;I)Z" } : MethodName) prog_7_method_7_code (6 : Nat) (some FieldType.boolean)) ∈ tb := tb_in (tm_6 (List.mem_of_getElem? (i := 83) rfl)) rfl
theorem q6_84 : (Cond.methodLink "TrustChain$PathCheck" (107 : Nat) ({ cls := "TrustChain$Certificate", name := "allowsDirectory", desc := "(LTrustChain$Slice;)Z" } : MethodName)) ∈ tb := tb_in (tm_6 (List.mem_of_getElem? (i := 84) rfl)) rfl
theorem q6_85 : (Cond.instanceMethod ({ cls := "TrustChain$Certificate", name := "allowsDirectory", desc := "(LTrustChain$Slice;)Z" } : MethodName)) ∈ tb := tb_in (tm_6 (List.mem_of_getElem? (i := 85) rfl)) rfl
theorem q6_86 : (Cond.selects "TrustChain$Certificate" ({ cls := "TrustChain$Certificate", name := "allowsDirectory", desc := "(LTrustChain$Slice;)Z" } : MethodName) ({ cls := "TrustChain$Certificate", name := "allowsDirectory", desc := "(LTrustChain$Slice;)Z" } : MethodName)) ∈ tb := tb_in (tm_6 (List.mem_of_getElem? (i := 86) rfl)) rfl
theorem q6_87 : (Cond.code ({ cls := "TrustChain$Certificate", name := "allowsDirectory", desc := "(LTrustChain$Slice;)Z" } : MethodName) prog_2_method_4_code (3 : Nat) (some FieldType.boolean)) ∈ tb := tb_in (tm_6 (List.mem_of_getElem? (i := 87) rfl)) rfl
theorem q6_88 : (Cond.methodLink "TrustChain$Certificate" (94 : Nat) ({ cls := "java/util/ArrayList", name := "isEmpty", desc := "()Z" } : MethodName)) ∈ tb := tb_in (tm_6 (List.mem_of_getElem? (i := 88) rfl)) rfl
theorem q6_89 : (Cond.methodLink "TrustChain$Certificate" (100 : Nat) ({ cls := "TrustChain$NameSet", name := "holdsDirectoryTreeOf", desc := "(LTrustChain$Slice;)Z" } : MethodName)) ∈ tb := tb_in (tm_6 (List.mem_of_getElem? (i := 89) rfl)) rfl
theorem q6_90 : (Cond.instanceMethod ({ cls := "TrustChain$NameSet", name := "holdsDirectoryTreeOf", desc := "(LTrustChain$Slice;)Z" } : MethodName)) ∈ tb := tb_in (tm_6 (List.mem_of_getElem? (i := 90) rfl)) rfl
theorem q6_91 : (Cond.selects "TrustChain$NameSet" ({ cls := "TrustChain$NameSet", name := "holdsDirectoryTreeOf", desc := "(LTrustChain$Slice;)Z" } : MethodName) ({ cls := "TrustChain$NameSet", name := "holdsDirectoryTreeOf", desc := "(LTrustChain$Slice;)Z" } : MethodName)) ∈ tb := tb_in (tm_6 (List.mem_of_getElem? (i := 91) rfl)) rfl
theorem q6_92 : (Cond.code ({ cls := "TrustChain$NameSet", name := "holdsDirectoryTreeOf", desc := "(LTrustChain$Slice;)Z" } : MethodName) prog_5_method_2_code (3 : Nat) (some FieldType.boolean)) ∈ tb := tb_in (tm_6 (List.mem_of_getElem? (i := 92) rfl)) rfl
theorem q6_93 : (Cond.methodLink "TrustChain$NameSet" (21 : Nat) ({ cls := "java/util/ArrayList", name := "size", desc := "()I" } : MethodName)) ∈ tb := tb_in (tm_6 (List.mem_of_getElem? (i := 93) rfl)) rfl
theorem q6_94 : (Cond.methodLink "TrustChain$NameSet" (25 : Nat) ({ cls := "java/util/ArrayList", name := "get", desc := "(I)Ljava/lang/Object;" } : MethodName)) ∈ tb := tb_in (tm_6 (List.mem_of_getElem? (i := 94) rfl)) rfl
theorem q6_95 : (Cond.classLink "TrustChain$NameSet" (29 : Nat) "TrustChain$Slice") ∈ tb := tb_in (tm_6 (List.mem_of_getElem? (i := 95) rfl)) rfl
theorem q6_96 : (Cond.methodLink "TrustChain$NameSet" (31 : Nat) ({ cls := "TrustChain$Slice", name := "beginsWith", desc := "(LTrustChain$Slice;)Z" } : MethodName)) ∈ tb := tb_in (tm_6 (List.mem_of_getElem? (i := 96) rfl)) rfl
theorem q6_97 : (Cond.classLink "TrustChain$PathCheck" (90 : Nat) "TrustChain$Slice") ∈ tb := tb_in (tm_6 (List.mem_of_getElem? (i := 97) rfl)) rfl
theorem q6_98 : (Cond.methodLink "TrustChain$PathCheck" (123 : Nat) ({ cls := "TrustChain$Certificate", name := "allowsDns", desc := "(LTrustChain$Slice;)Z" } : MethodName)) ∈ tb := tb_in (tm_6 (List.mem_of_getElem? (i := 98) rfl)) rfl
theorem q6_99 : (Cond.instanceMethod ({ cls := "TrustChain$Certificate", name := "allowsDns", desc := "(LTrustChain$Slice;)Z" } : MethodName)) ∈ tb := tb_in (tm_6 (List.mem_of_getElem? (i := 99) rfl)) rfl
theorem q6_100 : (Cond.selects "TrustChain$Certificate" ({ cls := "TrustChain$Certificate", name := "allowsDns", desc := "(LTrustChain$Slice;)Z" } : MethodName) ({ cls := "TrustChain$Certificate", name := "allowsDns", desc := "(LTrustChain$Slice;)Z" } : MethodName)) ∈ tb := tb_in (tm_6 (List.mem_of_getElem? (i := 100) rfl)) rfl
theorem q6_101 : (Cond.code ({ cls := "TrustChain$Certificate", name := "allowsDns", desc := "(LTrustChain$Slice;)Z" } : MethodName) prog_2_method_5_code (3 : Nat) (some FieldType.boolean)) ∈ tb := tb_in (tm_6 (List.mem_of_getElem? (i := 101) rfl)) rfl
theorem q6_102 : (Cond.methodLink "TrustChain$Certificate" (106 : Nat) ({ cls := "TrustChain$NameSet", name := "holdsDnsTreeOf", desc := "(LTrustChain$Slice;)Z" } : MethodName)) ∈ tb := tb_in (tm_6 (List.mem_of_getElem? (i := 102) rfl)) rfl
theorem q6_103 : (Cond.instanceMethod ({ cls := "TrustChain$NameSet", name := "holdsDnsTreeOf", desc := "(LTrustChain$Slice;)Z" } : MethodName)) ∈ tb := tb_in (tm_6 (List.mem_of_getElem? (i := 103) rfl)) rfl
theorem q6_104 : (Cond.selects "TrustChain$NameSet" ({ cls := "TrustChain$NameSet", name := "holdsDnsTreeOf", desc := "(LTrustChain$Slice;)Z" } : MethodName) ({ cls := "TrustChain$NameSet", name := "holdsDnsTreeOf", desc := "(LTrustChain$Slice;)Z" } : MethodName)) ∈ tb := tb_in (tm_6 (List.mem_of_getElem? (i := 104) rfl)) rfl
theorem q6_105 : (Cond.code ({ cls := "TrustChain$NameSet", name := "holdsDnsTreeOf", desc := "(LTrustChain$Slice;)Z" } : MethodName) prog_5_method_3_code (6 : Nat) (some FieldType.boolean)) ∈ tb := tb_in (tm_6 (List.mem_of_getElem? (i := 105) rfl)) rfl
theorem q6_106 : (Cond.methodLink "TrustChain$NameSet" (35 : Nat) ({ cls := "TrustChain$Slice", name := "length", desc := "()I" } : MethodName)) ∈ tb := tb_in (tm_6 (List.mem_of_getElem? (i := 106) rfl)) rfl
theorem q6_107 : (Cond.methodLink "TrustChain$NameSet" (38 : Nat) ({ cls := "TrustChain$Slice", name := "at", desc := "(I)I" } : MethodName)) ∈ tb := tb_in (tm_6 (List.mem_of_getElem? (i := 107) rfl)) rfl
theorem q6_108 : (Cond.methodLink "TrustChain$NameSet" (42 : Nat) ({ cls := "TrustChain$Slice", name := "sharesTail", desc := "(LTrustChain$Slice;I)Z" } : MethodName)) ∈ tb := tb_in (tm_6 (List.mem_of_getElem? (i := 108) rfl)) rfl
theorem q6_109 : (Cond.instanceMethod ({ cls := "TrustChain$Slice", name := "sharesTail", desc := "(LTrustChain$Slice;I)Z" } : MethodName)) ∈ tb := tb_in (tm_6 (List.mem_of_getElem? (i := 109) rfl)) rfl
theorem q6_110 : (Cond.selects "TrustChain$Slice" ({ cls := "TrustChain$Slice", name := "sharesTail", desc := "(LTrustChain$Slice;I)Z" } : MethodName) ({ cls := "TrustChain$Slice", name := "sharesTail", desc := "(LTrustChain$Slice;I)Z" } : MethodName)) ∈ tb := tb_in (tm_6 (List.mem_of_getElem? (i := 110) rfl)) rfl
theorem q6_111 : (Cond.code ({ cls := "TrustChain$Slice", name := "sharesTail", desc := "(LTrustChain$Slice;I)Z" } : MethodName) prog_12_method_6_code (4 : Nat) (some FieldType.boolean)) ∈ tb := tb_in (tm_6 (List.mem_of_getElem? (i := 111) rfl)) rfl
theorem q6_112 : (Cond.methodLink "TrustChain$Slice" (34 : Nat) ({ cls := "TrustChain$Slice", name := "lower", desc := "(I)I" } : MethodName)) ∈ tb := tb_in (tm_6 (List.mem_of_getElem? (i := 112) rfl)) rfl
theorem q6_113 : (Cond.static ({ cls := "TrustChain$Slice", name := "lower", desc := "(I)I" } : MethodName)) ∈ tb := tb_in (tm_6 (List.mem_of_getElem? (i := 113) rfl)) rfl
theorem q6_114 : (Cond.code ({ cls := "TrustChain$Slice", name := "lower", desc := "(I)I" } : MethodName) prog_12_method_9_code (1 : Nat) (some FieldType.int)) ∈ tb := tb_in (tm_6 (List.mem_of_getElem? (i := 114) rfl)) rfl
theorem q6_115 : (Cond.methodLink "TrustChain$PathCheck" (66 : Nat) ({ cls := "TrustChain$PathCheck", name := "faultAsIssuer", desc := "(Ljava/util/ArrayList;I)I" } : MethodName)) ∈ tb := tb_in (tm_6 (List.mem_of_getElem? (i := 115) rfl)) rfl
theorem q6_117 : (Cond.instanceMethod ({ cls := "TrustChain$PathCheck", name := "faultAsIssuer", desc := "(Ljava/util/ArrayList;I)I" } : MethodName)) ∈ tb := tb_in (tm_6 (List.mem_of_getElem? (i := 117) rfl)) rfl
theorem q6_118 : (Cond.code ({ cls := "TrustChain$PathCheck", name := "faultAsIssuer", desc := "(Ljava/util/ArrayList;I)I" } : MethodName) prog_7_method_5_code (4 : Nat) (some FieldType.int)) ∈ tb := tb_in (tm_6 (List.mem_of_getElem? (i := 118) rfl)) rfl
theorem q6_119 : (Cond.methodLink "TrustChain$PathCheck" (73 : Nat) ({ cls := "TrustChain$PathCheck", name := "isTooFarDown", desc := "(Ljava/util/ArrayList;I)Z" } : MethodName)) ∈ tb := tb_in (tm_6 (List.mem_of_getElem? (i := 119) rfl)) rfl
theorem q6_120 : (Cond.static ({ cls := "TrustChain$PathCheck", name := "isTooFarDown", desc := "(Ljava/util/ArrayList;I)Z" } : MethodName)) ∈ tb := tb_in (tm_6 (List.mem_of_getElem? (i := 120) rfl)) rfl
theorem q6_121 : (Cond.code ({ cls := "TrustChain$PathCheck", name := "isTooFarDown", desc := "(Ljava/util/ArrayList;I)Z" } : MethodName) prog_7_method_8_code (5 : Nat) (some FieldType.boolean)) ∈ tb := tb_in (tm_6 (List.mem_of_getElem? (i := 121) rfl)) rfl
theorem q6_122 : (Cond.methodLink "TrustChain" (218 : Nat) ({ cls := "TrustChain", name := "keepPath", desc := "()V" } : MethodName)) ∈ tb := tb_in (tm_6 (List.mem_of_getElem? (i := 122) rfl)) rfl
theorem q6_124 : (Cond.instanceMethod ({ cls := "TrustChain", name := "keepPath", desc := "()V" } : MethodName)) ∈ tb := tb_in (tm_6 (List.mem_of_getElem? (i := 124) rfl)) rfl
theorem q6_125 : (Cond.code ({ cls := "TrustChain", name := "keepPath", desc := "()V" } : MethodName) prog_1_method_22_code (2 : Nat) none) ∈ tb := tb_in (tm_6 (List.mem_of_getElem? (i := 125) rfl)) rfl
theorem q6_126 : (Cond.methodLink "TrustChain" (261 : Nat) ({ cls := "java/lang/Math", name := "min", desc := "(II)I" } : MethodName)) ∈ tb := tb_in (tm_6 (List.mem_of_getElem? (i := 126) rfl)) rfl
theorem q6_127 : (Cond.methodLink "TrustChain" (221 : Nat) ({ cls := "TrustChain$Search", name := "advance", desc := "(Ljava/util/ArrayList;)Z" } : MethodName)) ∈ tb := tb_in (tm_6 (List.mem_of_getElem? (i := 127) rfl)) rfl
theorem q6_128 : (Cond.methodLink "TrustChainLaw" (104 : Nat) ({ cls := "TrustChainLaw", name := "chain", desc := "(LTrustChain;I[J)I" } : MethodName)) ∈ tb := tb_in (tm_6 (List.mem_of_getElem? (i := 128) rfl)) rfl
theorem q6_129 : (Cond.static ({ cls := "TrustChainLaw", name := "chain", desc := "(LTrustChain;I[J)I" } : MethodName)) ∈ tb := tb_in (tm_6 (List.mem_of_getElem? (i := 129) rfl)) rfl
theorem q6_130 : (Cond.codeWith ({ cls := "TrustChainLaw", name := "chain", desc := "(LTrustChain;I[J)I" } : MethodName) method_12_code (4 : Nat) (some FieldType.int) [((0 : Nat), (9 : Nat), (12 : Nat), (13 : Nat))]) ∈ tb := tb_in (tm_6 (List.mem_of_getElem? (i := 130) rfl)) rfl
theorem q6_131 : (Cond.methodLink "TrustChainLaw" (48 : Nat) ({ cls := "TrustChain", name := "chain", desc := "(I)I" } : MethodName)) ∈ tb := tb_in (tm_6 (List.mem_of_getElem? (i := 131) rfl)) rfl
theorem q6_132 : (Cond.instanceMethod ({ cls := "TrustChain", name := "chain", desc := "(I)I" } : MethodName)) ∈ tb := tb_in (tm_6 (List.mem_of_getElem? (i := 132) rfl)) rfl
theorem q6_133 : (Cond.selects "TrustChain" ({ cls := "TrustChain", name := "chain", desc := "(I)I" } : MethodName) ({ cls := "TrustChain", name := "chain", desc := "(I)I" } : MethodName)) ∈ tb := tb_in (tm_6 (List.mem_of_getElem? (i := 133) rfl)) rfl
theorem q6_134 : (Cond.code ({ cls := "TrustChain", name := "chain", desc := "(I)I" } : MethodName) prog_1_method_12_code (2 : Nat) (some FieldType.int)) ∈ tb := tb_in (tm_6 (List.mem_of_getElem? (i := 134) rfl)) rfl
theorem q6_136 : (Cond.methodLink "TrustChainLaw" (107 : Nat) ({ cls := "TrustChainLaw", name := "count", desc := "(LTrustChain;I[J)I" } : MethodName)) ∈ tb := tb_in (tm_6 (List.mem_of_getElem? (i := 136) rfl)) rfl
theorem q6_137 : (Cond.static ({ cls := "TrustChainLaw", name := "count", desc := "(LTrustChain;I[J)I" } : MethodName)) ∈ tb := tb_in (tm_6 (List.mem_of_getElem? (i := 137) rfl)) rfl
theorem q6_138 : (Cond.codeWith ({ cls := "TrustChainLaw", name := "count", desc := "(LTrustChain;I[J)I" } : MethodName) method_13_code (4 : Nat) (some FieldType.int) [((0 : Nat), (9 : Nat), (12 : Nat), (19 : Nat))]) ∈ tb := tb_in (tm_6 (List.mem_of_getElem? (i := 138) rfl)) rfl
theorem q6_139 : (Cond.methodLink "TrustChainLaw" (51 : Nat) ({ cls := "TrustChain", name := "count", desc := "(I)I" } : MethodName)) ∈ tb := tb_in (tm_6 (List.mem_of_getElem? (i := 139) rfl)) rfl
theorem q6_140 : (Cond.instanceMethod ({ cls := "TrustChain", name := "count", desc := "(I)I" } : MethodName)) ∈ tb := tb_in (tm_6 (List.mem_of_getElem? (i := 140) rfl)) rfl
theorem q6_141 : (Cond.selects "TrustChain" ({ cls := "TrustChain", name := "count", desc := "(I)I" } : MethodName) ({ cls := "TrustChain", name := "count", desc := "(I)I" } : MethodName)) ∈ tb := tb_in (tm_6 (List.mem_of_getElem? (i := 141) rfl)) rfl
theorem q6_142 : (Cond.code ({ cls := "TrustChain", name := "count", desc := "(I)I" } : MethodName) prog_1_method_13_code (2 : Nat) (some FieldType.int)) ∈ tb := tb_in (tm_6 (List.mem_of_getElem? (i := 142) rfl)) rfl
theorem q6_144 : (Cond.methodLink "TrustChainLaw" (113 : Nat) ({ cls := "TrustChainLaw", name := "covers", desc := "(LTrustChain;IJJJJ[J)I" } : MethodName)) ∈ tb := tb_in (tm_6 (List.mem_of_getElem? (i := 144) rfl)) rfl
theorem q6_145 : (Cond.static ({ cls := "TrustChainLaw", name := "covers", desc := "(LTrustChain;IJJJJ[J)I" } : MethodName)) ∈ tb := tb_in (tm_6 (List.mem_of_getElem? (i := 145) rfl)) rfl
theorem q6_146 : (Cond.codeWith ({ cls := "TrustChainLaw", name := "covers", desc := "(LTrustChain;IJJJJ[J)I" } : MethodName) method_14_code (12 : Nat) (some FieldType.int) [((0 : Nat), (24 : Nat), (27 : Nat), (13 : Nat))]) ∈ tb := tb_in (tm_6 (List.mem_of_getElem? (i := 146) rfl)) rfl
theorem q6_147 : (Cond.methodLink "TrustChainLaw" (54 : Nat) ({ cls := "TrustChain", name := "covers", desc := "(IJJJJ)Z" } : MethodName)) ∈ tb := tb_in (tm_6 (List.mem_of_getElem? (i := 147) rfl)) rfl
theorem q6_148 : (Cond.instanceMethod ({ cls := "TrustChain", name := "covers", desc := "(IJJJJ)Z" } : MethodName)) ∈ tb := tb_in (tm_6 (List.mem_of_getElem? (i := 148) rfl)) rfl
theorem q6_149 : (Cond.selects "TrustChain" ({ cls := "TrustChain", name := "covers", desc := "(IJJJJ)Z" } : MethodName) ({ cls := "TrustChain", name := "covers", desc := "(IJJJJ)Z" } : MethodName)) ∈ tb := tb_in (tm_6 (List.mem_of_getElem? (i := 149) rfl)) rfl
theorem q6_150 : (Cond.code ({ cls := "TrustChain", name := "covers", desc := "(IJJJJ)Z" } : MethodName) prog_1_method_14_code (11 : Nat) (some FieldType.boolean)) ∈ tb := tb_in (tm_6 (List.mem_of_getElem? (i := 150) rfl)) rfl
theorem q6_151 : (Cond.methodLink "TrustChain" (229 : Nat) ({ cls := "TrustChain", name := "takeHost", desc := "(IJ)V" } : MethodName)) ∈ tb := tb_in (tm_6 (List.mem_of_getElem? (i := 151) rfl)) rfl
theorem q6_153 : (Cond.instanceMethod ({ cls := "TrustChain", name := "takeHost", desc := "(IJ)V" } : MethodName)) ∈ tb := tb_in (tm_6 (List.mem_of_getElem? (i := 153) rfl)) rfl
theorem q6_154 : (Cond.code ({ cls := "TrustChain", name := "takeHost", desc := "(IJ)V" } : MethodName) prog_1_method_16_code (5 : Nat) none) ∈ tb := tb_in (tm_6 (List.mem_of_getElem? (i := 154) rfl)) rfl
theorem q6_155 : (Cond.classLink "TrustChain" (237 : Nat) "TrustChain$Slice") ∈ tb := tb_in (tm_6 (List.mem_of_getElem? (i := 155) rfl)) rfl
theorem q6_156 : (Cond.methodLink "TrustChain" (239 : Nat) ({ cls := "TrustChain$Slice", name := "<init>", desc := "([BII)V" } : MethodName)) ∈ tb := tb_in (tm_6 (List.mem_of_getElem? (i := 156) rfl)) rfl
theorem q6_157 : (Cond.methodLink "TrustChain" (242 : Nat) ({ cls := "TrustChain$NameSet", name := "holdsHost", desc := "(LTrustChain$Slice;)Z" } : MethodName)) ∈ tb := tb_in (tm_6 (List.mem_of_getElem? (i := 157) rfl)) rfl
theorem q6_158 : (Cond.instanceMethod ({ cls := "TrustChain$NameSet", name := "holdsHost", desc := "(LTrustChain$Slice;)Z" } : MethodName)) ∈ tb := tb_in (tm_6 (List.mem_of_getElem? (i := 158) rfl)) rfl
theorem q6_159 : (Cond.selects "TrustChain$NameSet" ({ cls := "TrustChain$NameSet", name := "holdsHost", desc := "(LTrustChain$Slice;)Z" } : MethodName) ({ cls := "TrustChain$NameSet", name := "holdsHost", desc := "(LTrustChain$Slice;)Z" } : MethodName)) ∈ tb := tb_in (tm_6 (List.mem_of_getElem? (i := 159) rfl)) rfl
theorem q6_160 : (Cond.code ({ cls := "TrustChain$NameSet", name := "holdsHost", desc := "(LTrustChain$Slice;)Z" } : MethodName) prog_5_method_4_code (7 : Nat) (some FieldType.boolean)) ∈ tb := tb_in (tm_6 (List.mem_of_getElem? (i := 160) rfl)) rfl
theorem q6_161 : (Cond.methodLink "TrustChain$NameSet" (46 : Nat) ({ cls := "TrustChain$Slice", name := "find", desc := "(C)I" } : MethodName)) ∈ tb := tb_in (tm_6 (List.mem_of_getElem? (i := 161) rfl)) rfl
theorem q6_162 : (Cond.instanceMethod ({ cls := "TrustChain$Slice", name := "find", desc := "(C)I" } : MethodName)) ∈ tb := tb_in (tm_6 (List.mem_of_getElem? (i := 162) rfl)) rfl
theorem q6_163 : (Cond.selects "TrustChain$Slice" ({ cls := "TrustChain$Slice", name := "find", desc := "(C)I" } : MethodName) ({ cls := "TrustChain$Slice", name := "find", desc := "(C)I" } : MethodName)) ∈ tb := tb_in (tm_6 (List.mem_of_getElem? (i := 163) rfl)) rfl
theorem q6_164 : (Cond.code ({ cls := "TrustChain$Slice", name := "find", desc := "(C)I" } : MethodName) prog_12_method_7_code (3 : Nat) (some FieldType.int)) ∈ tb := tb_in (tm_6 (List.mem_of_getElem? (i := 164) rfl)) rfl
theorem q6_165 : (Cond.classLink "TrustChainLaw" (59 : Nat) "TrustChainModel") ∈ tb := tb_in (tm_6 (List.mem_of_getElem? (i := 165) rfl)) rfl
theorem q6_166 : (Cond.instantiable "TrustChainModel" (32 : Nat)) ∈ tb := tb_in (tm_6 (List.mem_of_getElem? (i := 166) rfl)) rfl
theorem q6_167 : (Cond.methodLink "TrustChainLaw" (61 : Nat) ({ cls := "TrustChainModel", name := "<init>", desc := "()V" } : MethodName)) ∈ tb := tb_in (tm_6 (List.mem_of_getElem? (i := 167) rfl)) rfl
theorem q6_168 : (Cond.instanceMethod ({ cls := "TrustChainModel", name := "<init>", desc := "()V" } : MethodName)) ∈ tb := tb_in (tm_6 (List.mem_of_getElem? (i := 168) rfl)) rfl
theorem q6_169 : (Cond.code ({ cls := "TrustChainModel", name := "<init>", desc := "()V" } : MethodName) prog_14_method_1_code (1 : Nat) none) ∈ tb := tb_in (tm_6 (List.mem_of_getElem? (i := 169) rfl)) rfl
theorem q6_170 : (Cond.methodLink "TrustChainModel" (1 : Nat) ({ cls := "java/lang/Object", name := "<init>", desc := "()V" } : MethodName)) ∈ tb := tb_in (tm_6 (List.mem_of_getElem? (i := 170) rfl)) rfl
theorem q6_171 : (Cond.classLink "TrustChainModel" (17 : Nat) "TrustChainModel$Text") ∈ tb := tb_in (tm_6 (List.mem_of_getElem? (i := 171) rfl)) rfl
theorem q6_172 : (Cond.arrayOver (FieldType.object "TrustChainModel$Text")) ∈ lw_tbl := tm_6 (List.mem_of_getElem? (i := 172) rfl)
theorem q6_173 : (Cond.instantiable "TrustChainModel$Text" (54 : Nat)) ∈ tb := tb_in (tm_6 (List.mem_of_getElem? (i := 173) rfl)) rfl
theorem q6_174 : (Cond.methodLinkNest "TrustChainModel" (26 : Nat) ({ cls := "TrustChainModel$Text", name := "<init>", desc := "()V" } : MethodName) "TrustChainModel") ∈ lw_tbl := tm_6 (List.mem_of_getElem? (i := 174) rfl)
theorem q6_175 : (Cond.instanceMethod ({ cls := "TrustChainModel$Text", name := "<init>", desc := "()V" } : MethodName)) ∈ tb := tb_in (tm_6 (List.mem_of_getElem? (i := 175) rfl)) rfl
theorem q6_176 : (Cond.code ({ cls := "TrustChainModel$Text", name := "<init>", desc := "()V" } : MethodName) prog_15_method_1_code (1 : Nat) none) ∈ tb := tb_in (tm_6 (List.mem_of_getElem? (i := 176) rfl)) rfl
theorem q6_177 : (Cond.methodLink "TrustChainModel$Text" (3 : Nat) ({ cls := "java/lang/Object", name := "<init>", desc := "()V" } : MethodName)) ∈ tb := tb_in (tm_6 (List.mem_of_getElem? (i := 177) rfl)) rfl
theorem q6_178 : (Cond.fieldLink "TrustChainModel$Text" (9 : Nat) "TrustChainModel$Text" "d" "[I") ∈ tb := tb_in (tm_6 (List.mem_of_getElem? (i := 178) rfl)) rfl
theorem q6_179 : (Cond.fieldLink "TrustChainModel" (189 : Nat) "TrustChainModel$Text" "d" "[I") ∈ tb := tb_in (tm_6 (List.mem_of_getElem? (i := 179) rfl)) rfl
theorem q6_180 : (Cond.fieldLink "TrustChainModel" (186 : Nat) "TrustChainModel$Text" "n" "I") ∈ tb := tb_in (tm_6 (List.mem_of_getElem? (i := 180) rfl)) rfl
theorem q6_181 : (Cond.fieldLink "TrustChainModel$Text" (249 : Nat) "TrustChainModel$Text" "n" "I") ∈ tb := tb_in (tm_6 (List.mem_of_getElem? (i := 181) rfl)) rfl
theorem q6_182 : (Cond.fieldLink "TrustChainModel$Text" (52 : Nat) "TrustChainModel$Text" "p" "I") ∈ tb := tb_in (tm_6 (List.mem_of_getElem? (i := 182) rfl)) rfl
theorem q6_183 : (Cond.fieldLink "TrustChainModel$Text" (48 : Nat) "TrustChainModel$Text" "wrong" "I") ∈ tb := tb_in (tm_6 (List.mem_of_getElem? (i := 183) rfl)) rfl
theorem q6_184 : (Cond.fieldLink "TrustChainModel" (196 : Nat) "TrustChainModel$Text" "wrong" "I") ∈ tb := tb_in (tm_6 (List.mem_of_getElem? (i := 184) rfl)) rfl
theorem q6_185 : (Cond.fieldLink "TrustChainModel$Text" (62 : Nat) "TrustChainModel$Text" "from" "I") ∈ tb := tb_in (tm_6 (List.mem_of_getElem? (i := 185) rfl)) rfl
theorem q6_186 : (Cond.fieldLink "TrustChainModel$Text" (65 : Nat) "TrustChainModel$Text" "to" "I") ∈ tb := tb_in (tm_6 (List.mem_of_getElem? (i := 186) rfl)) rfl
theorem q6_187 : (Cond.fieldLink "TrustChainModel$Text" (59 : Nat) "TrustChainModel$Text" "place" "I") ∈ tb := tb_in (tm_6 (List.mem_of_getElem? (i := 187) rfl)) rfl
theorem q6_188 : (Cond.fieldLink "TrustChainModel" (213 : Nat) "TrustChainModel$Text" "time0" "J") ∈ tb := tb_in (tm_6 (List.mem_of_getElem? (i := 188) rfl)) rfl
theorem q6_189 : (Cond.fieldLink "TrustChainModel$Text" (292 : Nat) "TrustChainModel$Text" "time0" "J") ∈ tb := tb_in (tm_6 (List.mem_of_getElem? (i := 189) rfl)) rfl
theorem q6_190 : (Cond.fieldLink "TrustChainModel" (217 : Nat) "TrustChainModel$Text" "time1" "J") ∈ tb := tb_in (tm_6 (List.mem_of_getElem? (i := 190) rfl)) rfl
theorem q6_191 : (Cond.fieldLink "TrustChainModel$Text" (295 : Nat) "TrustChainModel$Text" "time1" "J") ∈ tb := tb_in (tm_6 (List.mem_of_getElem? (i := 191) rfl)) rfl
theorem q6_192 : (Cond.fieldLink "TrustChainModel$Text" (75 : Nat) "TrustChainModel$Text" "latest" "J") ∈ tb := tb_in (tm_6 (List.mem_of_getElem? (i := 192) rfl)) rfl
theorem q6_193 : (Cond.fieldLink "TrustChainModel" (252 : Nat) "TrustChainModel$Text" "serial" "I") ∈ tb := tb_in (tm_6 (List.mem_of_getElem? (i := 193) rfl)) rfl
theorem q6_194 : (Cond.fieldLink "TrustChainModel$Text" (281 : Nat) "TrustChainModel$Text" "serial" "I") ∈ tb := tb_in (tm_6 (List.mem_of_getElem? (i := 194) rfl)) rfl
theorem q6_195 : (Cond.fieldLink "TrustChainModel" (249 : Nat) "TrustChainModel$Text" "serialEnd" "I") ∈ tb := tb_in (tm_6 (List.mem_of_getElem? (i := 195) rfl)) rfl
theorem q6_196 : (Cond.fieldLink "TrustChainModel$Text" (283 : Nat) "TrustChainModel$Text" "serialEnd" "I") ∈ tb := tb_in (tm_6 (List.mem_of_getElem? (i := 196) rfl)) rfl
theorem q6_197 : (Cond.fieldLink "TrustChainModel$Text" (314 : Nat) "TrustChainModel$Text" "issuer" "I") ∈ tb := tb_in (tm_6 (List.mem_of_getElem? (i := 197) rfl)) rfl
theorem q6_198 : (Cond.fieldLink "TrustChainModel" (353 : Nat) "TrustChainModel$Text" "issuer" "I") ∈ tb := tb_in (tm_6 (List.mem_of_getElem? (i := 198) rfl)) rfl
theorem q6_199 : (Cond.fieldLink "TrustChainModel$Text" (316 : Nat) "TrustChainModel$Text" "issuerEnd" "I") ∈ tb := tb_in (tm_6 (List.mem_of_getElem? (i := 199) rfl)) rfl
theorem q6_200 : (Cond.fieldLink "TrustChainModel" (356 : Nat) "TrustChainModel$Text" "issuerEnd" "I") ∈ tb := tb_in (tm_6 (List.mem_of_getElem? (i := 200) rfl)) rfl
theorem q6_201 : (Cond.fieldLink "TrustChainModel$Text" (298 : Nat) "TrustChainModel$Text" "subject" "I") ∈ tb := tb_in (tm_6 (List.mem_of_getElem? (i := 201) rfl)) rfl
theorem q6_202 : (Cond.fieldLink "TrustChainModel" (347 : Nat) "TrustChainModel$Text" "subject" "I") ∈ tb := tb_in (tm_6 (List.mem_of_getElem? (i := 202) rfl)) rfl
theorem q6_203 : (Cond.fieldLink "TrustChainModel$Text" (301 : Nat) "TrustChainModel$Text" "subjectEnd" "I") ∈ tb := tb_in (tm_6 (List.mem_of_getElem? (i := 203) rfl)) rfl
theorem q6_204 : (Cond.fieldLink "TrustChainModel" (350 : Nat) "TrustChainModel$Text" "subjectEnd" "I") ∈ tb := tb_in (tm_6 (List.mem_of_getElem? (i := 204) rfl)) rfl
theorem q6_205 : (Cond.fieldLink "TrustChainModel" (240 : Nat) "TrustChainModel$Text" "subjectParts" "I") ∈ tb := tb_in (tm_6 (List.mem_of_getElem? (i := 205) rfl)) rfl
theorem q6_206 : (Cond.fieldLink "TrustChainModel$Text" (304 : Nat) "TrustChainModel$Text" "subjectParts" "I") ∈ tb := tb_in (tm_6 (List.mem_of_getElem? (i := 206) rfl)) rfl
theorem q6_207 : (Cond.fieldLink "TrustChainModel$Text" (123 : Nat) "TrustChainModel$Text" "parts" "I") ∈ tb := tb_in (tm_6 (List.mem_of_getElem? (i := 207) rfl)) rfl
theorem q6_208 : (Cond.fieldLink "TrustChainModel$Text" (156 : Nat) "TrustChainModel$Text" "modulus" "I") ∈ tb := tb_in (tm_6 (List.mem_of_getElem? (i := 208) rfl)) rfl
theorem q6_209 : (Cond.fieldLink "TrustChainModel" (223 : Nat) "TrustChainModel$Text" "modulus" "I") ∈ tb := tb_in (tm_6 (List.mem_of_getElem? (i := 209) rfl)) rfl
theorem q6_210 : (Cond.fieldLink "TrustChainModel$Text" (159 : Nat) "TrustChainModel$Text" "modulusEnd" "I") ∈ tb := tb_in (tm_6 (List.mem_of_getElem? (i := 210) rfl)) rfl
theorem q6_211 : (Cond.fieldLink "TrustChainModel" (220 : Nat) "TrustChainModel$Text" "modulusEnd" "I") ∈ tb := tb_in (tm_6 (List.mem_of_getElem? (i := 211) rfl)) rfl
theorem q6_212 : (Cond.fieldLink "TrustChainModel$Text" (170 : Nat) "TrustChainModel$Text" "exponent" "I") ∈ tb := tb_in (tm_6 (List.mem_of_getElem? (i := 212) rfl)) rfl
theorem q6_213 : (Cond.fieldLink "TrustChainModel" (226 : Nat) "TrustChainModel$Text" "exponent" "I") ∈ tb := tb_in (tm_6 (List.mem_of_getElem? (i := 213) rfl)) rfl
theorem q6_214 : (Cond.fieldLink "TrustChainModel" (258 : Nat) "TrustChainModel$Text" "tbs" "I") ∈ tb := tb_in (tm_6 (List.mem_of_getElem? (i := 214) rfl)) rfl
theorem q6_215 : (Cond.fieldLink "TrustChainModel$Text" (252 : Nat) "TrustChainModel$Text" "tbs" "I") ∈ tb := tb_in (tm_6 (List.mem_of_getElem? (i := 215) rfl)) rfl
theorem q6_216 : (Cond.fieldLink "TrustChainModel" (261 : Nat) "TrustChainModel$Text" "tbsEnd" "I") ∈ tb := tb_in (tm_6 (List.mem_of_getElem? (i := 216) rfl)) rfl
theorem q6_217 : (Cond.fieldLink "TrustChainModel$Text" (255 : Nat) "TrustChainModel$Text" "tbsEnd" "I") ∈ tb := tb_in (tm_6 (List.mem_of_getElem? (i := 217) rfl)) rfl
theorem q6_218 : (Cond.fieldLink "TrustChainModel" (279 : Nat) "TrustChainModel$Text" "signature" "I") ∈ tb := tb_in (tm_6 (List.mem_of_getElem? (i := 218) rfl)) rfl
theorem q6_219 : (Cond.fieldLink "TrustChainModel$Text" (272 : Nat) "TrustChainModel$Text" "signature" "I") ∈ tb := tb_in (tm_6 (List.mem_of_getElem? (i := 219) rfl)) rfl
theorem q6_220 : (Cond.fieldLink "TrustChainModel" (276 : Nat) "TrustChainModel$Text" "signatureEnd" "I") ∈ tb := tb_in (tm_6 (List.mem_of_getElem? (i := 220) rfl)) rfl
theorem q6_221 : (Cond.fieldLink "TrustChainModel$Text" (275 : Nat) "TrustChainModel$Text" "signatureEnd" "I") ∈ tb := tb_in (tm_6 (List.mem_of_getElem? (i := 221) rfl)) rfl
theorem q6_222 : (Cond.fieldLink "TrustChainModel" (232 : Nat) "TrustChainModel$Text" "length" "I") ∈ tb := tb_in (tm_6 (List.mem_of_getElem? (i := 222) rfl)) rfl
theorem q6_223 : (Cond.fieldLink "TrustChainModel$Text" (222 : Nat) "TrustChainModel$Text" "length" "I") ∈ tb := tb_in (tm_6 (List.mem_of_getElem? (i := 223) rfl)) rfl
theorem q6_224 : (Cond.fieldLink "TrustChainModel" (234 : Nat) "TrustChainModel$Text" "usage" "I") ∈ tb := tb_in (tm_6 (List.mem_of_getElem? (i := 224) rfl)) rfl
theorem q6_225 : (Cond.fieldLink "TrustChainModel$Text" (224 : Nat) "TrustChainModel$Text" "usage" "I") ∈ tb := tb_in (tm_6 (List.mem_of_getElem? (i := 225) rfl)) rfl
theorem q6_226 : (Cond.fieldLink "TrustChainModel" (237 : Nat) "TrustChainModel$Text" "dns" "I") ∈ tb := tb_in (tm_6 (List.mem_of_getElem? (i := 226) rfl)) rfl
theorem q6_227 : (Cond.fieldLink "TrustChainModel$Text" (235 : Nat) "TrustChainModel$Text" "dns" "I") ∈ tb := tb_in (tm_6 (List.mem_of_getElem? (i := 227) rfl)) rfl
theorem q6_228 : (Cond.fieldLink "TrustChainModel$Text" (229 : Nat) "TrustChainModel$Text" "dirs" "I") ∈ tb := tb_in (tm_6 (List.mem_of_getElem? (i := 228) rfl)) rfl
theorem q6_229 : (Cond.fieldLink "TrustChainModel" (394 : Nat) "TrustChainModel$Text" "dirs" "I") ∈ tb := tb_in (tm_6 (List.mem_of_getElem? (i := 229) rfl)) rfl
theorem q6_230 : (Cond.fieldLink "TrustChainModel" (243 : Nat) "TrustChainModel$Text" "extensions" "I") ∈ tb := tb_in (tm_6 (List.mem_of_getElem? (i := 230) rfl)) rfl
theorem q6_231 : (Cond.fieldLink "TrustChainModel$Text" (243 : Nat) "TrustChainModel$Text" "extensions" "I") ∈ tb := tb_in (tm_6 (List.mem_of_getElem? (i := 231) rfl)) rfl
theorem q6_232 : (Cond.fieldLink "TrustChainModel$Text" (179 : Nat) "TrustChainModel$Text" "matters" "I") ∈ tb := tb_in (tm_6 (List.mem_of_getElem? (i := 232) rfl)) rfl
theorem q6_233 : (Cond.fieldLink "TrustChainModel" (246 : Nat) "TrustChainModel$Text" "matters" "I") ∈ tb := tb_in (tm_6 (List.mem_of_getElem? (i := 233) rfl)) rfl
theorem q6_234 : (Cond.fieldLink "TrustChainModel$Text" (201 : Nat) "TrustChainModel$Text" "ownKey" "I") ∈ tb := tb_in (tm_6 (List.mem_of_getElem? (i := 234) rfl)) rfl
theorem q6_235 : (Cond.fieldLink "TrustChainModel" (363 : Nat) "TrustChainModel$Text" "ownKey" "I") ∈ tb := tb_in (tm_6 (List.mem_of_getElem? (i := 235) rfl)) rfl
theorem q6_236 : (Cond.fieldLink "TrustChainModel$Text" (204 : Nat) "TrustChainModel$Text" "ownKeyEnd" "I") ∈ tb := tb_in (tm_6 (List.mem_of_getElem? (i := 236) rfl)) rfl
theorem q6_237 : (Cond.fieldLink "TrustChainModel" (369 : Nat) "TrustChainModel$Text" "ownKeyEnd" "I") ∈ tb := tb_in (tm_6 (List.mem_of_getElem? (i := 237) rfl)) rfl
theorem q6_238 : (Cond.fieldLink "TrustChainModel$Text" (207 : Nat) "TrustChainModel$Text" "issuerKey" "I") ∈ tb := tb_in (tm_6 (List.mem_of_getElem? (i := 238) rfl)) rfl
theorem q6_239 : (Cond.fieldLink "TrustChainModel" (366 : Nat) "TrustChainModel$Text" "issuerKey" "I") ∈ tb := tb_in (tm_6 (List.mem_of_getElem? (i := 239) rfl)) rfl
theorem q7_0 : (Cond.fieldLink "TrustChainModel$Text" (210 : Nat) "TrustChainModel$Text" "issuerKeyEnd" "I") ∈ tb := tb_in (tm_7 (List.mem_of_getElem? (i := 0) rfl)) rfl
theorem q7_1 : (Cond.fieldLink "TrustChainModel" (372 : Nat) "TrustChainModel$Text" "issuerKeyEnd" "I") ∈ tb := tb_in (tm_7 (List.mem_of_getElem? (i := 1) rfl)) rfl
theorem q7_2 : (Cond.fieldLink "TrustChainModel$Text" (241 : Nat) "TrustChainModel$Text" "trees" "I") ∈ tb := tb_in (tm_7 (List.mem_of_getElem? (i := 2) rfl)) rfl
theorem q7_3 : (Cond.fieldLink "TrustChainModel" (409 : Nat) "TrustChainModel$Text" "trees" "I") ∈ tb := tb_in (tm_7 (List.mem_of_getElem? (i := 3) rfl)) rfl
theorem q7_4 : (Cond.fieldLink "TrustChainModel" (255 : Nat) "TrustChainModel$Text" "entries" "I") ∈ tb := tb_in (tm_7 (List.mem_of_getElem? (i := 4) rfl)) rfl
theorem q7_5 : (Cond.fieldLink "TrustChainModel$Text" (246 : Nat) "TrustChainModel$Text" "entries" "I") ∈ tb := tb_in (tm_7 (List.mem_of_getElem? (i := 5) rfl)) rfl
theorem q7_6 : (Cond.fieldLink "TrustChainModel$Text" (173 : Nat) "TrustChainModel$Text" "oids" "I") ∈ tb := tb_in (tm_7 (List.mem_of_getElem? (i := 6) rfl)) rfl
theorem q7_7 : (Cond.fieldLink "TrustChainModel$Text" (129 : Nat) "TrustChainModel$Text" "nameAt" "I") ∈ tb := tb_in (tm_7 (List.mem_of_getElem? (i := 7) rfl)) rfl
theorem q7_8 : (Cond.fieldLink "TrustChainModel$Text" (132 : Nat) "TrustChainModel$Text" "nameEnd" "I") ∈ tb := tb_in (tm_7 (List.mem_of_getElem? (i := 8) rfl)) rfl
theorem q7_9 : (Cond.fieldLink "TrustChainModel" (229 : Nat) "TrustChainModel$Text" "ca" "Z") ∈ tb := tb_in (tm_7 (List.mem_of_getElem? (i := 9) rfl)) rfl
theorem q7_10 : (Cond.fieldLink "TrustChainModel$Text" (216 : Nat) "TrustChainModel$Text" "ca" "Z") ∈ tb := tb_in (tm_7 (List.mem_of_getElem? (i := 10) rfl)) rfl
theorem q7_11 : (Cond.fieldLink "TrustChainModel$Text" (213 : Nat) "TrustChainModel$Text" "basic" "Z") ∈ tb := tb_in (tm_7 (List.mem_of_getElem? (i := 11) rfl)) rfl
theorem q7_12 : (Cond.fieldLink "TrustChainModel" (201 : Nat) "TrustChainModel$Text" "trusted" "Z") ∈ tb := tb_in (tm_7 (List.mem_of_getElem? (i := 12) rfl)) rfl
theorem q7_13 : (Cond.fieldLink "TrustChainModel$Text" (15 : Nat) "TrustChainModel$Text" "dnsAt" "[I") ∈ tb := tb_in (tm_7 (List.mem_of_getElem? (i := 13) rfl)) rfl
theorem q7_14 : (Cond.fieldLink "TrustChainModel" (403 : Nat) "TrustChainModel$Text" "dnsAt" "[I") ∈ tb := tb_in (tm_7 (List.mem_of_getElem? (i := 14) rfl)) rfl
theorem q7_15 : (Cond.fieldLink "TrustChainModel$Text" (18 : Nat) "TrustChainModel$Text" "dnsEnd" "[I") ∈ tb := tb_in (tm_7 (List.mem_of_getElem? (i := 15) rfl)) rfl
theorem q7_16 : (Cond.fieldLink "TrustChainModel" (406 : Nat) "TrustChainModel$Text" "dnsEnd" "[I") ∈ tb := tb_in (tm_7 (List.mem_of_getElem? (i := 16) rfl)) rfl
theorem q7_17 : (Cond.fieldLink "TrustChainModel$Text" (21 : Nat) "TrustChainModel$Text" "dirAt" "[I") ∈ tb := tb_in (tm_7 (List.mem_of_getElem? (i := 17) rfl)) rfl
theorem q7_18 : (Cond.fieldLink "TrustChainModel" (397 : Nat) "TrustChainModel$Text" "dirAt" "[I") ∈ tb := tb_in (tm_7 (List.mem_of_getElem? (i := 18) rfl)) rfl
theorem q7_19 : (Cond.fieldLink "TrustChainModel$Text" (24 : Nat) "TrustChainModel$Text" "dirEnd" "[I") ∈ tb := tb_in (tm_7 (List.mem_of_getElem? (i := 19) rfl)) rfl
theorem q7_20 : (Cond.fieldLink "TrustChainModel" (400 : Nat) "TrustChainModel$Text" "dirEnd" "[I") ∈ tb := tb_in (tm_7 (List.mem_of_getElem? (i := 20) rfl)) rfl
theorem q7_21 : (Cond.fieldLink "TrustChainModel$Text" (27 : Nat) "TrustChainModel$Text" "treeAt" "[I") ∈ tb := tb_in (tm_7 (List.mem_of_getElem? (i := 21) rfl)) rfl
theorem q7_22 : (Cond.fieldLink "TrustChainModel" (415 : Nat) "TrustChainModel$Text" "treeAt" "[I") ∈ tb := tb_in (tm_7 (List.mem_of_getElem? (i := 22) rfl)) rfl
theorem q7_23 : (Cond.fieldLink "TrustChainModel$Text" (30 : Nat) "TrustChainModel$Text" "treeEnd" "[I") ∈ tb := tb_in (tm_7 (List.mem_of_getElem? (i := 23) rfl)) rfl
theorem q7_24 : (Cond.fieldLink "TrustChainModel" (418 : Nat) "TrustChainModel$Text" "treeEnd" "[I") ∈ tb := tb_in (tm_7 (List.mem_of_getElem? (i := 24) rfl)) rfl
theorem q7_25 : (Cond.fieldLink "TrustChainModel$Text" (33 : Nat) "TrustChainModel$Text" "treeKind" "[I") ∈ tb := tb_in (tm_7 (List.mem_of_getElem? (i := 25) rfl)) rfl
theorem q7_26 : (Cond.fieldLink "TrustChainModel" (412 : Nat) "TrustChainModel$Text" "treeKind" "[I") ∈ tb := tb_in (tm_7 (List.mem_of_getElem? (i := 26) rfl)) rfl
theorem q7_27 : (Cond.fieldLink "TrustChainModel$Text" (36 : Nat) "TrustChainModel$Text" "entryAt" "[I") ∈ tb := tb_in (tm_7 (List.mem_of_getElem? (i := 27) rfl)) rfl
theorem q7_28 : (Cond.fieldLink "TrustChainModel" (378 : Nat) "TrustChainModel$Text" "entryAt" "[I") ∈ tb := tb_in (tm_7 (List.mem_of_getElem? (i := 28) rfl)) rfl
theorem q7_29 : (Cond.fieldLink "TrustChainModel$Text" (39 : Nat) "TrustChainModel$Text" "entryEnd" "[I") ∈ tb := tb_in (tm_7 (List.mem_of_getElem? (i := 29) rfl)) rfl
theorem q7_30 : (Cond.fieldLink "TrustChainModel" (381 : Nat) "TrustChainModel$Text" "entryEnd" "[I") ∈ tb := tb_in (tm_7 (List.mem_of_getElem? (i := 30) rfl)) rfl
theorem q7_31 : (Cond.fieldLink "TrustChainModel$Text" (42 : Nat) "TrustChainModel$Text" "oidAt" "[I") ∈ tb := tb_in (tm_7 (List.mem_of_getElem? (i := 31) rfl)) rfl
theorem q7_32 : (Cond.fieldLink "TrustChainModel$Text" (45 : Nat) "TrustChainModel$Text" "oidEnd" "[I") ∈ tb := tb_in (tm_7 (List.mem_of_getElem? (i := 32) rfl)) rfl
theorem q7_33 : (Cond.laysFinal "TrustChainModel$Text" "TrustChainModel$Text" "d" "[I") ∈ tb := tb_in (tm_7 (List.mem_of_getElem? (i := 33) rfl)) rfl
theorem q7_35 : (Cond.lays "TrustChainModel$Text" "TrustChainModel$Text" "n" "I") ∈ tb := tb_in (tm_7 (List.mem_of_getElem? (i := 35) rfl)) rfl
theorem q7_37 : (Cond.lays "TrustChainModel$Text" "TrustChainModel$Text" "p" "I") ∈ tb := tb_in (tm_7 (List.mem_of_getElem? (i := 37) rfl)) rfl
theorem q7_39 : (Cond.lays "TrustChainModel$Text" "TrustChainModel$Text" "wrong" "I") ∈ tb := tb_in (tm_7 (List.mem_of_getElem? (i := 39) rfl)) rfl
theorem q7_41 : (Cond.lays "TrustChainModel$Text" "TrustChainModel$Text" "from" "I") ∈ tb := tb_in (tm_7 (List.mem_of_getElem? (i := 41) rfl)) rfl
theorem q7_43 : (Cond.lays "TrustChainModel$Text" "TrustChainModel$Text" "to" "I") ∈ tb := tb_in (tm_7 (List.mem_of_getElem? (i := 43) rfl)) rfl
theorem q7_45 : (Cond.lays "TrustChainModel$Text" "TrustChainModel$Text" "place" "I") ∈ tb := tb_in (tm_7 (List.mem_of_getElem? (i := 45) rfl)) rfl
theorem q7_47 : (Cond.lays "TrustChainModel$Text" "TrustChainModel$Text" "time0" "J") ∈ tb := tb_in (tm_7 (List.mem_of_getElem? (i := 47) rfl)) rfl
theorem q7_49 : (Cond.lays "TrustChainModel$Text" "TrustChainModel$Text" "time1" "J") ∈ tb := tb_in (tm_7 (List.mem_of_getElem? (i := 49) rfl)) rfl
theorem q7_51 : (Cond.lays "TrustChainModel$Text" "TrustChainModel$Text" "latest" "J") ∈ tb := tb_in (tm_7 (List.mem_of_getElem? (i := 51) rfl)) rfl
theorem q7_53 : (Cond.lays "TrustChainModel$Text" "TrustChainModel$Text" "serial" "I") ∈ tb := tb_in (tm_7 (List.mem_of_getElem? (i := 53) rfl)) rfl
theorem q7_55 : (Cond.lays "TrustChainModel$Text" "TrustChainModel$Text" "serialEnd" "I") ∈ tb := tb_in (tm_7 (List.mem_of_getElem? (i := 55) rfl)) rfl
theorem q7_57 : (Cond.lays "TrustChainModel$Text" "TrustChainModel$Text" "issuer" "I") ∈ tb := tb_in (tm_7 (List.mem_of_getElem? (i := 57) rfl)) rfl
theorem q7_59 : (Cond.lays "TrustChainModel$Text" "TrustChainModel$Text" "issuerEnd" "I") ∈ tb := tb_in (tm_7 (List.mem_of_getElem? (i := 59) rfl)) rfl
theorem q7_61 : (Cond.lays "TrustChainModel$Text" "TrustChainModel$Text" "subject" "I") ∈ tb := tb_in (tm_7 (List.mem_of_getElem? (i := 61) rfl)) rfl
theorem q7_63 : (Cond.lays "TrustChainModel$Text" "TrustChainModel$Text" "subjectEnd" "I") ∈ tb := tb_in (tm_7 (List.mem_of_getElem? (i := 63) rfl)) rfl
theorem q7_65 : (Cond.lays "TrustChainModel$Text" "TrustChainModel$Text" "subjectParts" "I") ∈ tb := tb_in (tm_7 (List.mem_of_getElem? (i := 65) rfl)) rfl
theorem q7_67 : (Cond.lays "TrustChainModel$Text" "TrustChainModel$Text" "parts" "I") ∈ tb := tb_in (tm_7 (List.mem_of_getElem? (i := 67) rfl)) rfl
theorem q7_69 : (Cond.lays "TrustChainModel$Text" "TrustChainModel$Text" "modulus" "I") ∈ tb := tb_in (tm_7 (List.mem_of_getElem? (i := 69) rfl)) rfl
theorem q7_71 : (Cond.lays "TrustChainModel$Text" "TrustChainModel$Text" "modulusEnd" "I") ∈ tb := tb_in (tm_7 (List.mem_of_getElem? (i := 71) rfl)) rfl
theorem q7_73 : (Cond.lays "TrustChainModel$Text" "TrustChainModel$Text" "exponent" "I") ∈ tb := tb_in (tm_7 (List.mem_of_getElem? (i := 73) rfl)) rfl
theorem q7_75 : (Cond.lays "TrustChainModel$Text" "TrustChainModel$Text" "tbs" "I") ∈ tb := tb_in (tm_7 (List.mem_of_getElem? (i := 75) rfl)) rfl
theorem q7_77 : (Cond.lays "TrustChainModel$Text" "TrustChainModel$Text" "tbsEnd" "I") ∈ tb := tb_in (tm_7 (List.mem_of_getElem? (i := 77) rfl)) rfl
theorem q7_79 : (Cond.lays "TrustChainModel$Text" "TrustChainModel$Text" "signature" "I") ∈ tb := tb_in (tm_7 (List.mem_of_getElem? (i := 79) rfl)) rfl
theorem q7_81 : (Cond.lays "TrustChainModel$Text" "TrustChainModel$Text" "signatureEnd" "I") ∈ tb := tb_in (tm_7 (List.mem_of_getElem? (i := 81) rfl)) rfl
theorem q7_83 : (Cond.lays "TrustChainModel$Text" "TrustChainModel$Text" "length" "I") ∈ tb := tb_in (tm_7 (List.mem_of_getElem? (i := 83) rfl)) rfl
theorem q7_85 : (Cond.lays "TrustChainModel$Text" "TrustChainModel$Text" "usage" "I") ∈ tb := tb_in (tm_7 (List.mem_of_getElem? (i := 85) rfl)) rfl
theorem q7_87 : (Cond.lays "TrustChainModel$Text" "TrustChainModel$Text" "dns" "I") ∈ tb := tb_in (tm_7 (List.mem_of_getElem? (i := 87) rfl)) rfl
theorem q7_89 : (Cond.lays "TrustChainModel$Text" "TrustChainModel$Text" "dirs" "I") ∈ tb := tb_in (tm_7 (List.mem_of_getElem? (i := 89) rfl)) rfl
theorem q7_91 : (Cond.lays "TrustChainModel$Text" "TrustChainModel$Text" "extensions" "I") ∈ tb := tb_in (tm_7 (List.mem_of_getElem? (i := 91) rfl)) rfl
theorem q7_93 : (Cond.lays "TrustChainModel$Text" "TrustChainModel$Text" "matters" "I") ∈ tb := tb_in (tm_7 (List.mem_of_getElem? (i := 93) rfl)) rfl
theorem q7_95 : (Cond.lays "TrustChainModel$Text" "TrustChainModel$Text" "ownKey" "I") ∈ tb := tb_in (tm_7 (List.mem_of_getElem? (i := 95) rfl)) rfl
theorem q7_97 : (Cond.lays "TrustChainModel$Text" "TrustChainModel$Text" "ownKeyEnd" "I") ∈ tb := tb_in (tm_7 (List.mem_of_getElem? (i := 97) rfl)) rfl
theorem q7_99 : (Cond.lays "TrustChainModel$Text" "TrustChainModel$Text" "issuerKey" "I") ∈ tb := tb_in (tm_7 (List.mem_of_getElem? (i := 99) rfl)) rfl
theorem q7_101 : (Cond.lays "TrustChainModel$Text" "TrustChainModel$Text" "issuerKeyEnd" "I") ∈ tb := tb_in (tm_7 (List.mem_of_getElem? (i := 101) rfl)) rfl
theorem q7_103 : (Cond.lays "TrustChainModel$Text" "TrustChainModel$Text" "trees" "I") ∈ tb := tb_in (tm_7 (List.mem_of_getElem? (i := 103) rfl)) rfl
theorem q7_105 : (Cond.lays "TrustChainModel$Text" "TrustChainModel$Text" "entries" "I") ∈ tb := tb_in (tm_7 (List.mem_of_getElem? (i := 105) rfl)) rfl
theorem q7_107 : (Cond.lays "TrustChainModel$Text" "TrustChainModel$Text" "oids" "I") ∈ tb := tb_in (tm_7 (List.mem_of_getElem? (i := 107) rfl)) rfl
theorem q7_109 : (Cond.lays "TrustChainModel$Text" "TrustChainModel$Text" "nameAt" "I") ∈ tb := tb_in (tm_7 (List.mem_of_getElem? (i := 109) rfl)) rfl
theorem q7_111 : (Cond.lays "TrustChainModel$Text" "TrustChainModel$Text" "nameEnd" "I") ∈ tb := tb_in (tm_7 (List.mem_of_getElem? (i := 111) rfl)) rfl
theorem q7_113 : (Cond.lays "TrustChainModel$Text" "TrustChainModel$Text" "ca" "Z") ∈ tb := tb_in (tm_7 (List.mem_of_getElem? (i := 113) rfl)) rfl
theorem q7_115 : (Cond.lays "TrustChainModel$Text" "TrustChainModel$Text" "basic" "Z") ∈ tb := tb_in (tm_7 (List.mem_of_getElem? (i := 115) rfl)) rfl
theorem q7_117 : (Cond.lays "TrustChainModel$Text" "TrustChainModel$Text" "trusted" "Z") ∈ tb := tb_in (tm_7 (List.mem_of_getElem? (i := 117) rfl)) rfl
theorem q7_119 : (Cond.laysFinal "TrustChainModel$Text" "TrustChainModel$Text" "dnsAt" "[I") ∈ tb := tb_in (tm_7 (List.mem_of_getElem? (i := 119) rfl)) rfl
theorem q7_121 : (Cond.laysFinal "TrustChainModel$Text" "TrustChainModel$Text" "dnsEnd" "[I") ∈ tb := tb_in (tm_7 (List.mem_of_getElem? (i := 121) rfl)) rfl
theorem q7_123 : (Cond.laysFinal "TrustChainModel$Text" "TrustChainModel$Text" "dirAt" "[I") ∈ tb := tb_in (tm_7 (List.mem_of_getElem? (i := 123) rfl)) rfl
theorem q7_125 : (Cond.laysFinal "TrustChainModel$Text" "TrustChainModel$Text" "dirEnd" "[I") ∈ tb := tb_in (tm_7 (List.mem_of_getElem? (i := 125) rfl)) rfl
theorem q7_127 : (Cond.laysFinal "TrustChainModel$Text" "TrustChainModel$Text" "treeAt" "[I") ∈ tb := tb_in (tm_7 (List.mem_of_getElem? (i := 127) rfl)) rfl
theorem q7_129 : (Cond.laysFinal "TrustChainModel$Text" "TrustChainModel$Text" "treeEnd" "[I") ∈ tb := tb_in (tm_7 (List.mem_of_getElem? (i := 129) rfl)) rfl
theorem q7_131 : (Cond.laysFinal "TrustChainModel$Text" "TrustChainModel$Text" "treeKind" "[I") ∈ tb := tb_in (tm_7 (List.mem_of_getElem? (i := 131) rfl)) rfl
theorem q7_133 : (Cond.laysFinal "TrustChainModel$Text" "TrustChainModel$Text" "entryAt" "[I") ∈ tb := tb_in (tm_7 (List.mem_of_getElem? (i := 133) rfl)) rfl
theorem q7_135 : (Cond.laysFinal "TrustChainModel$Text" "TrustChainModel$Text" "entryEnd" "[I") ∈ tb := tb_in (tm_7 (List.mem_of_getElem? (i := 135) rfl)) rfl
theorem q7_137 : (Cond.laysFinal "TrustChainModel$Text" "TrustChainModel$Text" "oidAt" "[I") ∈ tb := tb_in (tm_7 (List.mem_of_getElem? (i := 137) rfl)) rfl
theorem q7_139 : (Cond.laysFinal "TrustChainModel$Text" "TrustChainModel$Text" "oidEnd" "[I") ∈ tb := tb_in (tm_7 (List.mem_of_getElem? (i := 139) rfl)) rfl
theorem q7_142 : (Cond.constant "TrustChainModel" (43 : Nat) (1779033703 : Int32)) ∈ tb := tb_in (tm_7 (List.mem_of_getElem? (i := 142) rfl)) rfl
theorem q7_143 : (Cond.constant "TrustChainModel" (44 : Nat) (-1150833019 : Int32)) ∈ tb := tb_in (tm_7 (List.mem_of_getElem? (i := 143) rfl)) rfl
theorem q7_144 : (Cond.constant "TrustChainModel" (45 : Nat) (1013904242 : Int32)) ∈ tb := tb_in (tm_7 (List.mem_of_getElem? (i := 144) rfl)) rfl
theorem q7_145 : (Cond.constant "TrustChainModel" (46 : Nat) (-1521486534 : Int32)) ∈ tb := tb_in (tm_7 (List.mem_of_getElem? (i := 145) rfl)) rfl
theorem q7_146 : (Cond.constant "TrustChainModel" (47 : Nat) (1359893119 : Int32)) ∈ tb := tb_in (tm_7 (List.mem_of_getElem? (i := 146) rfl)) rfl
theorem q7_147 : (Cond.constant "TrustChainModel" (48 : Nat) (-1694144372 : Int32)) ∈ tb := tb_in (tm_7 (List.mem_of_getElem? (i := 147) rfl)) rfl
theorem q7_148 : (Cond.constant "TrustChainModel" (49 : Nat) (528734635 : Int32)) ∈ tb := tb_in (tm_7 (List.mem_of_getElem? (i := 148) rfl)) rfl
theorem q7_149 : (Cond.constant "TrustChainModel" (50 : Nat) (1541459225 : Int32)) ∈ tb := tb_in (tm_7 (List.mem_of_getElem? (i := 149) rfl)) rfl
theorem q7_150 : (Cond.constant "TrustChainModel" (54 : Nat) (1116352408 : Int32)) ∈ tb := tb_in (tm_7 (List.mem_of_getElem? (i := 150) rfl)) rfl
theorem q7_151 : (Cond.constant "TrustChainModel" (55 : Nat) (1899447441 : Int32)) ∈ tb := tb_in (tm_7 (List.mem_of_getElem? (i := 151) rfl)) rfl
theorem q7_152 : (Cond.constant "TrustChainModel" (56 : Nat) (-1245643825 : Int32)) ∈ tb := tb_in (tm_7 (List.mem_of_getElem? (i := 152) rfl)) rfl
theorem q7_153 : (Cond.constant "TrustChainModel" (57 : Nat) (-373957723 : Int32)) ∈ tb := tb_in (tm_7 (List.mem_of_getElem? (i := 153) rfl)) rfl
theorem q7_154 : (Cond.constant "TrustChainModel" (58 : Nat) (961987163 : Int32)) ∈ tb := tb_in (tm_7 (List.mem_of_getElem? (i := 154) rfl)) rfl
theorem q7_155 : (Cond.constant "TrustChainModel" (59 : Nat) (1508970993 : Int32)) ∈ tb := tb_in (tm_7 (List.mem_of_getElem? (i := 155) rfl)) rfl
theorem q7_156 : (Cond.constant "TrustChainModel" (60 : Nat) (-1841331548 : Int32)) ∈ tb := tb_in (tm_7 (List.mem_of_getElem? (i := 156) rfl)) rfl
theorem q7_157 : (Cond.constant "TrustChainModel" (61 : Nat) (-1424204075 : Int32)) ∈ tb := tb_in (tm_7 (List.mem_of_getElem? (i := 157) rfl)) rfl
theorem q7_158 : (Cond.constant "TrustChainModel" (62 : Nat) (-670586216 : Int32)) ∈ tb := tb_in (tm_7 (List.mem_of_getElem? (i := 158) rfl)) rfl
theorem q7_159 : (Cond.constant "TrustChainModel" (63 : Nat) (310598401 : Int32)) ∈ tb := tb_in (tm_7 (List.mem_of_getElem? (i := 159) rfl)) rfl
theorem q7_160 : (Cond.constant "TrustChainModel" (64 : Nat) (607225278 : Int32)) ∈ tb := tb_in (tm_7 (List.mem_of_getElem? (i := 160) rfl)) rfl
theorem q7_161 : (Cond.constant "TrustChainModel" (65 : Nat) (1426881987 : Int32)) ∈ tb := tb_in (tm_7 (List.mem_of_getElem? (i := 161) rfl)) rfl
theorem q7_162 : (Cond.constant "TrustChainModel" (66 : Nat) (1925078388 : Int32)) ∈ tb := tb_in (tm_7 (List.mem_of_getElem? (i := 162) rfl)) rfl
theorem q7_163 : (Cond.constant "TrustChainModel" (67 : Nat) (-2132889090 : Int32)) ∈ tb := tb_in (tm_7 (List.mem_of_getElem? (i := 163) rfl)) rfl
theorem q7_164 : (Cond.constant "TrustChainModel" (68 : Nat) (-1680079193 : Int32)) ∈ tb := tb_in (tm_7 (List.mem_of_getElem? (i := 164) rfl)) rfl
theorem q7_165 : (Cond.constant "TrustChainModel" (69 : Nat) (-1046744716 : Int32)) ∈ tb := tb_in (tm_7 (List.mem_of_getElem? (i := 165) rfl)) rfl
theorem q7_166 : (Cond.constant "TrustChainModel" (70 : Nat) (-459576895 : Int32)) ∈ tb := tb_in (tm_7 (List.mem_of_getElem? (i := 166) rfl)) rfl
theorem q7_167 : (Cond.constant "TrustChainModel" (71 : Nat) (-272742522 : Int32)) ∈ tb := tb_in (tm_7 (List.mem_of_getElem? (i := 167) rfl)) rfl
theorem q7_168 : (Cond.constant "TrustChainModel" (72 : Nat) (264347078 : Int32)) ∈ tb := tb_in (tm_7 (List.mem_of_getElem? (i := 168) rfl)) rfl
theorem q7_169 : (Cond.constant "TrustChainModel" (73 : Nat) (604807628 : Int32)) ∈ tb := tb_in (tm_7 (List.mem_of_getElem? (i := 169) rfl)) rfl
theorem q7_170 : (Cond.constant "TrustChainModel" (74 : Nat) (770255983 : Int32)) ∈ tb := tb_in (tm_7 (List.mem_of_getElem? (i := 170) rfl)) rfl
theorem q7_171 : (Cond.constant "TrustChainModel" (75 : Nat) (1249150122 : Int32)) ∈ tb := tb_in (tm_7 (List.mem_of_getElem? (i := 171) rfl)) rfl
theorem q7_172 : (Cond.constant "TrustChainModel" (76 : Nat) (1555081692 : Int32)) ∈ tb := tb_in (tm_7 (List.mem_of_getElem? (i := 172) rfl)) rfl
theorem q7_173 : (Cond.constant "TrustChainModel" (77 : Nat) (1996064986 : Int32)) ∈ tb := tb_in (tm_7 (List.mem_of_getElem? (i := 173) rfl)) rfl
theorem q7_174 : (Cond.constant "TrustChainModel" (78 : Nat) (-1740746414 : Int32)) ∈ tb := tb_in (tm_7 (List.mem_of_getElem? (i := 174) rfl)) rfl
theorem q7_175 : (Cond.constant "TrustChainModel" (79 : Nat) (-1473132947 : Int32)) ∈ tb := tb_in (tm_7 (List.mem_of_getElem? (i := 175) rfl)) rfl
theorem q7_176 : (Cond.constant "TrustChainModel" (80 : Nat) (-1341970488 : Int32)) ∈ tb := tb_in (tm_7 (List.mem_of_getElem? (i := 176) rfl)) rfl
theorem q7_177 : (Cond.constant "TrustChainModel" (81 : Nat) (-1084653625 : Int32)) ∈ tb := tb_in (tm_7 (List.mem_of_getElem? (i := 177) rfl)) rfl
theorem q7_178 : (Cond.constant "TrustChainModel" (82 : Nat) (-958395405 : Int32)) ∈ tb := tb_in (tm_7 (List.mem_of_getElem? (i := 178) rfl)) rfl
theorem q7_179 : (Cond.constant "TrustChainModel" (83 : Nat) (-710438585 : Int32)) ∈ tb := tb_in (tm_7 (List.mem_of_getElem? (i := 179) rfl)) rfl
theorem q7_180 : (Cond.constant "TrustChainModel" (84 : Nat) (113926993 : Int32)) ∈ tb := tb_in (tm_7 (List.mem_of_getElem? (i := 180) rfl)) rfl
theorem q7_181 : (Cond.constant "TrustChainModel" (85 : Nat) (338241895 : Int32)) ∈ tb := tb_in (tm_7 (List.mem_of_getElem? (i := 181) rfl)) rfl
theorem q7_182 : (Cond.constant "TrustChainModel" (86 : Nat) (666307205 : Int32)) ∈ tb := tb_in (tm_7 (List.mem_of_getElem? (i := 182) rfl)) rfl
theorem q7_183 : (Cond.constant "TrustChainModel" (87 : Nat) (773529912 : Int32)) ∈ tb := tb_in (tm_7 (List.mem_of_getElem? (i := 183) rfl)) rfl
theorem q7_184 : (Cond.constant "TrustChainModel" (88 : Nat) (1294757372 : Int32)) ∈ tb := tb_in (tm_7 (List.mem_of_getElem? (i := 184) rfl)) rfl
theorem q7_185 : (Cond.constant "TrustChainModel" (89 : Nat) (1396182291 : Int32)) ∈ tb := tb_in (tm_7 (List.mem_of_getElem? (i := 185) rfl)) rfl
theorem q7_186 : (Cond.constant "TrustChainModel" (90 : Nat) (1695183700 : Int32)) ∈ tb := tb_in (tm_7 (List.mem_of_getElem? (i := 186) rfl)) rfl
theorem q7_187 : (Cond.constant "TrustChainModel" (91 : Nat) (1986661051 : Int32)) ∈ tb := tb_in (tm_7 (List.mem_of_getElem? (i := 187) rfl)) rfl
theorem q7_188 : (Cond.constant "TrustChainModel" (92 : Nat) (-2117940946 : Int32)) ∈ tb := tb_in (tm_7 (List.mem_of_getElem? (i := 188) rfl)) rfl
theorem q7_189 : (Cond.constant "TrustChainModel" (93 : Nat) (-1838011259 : Int32)) ∈ tb := tb_in (tm_7 (List.mem_of_getElem? (i := 189) rfl)) rfl
theorem q7_190 : (Cond.constant "TrustChainModel" (94 : Nat) (-1564481375 : Int32)) ∈ tb := tb_in (tm_7 (List.mem_of_getElem? (i := 190) rfl)) rfl
theorem q7_191 : (Cond.constant "TrustChainModel" (95 : Nat) (-1474664885 : Int32)) ∈ tb := tb_in (tm_7 (List.mem_of_getElem? (i := 191) rfl)) rfl
theorem q7_192 : (Cond.constant "TrustChainModel" (96 : Nat) (-1035236496 : Int32)) ∈ tb := tb_in (tm_7 (List.mem_of_getElem? (i := 192) rfl)) rfl
theorem q7_193 : (Cond.constant "TrustChainModel" (97 : Nat) (-949202525 : Int32)) ∈ tb := tb_in (tm_7 (List.mem_of_getElem? (i := 193) rfl)) rfl
theorem q7_194 : (Cond.constant "TrustChainModel" (98 : Nat) (-778901479 : Int32)) ∈ tb := tb_in (tm_7 (List.mem_of_getElem? (i := 194) rfl)) rfl
theorem q7_195 : (Cond.constant "TrustChainModel" (99 : Nat) (-694614492 : Int32)) ∈ tb := tb_in (tm_7 (List.mem_of_getElem? (i := 195) rfl)) rfl
theorem q7_196 : (Cond.constant "TrustChainModel" (100 : Nat) (-200395387 : Int32)) ∈ tb := tb_in (tm_7 (List.mem_of_getElem? (i := 196) rfl)) rfl
theorem q7_197 : (Cond.constant "TrustChainModel" (101 : Nat) (275423344 : Int32)) ∈ tb := tb_in (tm_7 (List.mem_of_getElem? (i := 197) rfl)) rfl
theorem q7_198 : (Cond.constant "TrustChainModel" (102 : Nat) (430227734 : Int32)) ∈ tb := tb_in (tm_7 (List.mem_of_getElem? (i := 198) rfl)) rfl
theorem q7_199 : (Cond.constant "TrustChainModel" (103 : Nat) (506948616 : Int32)) ∈ tb := tb_in (tm_7 (List.mem_of_getElem? (i := 199) rfl)) rfl
theorem q7_200 : (Cond.constant "TrustChainModel" (104 : Nat) (659060556 : Int32)) ∈ tb := tb_in (tm_7 (List.mem_of_getElem? (i := 200) rfl)) rfl
theorem q7_201 : (Cond.constant "TrustChainModel" (105 : Nat) (883997877 : Int32)) ∈ tb := tb_in (tm_7 (List.mem_of_getElem? (i := 201) rfl)) rfl
theorem q7_202 : (Cond.constant "TrustChainModel" (106 : Nat) (958139571 : Int32)) ∈ tb := tb_in (tm_7 (List.mem_of_getElem? (i := 202) rfl)) rfl
theorem q7_203 : (Cond.constant "TrustChainModel" (107 : Nat) (1322822218 : Int32)) ∈ tb := tb_in (tm_7 (List.mem_of_getElem? (i := 203) rfl)) rfl
theorem q7_204 : (Cond.constant "TrustChainModel" (108 : Nat) (1537002063 : Int32)) ∈ tb := tb_in (tm_7 (List.mem_of_getElem? (i := 204) rfl)) rfl
theorem q7_205 : (Cond.constant "TrustChainModel" (109 : Nat) (1747873779 : Int32)) ∈ tb := tb_in (tm_7 (List.mem_of_getElem? (i := 205) rfl)) rfl
theorem q7_206 : (Cond.constant "TrustChainModel" (110 : Nat) (1955562222 : Int32)) ∈ tb := tb_in (tm_7 (List.mem_of_getElem? (i := 206) rfl)) rfl
theorem q7_207 : (Cond.constant "TrustChainModel" (111 : Nat) (2024104815 : Int32)) ∈ tb := tb_in (tm_7 (List.mem_of_getElem? (i := 207) rfl)) rfl
theorem q7_208 : (Cond.constant "TrustChainModel" (112 : Nat) (-2067236844 : Int32)) ∈ tb := tb_in (tm_7 (List.mem_of_getElem? (i := 208) rfl)) rfl
theorem q7_209 : (Cond.constant "TrustChainModel" (113 : Nat) (-1933114872 : Int32)) ∈ tb := tb_in (tm_7 (List.mem_of_getElem? (i := 209) rfl)) rfl
theorem q7_210 : (Cond.constant "TrustChainModel" (114 : Nat) (-1866530822 : Int32)) ∈ tb := tb_in (tm_7 (List.mem_of_getElem? (i := 210) rfl)) rfl
theorem q7_211 : (Cond.constant "TrustChainModel" (115 : Nat) (-1538233109 : Int32)) ∈ tb := tb_in (tm_7 (List.mem_of_getElem? (i := 211) rfl)) rfl
theorem q7_212 : (Cond.constant "TrustChainModel" (116 : Nat) (-1090935817 : Int32)) ∈ tb := tb_in (tm_7 (List.mem_of_getElem? (i := 212) rfl)) rfl
theorem q7_213 : (Cond.constant "TrustChainModel" (117 : Nat) (-965641998 : Int32)) ∈ tb := tb_in (tm_7 (List.mem_of_getElem? (i := 213) rfl)) rfl
theorem q7_214 : (Cond.fieldLink "TrustChainModel" (145 : Nat) "TrustChainModel" "err" "I") ∈ tb := tb_in (tm_7 (List.mem_of_getElem? (i := 214) rfl)) rfl
theorem q7_215 : (Cond.fieldLink "TrustChainModel" (173 : Nat) "TrustChainModel" "fed" "I") ∈ tb := tb_in (tm_7 (List.mem_of_getElem? (i := 215) rfl)) rfl
theorem q7_216 : (Cond.fieldLink "TrustChainModel" (7 : Nat) "TrustChainModel" "wrong" "I") ∈ tb := tb_in (tm_7 (List.mem_of_getElem? (i := 216) rfl)) rfl
theorem q7_217 : (Cond.fieldLink "TrustChainModel" (183 : Nat) "TrustChainModel" "certificates" "I") ∈ tb := tb_in (tm_7 (List.mem_of_getElem? (i := 217) rfl)) rfl
theorem q7_218 : (Cond.fieldLink "TrustChainModel" (180 : Nat) "TrustChainModel" "lists" "I") ∈ tb := tb_in (tm_7 (List.mem_of_getElem? (i := 218) rfl)) rfl
theorem q7_219 : (Cond.fieldLink "TrustChainModel" (13 : Nat) "TrustChainModel" "octets" "[I") ∈ tb := tb_in (tm_7 (List.mem_of_getElem? (i := 219) rfl)) rfl
theorem q7_220 : (Cond.fieldLink "TrustChainModel" (19 : Nat) "TrustChainModel" "stored" "[LTrustChainModel$Text;") ∈ tb := tb_in (tm_7 (List.mem_of_getElem? (i := 220) rfl)) rfl
theorem q7_221 : (Cond.fieldLink "TrustChainModel" (23 : Nat) "TrustChainModel" "revoked" "[LTrustChainModel$Text;") ∈ tb := tb_in (tm_7 (List.mem_of_getElem? (i := 221) rfl)) rfl
theorem q7_222 : (Cond.fieldLink "TrustChainModel" (27 : Nat) "TrustChainModel" "spare" "LTrustChainModel$Text;") ∈ tb := tb_in (tm_7 (List.mem_of_getElem? (i := 222) rfl)) rfl
theorem q7_223 : (Cond.fieldLink "TrustChainModel" (159 : Nat) "TrustChainModel" "quotientSize" "I") ∈ tb := tb_in (tm_7 (List.mem_of_getElem? (i := 223) rfl)) rfl
theorem q7_224 : (Cond.fieldLink "TrustChainModel" (31 : Nat) "TrustChainModel" "rs" "[I") ∈ tb := tb_in (tm_7 (List.mem_of_getElem? (i := 224) rfl)) rfl
theorem q7_225 : (Cond.fieldLink "TrustChainModel" (34 : Nat) "TrustChainModel" "block" "[I") ∈ tb := tb_in (tm_7 (List.mem_of_getElem? (i := 225) rfl)) rfl
theorem q7_226 : (Cond.fieldLink "TrustChainModel" (37 : Nat) "TrustChainModel" "w" "[I") ∈ tb := tb_in (tm_7 (List.mem_of_getElem? (i := 226) rfl)) rfl
theorem q7_227 : (Cond.fieldLink "TrustChainModel" (40 : Nat) "TrustChainModel" "h" "[I") ∈ tb := tb_in (tm_7 (List.mem_of_getElem? (i := 227) rfl)) rfl
theorem q7_228 : (Cond.fieldLink "TrustChainModel" (51 : Nat) "TrustChainModel" "first" "[I") ∈ tb := tb_in (tm_7 (List.mem_of_getElem? (i := 228) rfl)) rfl
theorem q7_229 : (Cond.fieldLink "TrustChainModel" (118 : Nat) "TrustChainModel" "primes" "[I") ∈ tb := tb_in (tm_7 (List.mem_of_getElem? (i := 229) rfl)) rfl
theorem q7_230 : (Cond.fieldLink "TrustChainModel" (121 : Nat) "TrustChainModel" "x" "[I") ∈ tb := tb_in (tm_7 (List.mem_of_getElem? (i := 230) rfl)) rfl
theorem q7_231 : (Cond.fieldLink "TrustChainModel" (124 : Nat) "TrustChainModel" "y" "[I") ∈ tb := tb_in (tm_7 (List.mem_of_getElem? (i := 231) rfl)) rfl
theorem q7_232 : (Cond.fieldLink "TrustChainModel" (127 : Nat) "TrustChainModel" "m" "[I") ∈ tb := tb_in (tm_7 (List.mem_of_getElem? (i := 232) rfl)) rfl
theorem q7_233 : (Cond.fieldLink "TrustChainModel" (130 : Nat) "TrustChainModel" "q" "[I") ∈ tb := tb_in (tm_7 (List.mem_of_getElem? (i := 233) rfl)) rfl
theorem q7_234 : (Cond.fieldLink "TrustChainModel" (133 : Nat) "TrustChainModel" "z" "[I") ∈ tb := tb_in (tm_7 (List.mem_of_getElem? (i := 234) rfl)) rfl
theorem q7_235 : (Cond.fieldLink "TrustChainModel" (136 : Nat) "TrustChainModel" "way" "[I") ∈ tb := tb_in (tm_7 (List.mem_of_getElem? (i := 235) rfl)) rfl
theorem q7_236 : (Cond.fieldLink "TrustChainModel" (139 : Nat) "TrustChainModel" "found" "[I") ∈ tb := tb_in (tm_7 (List.mem_of_getElem? (i := 236) rfl)) rfl
theorem q7_237 : (Cond.fieldLink "TrustChainModel" (333 : Nat) "TrustChainModel" "size" "I") ∈ tb := tb_in (tm_7 (List.mem_of_getElem? (i := 237) rfl)) rfl
theorem q7_238 : (Cond.fieldLink "TrustChainModel" (324 : Nat) "TrustChainModel" "chainSize" "I") ∈ tb := tb_in (tm_7 (List.mem_of_getElem? (i := 238) rfl)) rfl
theorem q7_239 : (Cond.fieldLink "TrustChainModel" (321 : Nat) "TrustChainModel" "chains" "I") ∈ tb := tb_in (tm_7 (List.mem_of_getElem? (i := 239) rfl)) rfl
theorem q8_0 : (Cond.fieldLink "TrustChainModel" (142 : Nat) "TrustChainModel" "faultAt" "I") ∈ tb := tb_in (tm_8 (List.mem_of_getElem? (i := 0) rfl)) rfl
theorem q8_1 : (Cond.fieldLink "TrustChainModel" (330 : Nat) "TrustChainModel" "put" "I") ∈ tb := tb_in (tm_8 (List.mem_of_getElem? (i := 1) rfl)) rfl
theorem q8_2 : (Cond.fieldLink "TrustChainModel" (315 : Nat) "TrustChainModel" "depth" "I") ∈ tb := tb_in (tm_8 (List.mem_of_getElem? (i := 2) rfl)) rfl
theorem q8_3 : (Cond.fieldLink "TrustChainModel" (327 : Nat) "TrustChainModel" "verdict" "I") ∈ tb := tb_in (tm_8 (List.mem_of_getElem? (i := 3) rfl)) rfl
theorem q8_4 : (Cond.fieldLink "TrustChainModel" (312 : Nat) "TrustChainModel" "now" "J") ∈ tb := tb_in (tm_8 (List.mem_of_getElem? (i := 4) rfl)) rfl
theorem q8_5 : (Cond.fieldLink "TrustChainModel" (318 : Nat) "TrustChainModel" "mustKnow" "Z") ∈ tb := tb_in (tm_8 (List.mem_of_getElem? (i := 5) rfl)) rfl
theorem q8_6 : (Cond.lays "TrustChainModel" "TrustChainModel" "err" "I") ∈ tb := tb_in (tm_8 (List.mem_of_getElem? (i := 6) rfl)) rfl
theorem q8_8 : (Cond.lays "TrustChainModel" "TrustChainModel" "fed" "I") ∈ tb := tb_in (tm_8 (List.mem_of_getElem? (i := 8) rfl)) rfl
theorem q8_10 : (Cond.lays "TrustChainModel" "TrustChainModel" "wrong" "I") ∈ tb := tb_in (tm_8 (List.mem_of_getElem? (i := 10) rfl)) rfl
theorem q8_12 : (Cond.lays "TrustChainModel" "TrustChainModel" "certificates" "I") ∈ tb := tb_in (tm_8 (List.mem_of_getElem? (i := 12) rfl)) rfl
theorem q8_14 : (Cond.lays "TrustChainModel" "TrustChainModel" "lists" "I") ∈ tb := tb_in (tm_8 (List.mem_of_getElem? (i := 14) rfl)) rfl
theorem q8_16 : (Cond.laysFinal "TrustChainModel" "TrustChainModel" "octets" "[I") ∈ tb := tb_in (tm_8 (List.mem_of_getElem? (i := 16) rfl)) rfl
theorem q8_18 : (Cond.laysFinal "TrustChainModel" "TrustChainModel" "stored" "[LTrustChainModel$Text;") ∈ tb := tb_in (tm_8 (List.mem_of_getElem? (i := 18) rfl)) rfl
theorem q8_20 : (Cond.laysFinal "TrustChainModel" "TrustChainModel" "revoked" "[LTrustChainModel$Text;") ∈ tb := tb_in (tm_8 (List.mem_of_getElem? (i := 20) rfl)) rfl
theorem q8_22 : (Cond.lays "TrustChainModel" "TrustChainModel" "spare" "LTrustChainModel$Text;") ∈ tb := tb_in (tm_8 (List.mem_of_getElem? (i := 22) rfl)) rfl
theorem q8_24 : (Cond.lays "TrustChainModel" "TrustChainModel" "quotientSize" "I") ∈ tb := tb_in (tm_8 (List.mem_of_getElem? (i := 24) rfl)) rfl
theorem q8_26 : (Cond.laysFinal "TrustChainModel" "TrustChainModel" "rs" "[I") ∈ tb := tb_in (tm_8 (List.mem_of_getElem? (i := 26) rfl)) rfl
theorem q8_28 : (Cond.laysFinal "TrustChainModel" "TrustChainModel" "block" "[I") ∈ tb := tb_in (tm_8 (List.mem_of_getElem? (i := 28) rfl)) rfl
theorem q8_30 : (Cond.laysFinal "TrustChainModel" "TrustChainModel" "w" "[I") ∈ tb := tb_in (tm_8 (List.mem_of_getElem? (i := 30) rfl)) rfl
theorem q8_32 : (Cond.laysFinal "TrustChainModel" "TrustChainModel" "h" "[I") ∈ tb := tb_in (tm_8 (List.mem_of_getElem? (i := 32) rfl)) rfl
theorem q8_34 : (Cond.laysFinal "TrustChainModel" "TrustChainModel" "first" "[I") ∈ tb := tb_in (tm_8 (List.mem_of_getElem? (i := 34) rfl)) rfl
theorem q8_36 : (Cond.laysFinal "TrustChainModel" "TrustChainModel" "primes" "[I") ∈ tb := tb_in (tm_8 (List.mem_of_getElem? (i := 36) rfl)) rfl
theorem q8_38 : (Cond.laysFinal "TrustChainModel" "TrustChainModel" "x" "[I") ∈ tb := tb_in (tm_8 (List.mem_of_getElem? (i := 38) rfl)) rfl
theorem q8_40 : (Cond.laysFinal "TrustChainModel" "TrustChainModel" "y" "[I") ∈ tb := tb_in (tm_8 (List.mem_of_getElem? (i := 40) rfl)) rfl
theorem q8_42 : (Cond.laysFinal "TrustChainModel" "TrustChainModel" "m" "[I") ∈ tb := tb_in (tm_8 (List.mem_of_getElem? (i := 42) rfl)) rfl
theorem q8_44 : (Cond.laysFinal "TrustChainModel" "TrustChainModel" "q" "[I") ∈ tb := tb_in (tm_8 (List.mem_of_getElem? (i := 44) rfl)) rfl
theorem q8_46 : (Cond.laysFinal "TrustChainModel" "TrustChainModel" "z" "[I") ∈ tb := tb_in (tm_8 (List.mem_of_getElem? (i := 46) rfl)) rfl
theorem q8_48 : (Cond.laysFinal "TrustChainModel" "TrustChainModel" "way" "[I") ∈ tb := tb_in (tm_8 (List.mem_of_getElem? (i := 48) rfl)) rfl
theorem q8_50 : (Cond.laysFinal "TrustChainModel" "TrustChainModel" "found" "[I") ∈ tb := tb_in (tm_8 (List.mem_of_getElem? (i := 50) rfl)) rfl
theorem q8_52 : (Cond.lays "TrustChainModel" "TrustChainModel" "size" "I") ∈ tb := tb_in (tm_8 (List.mem_of_getElem? (i := 52) rfl)) rfl
theorem q8_54 : (Cond.lays "TrustChainModel" "TrustChainModel" "chainSize" "I") ∈ tb := tb_in (tm_8 (List.mem_of_getElem? (i := 54) rfl)) rfl
theorem q8_56 : (Cond.lays "TrustChainModel" "TrustChainModel" "chains" "I") ∈ tb := tb_in (tm_8 (List.mem_of_getElem? (i := 56) rfl)) rfl
theorem q8_58 : (Cond.lays "TrustChainModel" "TrustChainModel" "faultAt" "I") ∈ tb := tb_in (tm_8 (List.mem_of_getElem? (i := 58) rfl)) rfl
theorem q8_60 : (Cond.lays "TrustChainModel" "TrustChainModel" "put" "I") ∈ tb := tb_in (tm_8 (List.mem_of_getElem? (i := 60) rfl)) rfl
theorem q8_62 : (Cond.lays "TrustChainModel" "TrustChainModel" "depth" "I") ∈ tb := tb_in (tm_8 (List.mem_of_getElem? (i := 62) rfl)) rfl
theorem q8_64 : (Cond.lays "TrustChainModel" "TrustChainModel" "verdict" "I") ∈ tb := tb_in (tm_8 (List.mem_of_getElem? (i := 64) rfl)) rfl
theorem q8_66 : (Cond.lays "TrustChainModel" "TrustChainModel" "now" "J") ∈ tb := tb_in (tm_8 (List.mem_of_getElem? (i := 66) rfl)) rfl
theorem q8_68 : (Cond.lays "TrustChainModel" "TrustChainModel" "mustKnow" "Z") ∈ tb := tb_in (tm_8 (List.mem_of_getElem? (i := 68) rfl)) rfl
theorem q8_71 : (Cond.methodLink "TrustChainLaw" (110 : Nat) ({ cls := "TrustChainModel", name := "thrown", desc := "()I" } : MethodName)) ∈ tb := tb_in (tm_8 (List.mem_of_getElem? (i := 71) rfl)) rfl
theorem q8_72 : (Cond.instanceMethod ({ cls := "TrustChainModel", name := "thrown", desc := "()I" } : MethodName)) ∈ tb := tb_in (tm_8 (List.mem_of_getElem? (i := 72) rfl)) rfl
theorem q8_73 : (Cond.selects "TrustChainModel" ({ cls := "TrustChainModel", name := "thrown", desc := "()I" } : MethodName) ({ cls := "TrustChainModel", name := "thrown", desc := "()I" } : MethodName)) ∈ tb := tb_in (tm_8 (List.mem_of_getElem? (i := 73) rfl)) rfl
theorem q8_74 : (Cond.code ({ cls := "TrustChainModel", name := "thrown", desc := "()I" } : MethodName) prog_14_method_2_code (1 : Nat) (some FieldType.int)) ∈ tb := tb_in (tm_8 (List.mem_of_getElem? (i := 74) rfl)) rfl
theorem q8_75 : (Cond.methodLink "TrustChainLaw" (67 : Nat) ({ cls := "TrustChainModel", name := "feed", desc := "(IIIII)I" } : MethodName)) ∈ tb := tb_in (tm_8 (List.mem_of_getElem? (i := 75) rfl)) rfl
theorem q8_76 : (Cond.instanceMethod ({ cls := "TrustChainModel", name := "feed", desc := "(IIIII)I" } : MethodName)) ∈ tb := tb_in (tm_8 (List.mem_of_getElem? (i := 76) rfl)) rfl
theorem q8_77 : (Cond.selects "TrustChainModel" ({ cls := "TrustChainModel", name := "feed", desc := "(IIIII)I" } : MethodName) ({ cls := "TrustChainModel", name := "feed", desc := "(IIIII)I" } : MethodName)) ∈ tb := tb_in (tm_8 (List.mem_of_getElem? (i := 77) rfl)) rfl
theorem q8_78 : (Cond.code ({ cls := "TrustChainModel", name := "feed", desc := "(IIIII)I" } : MethodName) prog_14_method_14_code (8 : Nat) (some FieldType.int)) ∈ tb := tb_in (tm_8 (List.mem_of_getElem? (i := 78) rfl)) rfl
theorem q8_79 : (Cond.methodLink "TrustChainModel" (176 : Nat) ({ cls := "TrustChainModel", name := "fails", desc := "(ZI)Z" } : MethodName)) ∈ tb := tb_in (tm_8 (List.mem_of_getElem? (i := 79) rfl)) rfl
theorem q8_81 : (Cond.instanceMethod ({ cls := "TrustChainModel", name := "fails", desc := "(ZI)Z" } : MethodName)) ∈ tb := tb_in (tm_8 (List.mem_of_getElem? (i := 81) rfl)) rfl
theorem q8_82 : (Cond.code ({ cls := "TrustChainModel", name := "fails", desc := "(ZI)Z" } : MethodName) prog_14_method_13_code (3 : Nat) (some FieldType.boolean)) ∈ tb := tb_in (tm_8 (List.mem_of_getElem? (i := 82) rfl)) rfl
theorem q8_83 : (Cond.methodLink "TrustChainLaw" (71 : Nat) ({ cls := "TrustChainModel", name := "certificate", desc := "(IZ)I" } : MethodName)) ∈ tb := tb_in (tm_8 (List.mem_of_getElem? (i := 83) rfl)) rfl
theorem q8_84 : (Cond.instanceMethod ({ cls := "TrustChainModel", name := "certificate", desc := "(IZ)I" } : MethodName)) ∈ tb := tb_in (tm_8 (List.mem_of_getElem? (i := 84) rfl)) rfl
theorem q8_85 : (Cond.selects "TrustChainModel" ({ cls := "TrustChainModel", name := "certificate", desc := "(IZ)I" } : MethodName) ({ cls := "TrustChainModel", name := "certificate", desc := "(IZ)I" } : MethodName)) ∈ tb := tb_in (tm_8 (List.mem_of_getElem? (i := 85) rfl)) rfl
theorem q8_86 : (Cond.code ({ cls := "TrustChainModel", name := "certificate", desc := "(IZ)I" } : MethodName) prog_14_method_16_code (4 : Nat) (some FieldType.int)) ∈ tb := tb_in (tm_8 (List.mem_of_getElem? (i := 86) rfl)) rfl
theorem q8_87 : (Cond.methodLink "TrustChainModel" (197 : Nat) ({ cls := "TrustChainModel", name := "store", desc := "(IZ)I" } : MethodName)) ∈ tb := tb_in (tm_8 (List.mem_of_getElem? (i := 87) rfl)) rfl
theorem q8_89 : (Cond.instanceMethod ({ cls := "TrustChainModel", name := "store", desc := "(IZ)I" } : MethodName)) ∈ tb := tb_in (tm_8 (List.mem_of_getElem? (i := 89) rfl)) rfl
theorem q8_90 : (Cond.code ({ cls := "TrustChainModel", name := "store", desc := "(IZ)I" } : MethodName) prog_14_method_15_code (6 : Nat) (some FieldType.int)) ∈ tb := tb_in (tm_8 (List.mem_of_getElem? (i := 90) rfl)) rfl
theorem q8_91 : (Cond.methodLink "TrustChainModel" (192 : Nat) ({ cls := "TrustChainModel$Text", name := "read", desc := "(Z)Z" } : MethodName)) ∈ tb := tb_in (tm_8 (List.mem_of_getElem? (i := 91) rfl)) rfl
theorem q8_92 : (Cond.instanceMethod ({ cls := "TrustChainModel$Text", name := "read", desc := "(Z)Z" } : MethodName)) ∈ tb := tb_in (tm_8 (List.mem_of_getElem? (i := 92) rfl)) rfl
theorem q8_93 : (Cond.selects "TrustChainModel$Text" ({ cls := "TrustChainModel$Text", name := "read", desc := "(Z)Z" } : MethodName) ({ cls := "TrustChainModel$Text", name := "read", desc := "(Z)Z" } : MethodName)) ∈ tb := tb_in (tm_8 (List.mem_of_getElem? (i := 93) rfl)) rfl
theorem q8_94 : (Cond.code ({ cls := "TrustChainModel$Text", name := "read", desc := "(Z)Z" } : MethodName) prog_15_method_28_code (3 : Nat) (some FieldType.boolean)) ∈ tb := tb_in (tm_8 (List.mem_of_getElem? (i := 94) rfl)) rfl
theorem q8_95 : (Cond.methodLink "TrustChainModel$Text" (68 : Nat) ({ cls := "TrustChainModel$Text", name := "element", desc := "(II)Z" } : MethodName)) ∈ tb := tb_in (tm_8 (List.mem_of_getElem? (i := 95) rfl)) rfl
theorem q8_96 : (Cond.instanceMethod ({ cls := "TrustChainModel$Text", name := "element", desc := "(II)Z" } : MethodName)) ∈ tb := tb_in (tm_8 (List.mem_of_getElem? (i := 96) rfl)) rfl
theorem q8_97 : (Cond.selects "TrustChainModel$Text" ({ cls := "TrustChainModel$Text", name := "element", desc := "(II)Z" } : MethodName) ({ cls := "TrustChainModel$Text", name := "element", desc := "(II)Z" } : MethodName)) ∈ tb := tb_in (tm_8 (List.mem_of_getElem? (i := 97) rfl)) rfl
theorem q8_98 : (Cond.code ({ cls := "TrustChainModel$Text", name := "element", desc := "(II)Z" } : MethodName) prog_15_method_4_code (5 : Nat) (some FieldType.boolean)) ∈ tb := tb_in (tm_8 (List.mem_of_getElem? (i := 98) rfl)) rfl
theorem q8_99 : (Cond.methodLink "TrustChainModel$Text" (55 : Nat) ({ cls := "TrustChainModel$Text", name := "bad", desc := "(I)Z" } : MethodName)) ∈ tb := tb_in (tm_8 (List.mem_of_getElem? (i := 99) rfl)) rfl
theorem q8_100 : (Cond.instanceMethod ({ cls := "TrustChainModel$Text", name := "bad", desc := "(I)Z" } : MethodName)) ∈ tb := tb_in (tm_8 (List.mem_of_getElem? (i := 100) rfl)) rfl
theorem q8_101 : (Cond.selects "TrustChainModel$Text" ({ cls := "TrustChainModel$Text", name := "bad", desc := "(I)Z" } : MethodName) ({ cls := "TrustChainModel$Text", name := "bad", desc := "(I)Z" } : MethodName)) ∈ tb := tb_in (tm_8 (List.mem_of_getElem? (i := 101) rfl)) rfl
theorem q8_102 : (Cond.code ({ cls := "TrustChainModel$Text", name := "bad", desc := "(I)Z" } : MethodName) prog_15_method_2_code (2 : Nat) (some FieldType.boolean)) ∈ tb := tb_in (tm_8 (List.mem_of_getElem? (i := 102) rfl)) rfl
theorem q8_103 : (Cond.methodLink "TrustChainModel$Text" (258 : Nat) ({ cls := "TrustChainModel$Text", name := "list", desc := "(I)Z" } : MethodName)) ∈ tb := tb_in (tm_8 (List.mem_of_getElem? (i := 103) rfl)) rfl
theorem q8_104 : (Cond.instanceMethod ({ cls := "TrustChainModel$Text", name := "list", desc := "(I)Z" } : MethodName)) ∈ tb := tb_in (tm_8 (List.mem_of_getElem? (i := 104) rfl)) rfl
theorem q8_105 : (Cond.selects "TrustChainModel$Text" ({ cls := "TrustChainModel$Text", name := "list", desc := "(I)Z" } : MethodName) ({ cls := "TrustChainModel$Text", name := "list", desc := "(I)Z" } : MethodName)) ∈ tb := tb_in (tm_8 (List.mem_of_getElem? (i := 105) rfl)) rfl
theorem q8_106 : (Cond.code ({ cls := "TrustChainModel$Text", name := "list", desc := "(I)Z" } : MethodName) prog_15_method_31_code (4 : Nat) (some FieldType.boolean)) ∈ tb := tb_in (tm_8 (List.mem_of_getElem? (i := 106) rfl)) rfl
theorem q8_107 : (Cond.methodLink "TrustChainModel$Text" (219 : Nat) ({ cls := "TrustChainModel$Text", name := "number", desc := "(III)Z" } : MethodName)) ∈ tb := tb_in (tm_8 (List.mem_of_getElem? (i := 107) rfl)) rfl
theorem q8_108 : (Cond.instanceMethod ({ cls := "TrustChainModel$Text", name := "number", desc := "(III)Z" } : MethodName)) ∈ tb := tb_in (tm_8 (List.mem_of_getElem? (i := 108) rfl)) rfl
theorem q8_109 : (Cond.selects "TrustChainModel$Text" ({ cls := "TrustChainModel$Text", name := "number", desc := "(III)Z" } : MethodName) ({ cls := "TrustChainModel$Text", name := "number", desc := "(III)Z" } : MethodName)) ∈ tb := tb_in (tm_8 (List.mem_of_getElem? (i := 109) rfl)) rfl
theorem q8_110 : (Cond.code ({ cls := "TrustChainModel$Text", name := "number", desc := "(III)Z" } : MethodName) prog_15_method_7_code (6 : Nat) (some FieldType.boolean)) ∈ tb := tb_in (tm_8 (List.mem_of_getElem? (i := 110) rfl)) rfl
theorem q8_111 : (Cond.methodLink "TrustChainModel$Text" (72 : Nat) ({ cls := "TrustChainModel$Text", name := "integer", desc := "(I)Z" } : MethodName)) ∈ tb := tb_in (tm_8 (List.mem_of_getElem? (i := 111) rfl)) rfl
theorem q8_112 : (Cond.instanceMethod ({ cls := "TrustChainModel$Text", name := "integer", desc := "(I)Z" } : MethodName)) ∈ tb := tb_in (tm_8 (List.mem_of_getElem? (i := 112) rfl)) rfl
theorem q8_113 : (Cond.selects "TrustChainModel$Text" ({ cls := "TrustChainModel$Text", name := "integer", desc := "(I)Z" } : MethodName) ({ cls := "TrustChainModel$Text", name := "integer", desc := "(I)Z" } : MethodName)) ∈ tb := tb_in (tm_8 (List.mem_of_getElem? (i := 113) rfl)) rfl
theorem q8_114 : (Cond.code ({ cls := "TrustChainModel$Text", name := "integer", desc := "(I)Z" } : MethodName) prog_15_method_6_code (3 : Nat) (some FieldType.boolean)) ∈ tb := tb_in (tm_8 (List.mem_of_getElem? (i := 114) rfl)) rfl
theorem q8_115 : (Cond.methodLinkNest "TrustChainModel$Text" (79 : Nat) ({ cls := "TrustChainModel", name := "in", desc := "(III)Z" } : MethodName) "TrustChainModel") ∈ lw_tbl := tm_8 (List.mem_of_getElem? (i := 115) rfl)
theorem q8_116 : (Cond.static ({ cls := "TrustChainModel", name := "in", desc := "(III)Z" } : MethodName)) ∈ tb := tb_in (tm_8 (List.mem_of_getElem? (i := 116) rfl)) rfl
theorem q8_117 : (Cond.code ({ cls := "TrustChainModel", name := "in", desc := "(III)Z" } : MethodName) prog_14_method_12_code (3 : Nat) (some FieldType.boolean)) ∈ tb := tb_in (tm_8 (List.mem_of_getElem? (i := 117) rfl)) rfl
theorem q8_118 : (Cond.stringRef "TrustChainModel$Text" (264 : Nat) "2A864886F70D01010B") ∈ lw_tbl := tm_8 (List.mem_of_getElem? (i := 118) rfl)
theorem q8_119 : (Cond.methodLink "TrustChainModel$Text" (266 : Nat) ({ cls := "TrustChainModel$Text", name := "algorithm", desc := "(ILjava/lang/String;)Z" } : MethodName)) ∈ tb := tb_in (tm_8 (List.mem_of_getElem? (i := 119) rfl)) rfl
theorem q8_120 : (Cond.instanceMethod ({ cls := "TrustChainModel$Text", name := "algorithm", desc := "(ILjava/lang/String;)Z" } : MethodName)) ∈ tb := tb_in (tm_8 (List.mem_of_getElem? (i := 120) rfl)) rfl
theorem q8_121 : (Cond.selects "TrustChainModel$Text" ({ cls := "TrustChainModel$Text", name := "algorithm", desc := "(ILjava/lang/String;)Z" } : MethodName) ({ cls := "TrustChainModel$Text", name := "algorithm", desc := "(ILjava/lang/String;)Z" } : MethodName)) ∈ tb := tb_in (tm_8 (List.mem_of_getElem? (i := 121) rfl)) rfl
theorem q8_122 : (Cond.code ({ cls := "TrustChainModel$Text", name := "algorithm", desc := "(ILjava/lang/String;)Z" } : MethodName) prog_15_method_11_code (4 : Nat) (some FieldType.boolean)) ∈ tb := tb_in (tm_8 (List.mem_of_getElem? (i := 122) rfl)) rfl
theorem q8_123 : (Cond.methodLink "TrustChainModel$Text" (97 : Nat) ({ cls := "TrustChainModel$Text", name := "oid", desc := "(I)Z" } : MethodName)) ∈ tb := tb_in (tm_8 (List.mem_of_getElem? (i := 123) rfl)) rfl
theorem q8_124 : (Cond.instanceMethod ({ cls := "TrustChainModel$Text", name := "oid", desc := "(I)Z" } : MethodName)) ∈ tb := tb_in (tm_8 (List.mem_of_getElem? (i := 124) rfl)) rfl
theorem q8_125 : (Cond.selects "TrustChainModel$Text" ({ cls := "TrustChainModel$Text", name := "oid", desc := "(I)Z" } : MethodName) ({ cls := "TrustChainModel$Text", name := "oid", desc := "(I)Z" } : MethodName)) ∈ tb := tb_in (tm_8 (List.mem_of_getElem? (i := 125) rfl)) rfl
theorem q8_126 : (Cond.code ({ cls := "TrustChainModel$Text", name := "oid", desc := "(I)Z" } : MethodName) prog_15_method_8_code (3 : Nat) (some FieldType.boolean)) ∈ tb := tb_in (tm_8 (List.mem_of_getElem? (i := 126) rfl)) rfl
theorem q8_127 : (Cond.methodLink "TrustChainModel$Text" (100 : Nat) ({ cls := "TrustChainModel$Text", name := "is", desc := "(Ljava/lang/String;)Z" } : MethodName)) ∈ tb := tb_in (tm_8 (List.mem_of_getElem? (i := 127) rfl)) rfl
theorem q8_128 : (Cond.instanceMethod ({ cls := "TrustChainModel$Text", name := "is", desc := "(Ljava/lang/String;)Z" } : MethodName)) ∈ tb := tb_in (tm_8 (List.mem_of_getElem? (i := 128) rfl)) rfl
theorem q8_129 : (Cond.selects "TrustChainModel$Text" ({ cls := "TrustChainModel$Text", name := "is", desc := "(Ljava/lang/String;)Z" } : MethodName) ({ cls := "TrustChainModel$Text", name := "is", desc := "(Ljava/lang/String;)Z" } : MethodName)) ∈ tb := tb_in (tm_8 (List.mem_of_getElem? (i := 129) rfl)) rfl
theorem q8_130 : (Cond.code ({ cls := "TrustChainModel$Text", name := "is", desc := "(Ljava/lang/String;)Z" } : MethodName) prog_15_method_9_code (3 : Nat) (some FieldType.boolean)) ∈ tb := tb_in (tm_8 (List.mem_of_getElem? (i := 130) rfl)) rfl
theorem q8_131 : (Cond.methodLink "TrustChainModel$Text" (83 : Nat) ({ cls := "java/lang/String", name := "length", desc := "()I" } : MethodName)) ∈ tb := tb_in (tm_8 (List.mem_of_getElem? (i := 131) rfl)) rfl
theorem q8_132 : (Cond.instanceMethod ({ cls := "java/lang/String", name := "length", desc := "()I" } : MethodName)) ∈ tb := tb_in (tm_8 (List.mem_of_getElem? (i := 132) rfl)) rfl
theorem q8_133 : (Cond.selects "java/lang/String" ({ cls := "java/lang/String", name := "length", desc := "()I" } : MethodName) ({ cls := "java/lang/String", name := "length", desc := "()I" } : MethodName)) ∈ tb := tb_in (tm_8 (List.mem_of_getElem? (i := 133) rfl)) rfl
theorem q8_134 : (Cond.code ({ cls := "java/lang/String", name := "length", desc := "()I" } : MethodName) prog_25_method_54_code (1 : Nat) (some FieldType.int)) ∈ tb := tb_in (tm_8 (List.mem_of_getElem? (i := 134) rfl)) rfl
theorem q8_135 : (Cond.methodLink "java/lang/String" (335 : Nat) ({ cls := "java/lang/String", name := "coder", desc := "()B" } : MethodName)) ∈ tb := tb_in (tm_8 (List.mem_of_getElem? (i := 135) rfl)) rfl
theorem q8_136 : (Cond.instanceMethod ({ cls := "java/lang/String", name := "coder", desc := "()B" } : MethodName)) ∈ tb := tb_in (tm_8 (List.mem_of_getElem? (i := 136) rfl)) rfl
theorem q8_137 : (Cond.selects "java/lang/String" ({ cls := "java/lang/String", name := "coder", desc := "()B" } : MethodName) ({ cls := "java/lang/String", name := "coder", desc := "()B" } : MethodName)) ∈ tb := tb_in (tm_8 (List.mem_of_getElem? (i := 137) rfl)) rfl
theorem q8_138 : (Cond.code ({ cls := "java/lang/String", name := "coder", desc := "()B" } : MethodName) prog_25_method_152_code (1 : Nat) (some FieldType.byte)) ∈ tb := tb_in (tm_8 (List.mem_of_getElem? (i := 138) rfl)) rfl
theorem q8_139 : (Cond.fieldLink "java/lang/String" (38 : Nat) "java/lang/String" "COMPACT_STRINGS" "Z") ∈ tb := tb_in (tm_8 (List.mem_of_getElem? (i := 139) rfl)) rfl
theorem q8_140 : (Cond.laysStatic "java/lang/String" "COMPACT_STRINGS" "Z") ∈ lw_tbl := tm_8 (List.mem_of_getElem? (i := 140) rfl)
theorem q8_141 : (Cond.methodLink "TrustChainModel$Text" (89 : Nat) ({ cls := "java/lang/String", name := "charAt", desc := "(I)C" } : MethodName)) ∈ tb := tb_in (tm_8 (List.mem_of_getElem? (i := 141) rfl)) rfl
theorem q8_142 : (Cond.instanceMethod ({ cls := "java/lang/String", name := "charAt", desc := "(I)C" } : MethodName)) ∈ tb := tb_in (tm_8 (List.mem_of_getElem? (i := 142) rfl)) rfl
theorem q8_143 : (Cond.selects "java/lang/String" ({ cls := "java/lang/String", name := "charAt", desc := "(I)C" } : MethodName) ({ cls := "java/lang/String", name := "charAt", desc := "(I)C" } : MethodName)) ∈ tb := tb_in (tm_8 (List.mem_of_getElem? (i := 143) rfl)) rfl
theorem q8_144 : (Cond.code ({ cls := "java/lang/String", name := "charAt", desc := "(I)C" } : MethodName) prog_25_method_56_code (2 : Nat) (some FieldType.char)) ∈ tb := tb_in (tm_8 (List.mem_of_getElem? (i := 144) rfl)) rfl
theorem q8_145 : (Cond.methodLink "java/lang/String" (492 : Nat) ({ cls := "java/lang/String", name := "isLatin1", desc := "()Z" } : MethodName)) ∈ tb := tb_in (tm_8 (List.mem_of_getElem? (i := 145) rfl)) rfl
theorem q8_146 : (Cond.instanceMethod ({ cls := "java/lang/String", name := "isLatin1", desc := "()Z" } : MethodName)) ∈ tb := tb_in (tm_8 (List.mem_of_getElem? (i := 146) rfl)) rfl
theorem q8_147 : (Cond.selects "java/lang/String" ({ cls := "java/lang/String", name := "isLatin1", desc := "()Z" } : MethodName) ({ cls := "java/lang/String", name := "isLatin1", desc := "()Z" } : MethodName)) ∈ tb := tb_in (tm_8 (List.mem_of_getElem? (i := 147) rfl)) rfl
theorem q8_148 : (Cond.code ({ cls := "java/lang/String", name := "isLatin1", desc := "()Z" } : MethodName) prog_25_method_154_code (1 : Nat) (some FieldType.boolean)) ∈ tb := tb_in (tm_8 (List.mem_of_getElem? (i := 148) rfl)) rfl
theorem q8_149 : (Cond.methodLink "java/lang/String" (495 : Nat) ({ cls := "java/lang/StringLatin1", name := "charAt", desc := "([BI)C" } : MethodName)) ∈ tb := tb_in (tm_8 (List.mem_of_getElem? (i := 149) rfl)) rfl
theorem q8_150 : (Cond.static ({ cls := "java/lang/StringLatin1", name := "charAt", desc := "([BI)C" } : MethodName)) ∈ tb := tb_in (tm_8 (List.mem_of_getElem? (i := 150) rfl)) rfl
theorem q8_151 : (Cond.code ({ cls := "java/lang/StringLatin1", name := "charAt", desc := "([BI)C" } : MethodName) prog_26_method_2_code (2 : Nat) (some FieldType.char)) ∈ tb := tb_in (tm_8 (List.mem_of_getElem? (i := 151) rfl)) rfl
theorem q8_152 : (Cond.methodLink "java/lang/StringLatin1" (9 : Nat) ({ cls := "java/lang/String", name := "checkIndex", desc := "(II)V" } : MethodName)) ∈ tb := tb_in (tm_8 (List.mem_of_getElem? (i := 152) rfl)) rfl
theorem q8_153 : (Cond.static ({ cls := "java/lang/String", name := "checkIndex", desc := "(II)V" } : MethodName)) ∈ tb := tb_in (tm_8 (List.mem_of_getElem? (i := 153) rfl)) rfl
theorem q8_154 : (Cond.code ({ cls := "java/lang/String", name := "checkIndex", desc := "(II)V" } : MethodName) prog_25_method_155_code (2 : Nat) none) ∈ tb := tb_in (tm_8 (List.mem_of_getElem? (i := 154) rfl)) rfl
theorem q8_155 : (Cond.fieldLink "java/lang/String" (1053 : Nat) "jdk/internal/util/Preconditions" "SIOOBE_FORMATTER" "Ljava/util/function/BiFunction;") ∈ tb := tb_in (tm_8 (List.mem_of_getElem? (i := 155) rfl)) rfl
theorem q8_156 : (Cond.laysStatic "jdk/internal/util/Preconditions" "SIOOBE_FORMATTER" "Ljava/util/function/BiFunction;") ∈ lw_tbl := tm_8 (List.mem_of_getElem? (i := 156) rfl)
theorem q8_157 : (Cond.methodLink "java/lang/String" (1059 : Nat) ({ cls := "jdk/internal/util/Preconditions", name := "checkIndex", desc := "(IILjava/util/function/BiFunction;)I" } : MethodName)) ∈ tb := tb_in (tm_8 (List.mem_of_getElem? (i := 157) rfl)) rfl
theorem q8_177 : (Cond.methodLinkNest "TrustChainModel$Text" (93 : Nat) ({ cls := "TrustChainModel", name := "hexOf", desc := "(I)I" } : MethodName) "TrustChainModel") ∈ lw_tbl := tm_8 (List.mem_of_getElem? (i := 177) rfl)
theorem q8_178 : (Cond.static ({ cls := "TrustChainModel", name := "hexOf", desc := "(I)I" } : MethodName)) ∈ tb := tb_in (tm_8 (List.mem_of_getElem? (i := 178) rfl)) rfl
theorem q8_179 : (Cond.code ({ cls := "TrustChainModel", name := "hexOf", desc := "(I)I" } : MethodName) prog_14_method_10_code (1 : Nat) (some FieldType.int)) ∈ tb := tb_in (tm_8 (List.mem_of_getElem? (i := 179) rfl)) rfl
theorem q8_180 : (Cond.methodLink "TrustChainModel$Text" (104 : Nat) ({ cls := "TrustChainModel$Text", name := "nothing", desc := "(I)Z" } : MethodName)) ∈ tb := tb_in (tm_8 (List.mem_of_getElem? (i := 180) rfl)) rfl
theorem q8_181 : (Cond.instanceMethod ({ cls := "TrustChainModel$Text", name := "nothing", desc := "(I)Z" } : MethodName)) ∈ tb := tb_in (tm_8 (List.mem_of_getElem? (i := 181) rfl)) rfl
theorem q8_182 : (Cond.selects "TrustChainModel$Text" ({ cls := "TrustChainModel$Text", name := "nothing", desc := "(I)Z" } : MethodName) ({ cls := "TrustChainModel$Text", name := "nothing", desc := "(I)Z" } : MethodName)) ∈ tb := tb_in (tm_8 (List.mem_of_getElem? (i := 182) rfl)) rfl
theorem q8_183 : (Cond.code ({ cls := "TrustChainModel$Text", name := "nothing", desc := "(I)Z" } : MethodName) prog_15_method_10_code (2 : Nat) (some FieldType.boolean)) ∈ tb := tb_in (tm_8 (List.mem_of_getElem? (i := 183) rfl)) rfl
theorem q8_184 : (Cond.methodLink "TrustChainModel$Text" (107 : Nat) ({ cls := "TrustChainModel$Text", name := "done", desc := "(I)Z" } : MethodName)) ∈ tb := tb_in (tm_8 (List.mem_of_getElem? (i := 184) rfl)) rfl
theorem q8_185 : (Cond.instanceMethod ({ cls := "TrustChainModel$Text", name := "done", desc := "(I)Z" } : MethodName)) ∈ tb := tb_in (tm_8 (List.mem_of_getElem? (i := 185) rfl)) rfl
theorem q8_186 : (Cond.selects "TrustChainModel$Text" ({ cls := "TrustChainModel$Text", name := "done", desc := "(I)Z" } : MethodName) ({ cls := "TrustChainModel$Text", name := "done", desc := "(I)Z" } : MethodName)) ∈ tb := tb_in (tm_8 (List.mem_of_getElem? (i := 186) rfl)) rfl
theorem q8_187 : (Cond.code ({ cls := "TrustChainModel$Text", name := "done", desc := "(I)Z" } : MethodName) prog_15_method_5_code (2 : Nat) (some FieldType.boolean)) ∈ tb := tb_in (tm_8 (List.mem_of_getElem? (i := 187) rfl)) rfl
theorem q8_188 : (Cond.methodLink "TrustChainModel$Text" (286 : Nat) ({ cls := "TrustChainModel$Text", name := "issuer", desc := "(I)Z" } : MethodName)) ∈ tb := tb_in (tm_8 (List.mem_of_getElem? (i := 188) rfl)) rfl
theorem q8_189 : (Cond.instanceMethod ({ cls := "TrustChainModel$Text", name := "issuer", desc := "(I)Z" } : MethodName)) ∈ tb := tb_in (tm_8 (List.mem_of_getElem? (i := 189) rfl)) rfl
theorem q8_190 : (Cond.selects "TrustChainModel$Text" ({ cls := "TrustChainModel$Text", name := "issuer", desc := "(I)Z" } : MethodName) ({ cls := "TrustChainModel$Text", name := "issuer", desc := "(I)Z" } : MethodName)) ∈ tb := tb_in (tm_8 (List.mem_of_getElem? (i := 190) rfl)) rfl
theorem q8_191 : (Cond.code ({ cls := "TrustChainModel$Text", name := "issuer", desc := "(I)Z" } : MethodName) prog_15_method_30_code (2 : Nat) (some FieldType.boolean)) ∈ tb := tb_in (tm_8 (List.mem_of_getElem? (i := 191) rfl)) rfl
theorem q8_192 : (Cond.methodLink "TrustChainModel$Text" (226 : Nat) ({ cls := "TrustChainModel$Text", name := "name", desc := "(I)Z" } : MethodName)) ∈ tb := tb_in (tm_8 (List.mem_of_getElem? (i := 192) rfl)) rfl
theorem q8_193 : (Cond.instanceMethod ({ cls := "TrustChainModel$Text", name := "name", desc := "(I)Z" } : MethodName)) ∈ tb := tb_in (tm_8 (List.mem_of_getElem? (i := 193) rfl)) rfl
theorem q8_194 : (Cond.selects "TrustChainModel$Text" ({ cls := "TrustChainModel$Text", name := "name", desc := "(I)Z" } : MethodName) ({ cls := "TrustChainModel$Text", name := "name", desc := "(I)Z" } : MethodName)) ∈ tb := tb_in (tm_8 (List.mem_of_getElem? (i := 194) rfl)) rfl
theorem q8_195 : (Cond.code ({ cls := "TrustChainModel$Text", name := "name", desc := "(I)Z" } : MethodName) prog_15_method_13_code (6 : Nat) (some FieldType.boolean)) ∈ tb := tb_in (tm_8 (List.mem_of_getElem? (i := 195) rfl)) rfl
theorem q8_196 : (Cond.methodLink "TrustChainModel$Text" (126 : Nat) ({ cls := "TrustChainModel$Text", name := "string", desc := "(I)Z" } : MethodName)) ∈ tb := tb_in (tm_8 (List.mem_of_getElem? (i := 196) rfl)) rfl
theorem q8_197 : (Cond.instanceMethod ({ cls := "TrustChainModel$Text", name := "string", desc := "(I)Z" } : MethodName)) ∈ tb := tb_in (tm_8 (List.mem_of_getElem? (i := 197) rfl)) rfl
theorem q8_198 : (Cond.selects "TrustChainModel$Text" ({ cls := "TrustChainModel$Text", name := "string", desc := "(I)Z" } : MethodName) ({ cls := "TrustChainModel$Text", name := "string", desc := "(I)Z" } : MethodName)) ∈ tb := tb_in (tm_8 (List.mem_of_getElem? (i := 198) rfl)) rfl
theorem q8_199 : (Cond.code ({ cls := "TrustChainModel$Text", name := "string", desc := "(I)Z" } : MethodName) prog_15_method_12_code (9 : Nat) (some FieldType.boolean)) ∈ tb := tb_in (tm_8 (List.mem_of_getElem? (i := 199) rfl)) rfl
theorem q8_200 : (Cond.methodLink "TrustChainModel$Text" (110 : Nat) ({ cls := "TrustChainModel$Text", name := "tag", desc := "(I)I" } : MethodName)) ∈ tb := tb_in (tm_8 (List.mem_of_getElem? (i := 200) rfl)) rfl
theorem q8_201 : (Cond.instanceMethod ({ cls := "TrustChainModel$Text", name := "tag", desc := "(I)I" } : MethodName)) ∈ tb := tb_in (tm_8 (List.mem_of_getElem? (i := 201) rfl)) rfl
theorem q8_202 : (Cond.selects "TrustChainModel$Text" ({ cls := "TrustChainModel$Text", name := "tag", desc := "(I)I" } : MethodName) ({ cls := "TrustChainModel$Text", name := "tag", desc := "(I)I" } : MethodName)) ∈ tb := tb_in (tm_8 (List.mem_of_getElem? (i := 202) rfl)) rfl
theorem q8_203 : (Cond.code ({ cls := "TrustChainModel$Text", name := "tag", desc := "(I)I" } : MethodName) prog_15_method_3_code (2 : Nat) (some FieldType.int)) ∈ tb := tb_in (tm_8 (List.mem_of_getElem? (i := 203) rfl)) rfl
theorem q8_204 : (Cond.stringRef "TrustChainModel$Text" (113 : Nat) " '()+,-./:=?") ∈ lw_tbl := tm_8 (List.mem_of_getElem? (i := 204) rfl)
theorem q8_205 : (Cond.methodLinkNest "TrustChainModel$Text" (115 : Nat) ({ cls := "TrustChainModel", name := "isIn", desc := "(ILjava/lang/String;)Z" } : MethodName) "TrustChainModel") ∈ lw_tbl := tm_8 (List.mem_of_getElem? (i := 205) rfl)
theorem q8_206 : (Cond.static ({ cls := "TrustChainModel", name := "isIn", desc := "(ILjava/lang/String;)Z" } : MethodName)) ∈ tb := tb_in (tm_8 (List.mem_of_getElem? (i := 206) rfl)) rfl
theorem q8_207 : (Cond.code ({ cls := "TrustChainModel", name := "isIn", desc := "(ILjava/lang/String;)Z" } : MethodName) prog_14_method_11_code (3 : Nat) (some FieldType.boolean)) ∈ tb := tb_in (tm_8 (List.mem_of_getElem? (i := 207) rfl)) rfl
theorem q8_208 : (Cond.methodLink "TrustChainModel" (163 : Nat) ({ cls := "java/lang/String", name := "length", desc := "()I" } : MethodName)) ∈ tb := tb_in (tm_8 (List.mem_of_getElem? (i := 208) rfl)) rfl
theorem q8_209 : (Cond.methodLink "TrustChainModel" (169 : Nat) ({ cls := "java/lang/String", name := "charAt", desc := "(I)C" } : MethodName)) ∈ tb := tb_in (tm_8 (List.mem_of_getElem? (i := 209) rfl)) rfl
theorem q8_210 : (Cond.constant "TrustChainModel$Text" (119 : Nat) (55296 : Int32)) ∈ tb := tb_in (tm_8 (List.mem_of_getElem? (i := 210) rfl)) rfl
theorem q8_211 : (Cond.constant "TrustChainModel$Text" (120 : Nat) (57343 : Int32)) ∈ tb := tb_in (tm_8 (List.mem_of_getElem? (i := 211) rfl)) rfl
theorem q8_212 : (Cond.constant "TrustChainModel$Text" (121 : Nat) (65536 : Int32)) ∈ tb := tb_in (tm_8 (List.mem_of_getElem? (i := 212) rfl)) rfl
theorem q8_213 : (Cond.constant "TrustChainModel$Text" (122 : Nat) (1114111 : Int32)) ∈ tb := tb_in (tm_8 (List.mem_of_getElem? (i := 213) rfl)) rfl
theorem q8_214 : (Cond.methodLink "TrustChainModel$Text" (289 : Nat) ({ cls := "TrustChainModel$Text", name := "time", desc := "(I)Z" } : MethodName)) ∈ tb := tb_in (tm_8 (List.mem_of_getElem? (i := 214) rfl)) rfl
theorem q8_215 : (Cond.instanceMethod ({ cls := "TrustChainModel$Text", name := "time", desc := "(I)Z" } : MethodName)) ∈ tb := tb_in (tm_8 (List.mem_of_getElem? (i := 215) rfl)) rfl
theorem q8_216 : (Cond.selects "TrustChainModel$Text" ({ cls := "TrustChainModel$Text", name := "time", desc := "(I)Z" } : MethodName) ({ cls := "TrustChainModel$Text", name := "time", desc := "(I)Z" } : MethodName)) ∈ tb := tb_in (tm_8 (List.mem_of_getElem? (i := 216) rfl)) rfl
theorem q8_217 : (Cond.code ({ cls := "TrustChainModel$Text", name := "time", desc := "(I)Z" } : MethodName) prog_15_method_15_code (16 : Nat) (some FieldType.boolean)) ∈ tb := tb_in (tm_8 (List.mem_of_getElem? (i := 217) rfl)) rfl
theorem q8_218 : (Cond.methodLink "TrustChainModel$Text" (135 : Nat) ({ cls := "TrustChainModel$Text", name := "two", desc := "(I)I" } : MethodName)) ∈ tb := tb_in (tm_8 (List.mem_of_getElem? (i := 218) rfl)) rfl
theorem q8_220 : (Cond.instanceMethod ({ cls := "TrustChainModel$Text", name := "two", desc := "(I)I" } : MethodName)) ∈ tb := tb_in (tm_8 (List.mem_of_getElem? (i := 220) rfl)) rfl
theorem q8_221 : (Cond.code ({ cls := "TrustChainModel$Text", name := "two", desc := "(I)I" } : MethodName) prog_15_method_14_code (2 : Nat) (some FieldType.int)) ∈ tb := tb_in (tm_8 (List.mem_of_getElem? (i := 221) rfl)) rfl
theorem q8_222 : (Cond.constantLong "TrustChainModel$Text" (138 : Nat) (366 : Int64)) ∈ tb := tb_in (tm_8 (List.mem_of_getElem? (i := 222) rfl)) rfl
theorem q8_223 : (Cond.constantLong "TrustChainModel$Text" (140 : Nat) (365 : Int64)) ∈ tb := tb_in (tm_8 (List.mem_of_getElem? (i := 223) rfl)) rfl
theorem q8_224 : (Cond.constantLong "TrustChainModel$Text" (142 : Nat) (29 : Int64)) ∈ tb := tb_in (tm_8 (List.mem_of_getElem? (i := 224) rfl)) rfl
theorem q8_225 : (Cond.constantLong "TrustChainModel$Text" (144 : Nat) (28 : Int64)) ∈ tb := tb_in (tm_8 (List.mem_of_getElem? (i := 225) rfl)) rfl
theorem q8_226 : (Cond.constantLong "TrustChainModel$Text" (146 : Nat) (30 : Int64)) ∈ tb := tb_in (tm_8 (List.mem_of_getElem? (i := 226) rfl)) rfl
theorem q8_227 : (Cond.constantLong "TrustChainModel$Text" (148 : Nat) (31 : Int64)) ∈ tb := tb_in (tm_8 (List.mem_of_getElem? (i := 227) rfl)) rfl
theorem q8_228 : (Cond.constantLong "TrustChainModel$Text" (150 : Nat) (24 : Int64)) ∈ tb := tb_in (tm_8 (List.mem_of_getElem? (i := 228) rfl)) rfl
theorem q8_229 : (Cond.constantLong "TrustChainModel$Text" (152 : Nat) (3600 : Int64)) ∈ tb := tb_in (tm_8 (List.mem_of_getElem? (i := 229) rfl)) rfl
theorem q8_230 : (Cond.constantLong "TrustChainModel$Text" (154 : Nat) (60 : Int64)) ∈ tb := tb_in (tm_8 (List.mem_of_getElem? (i := 230) rfl)) rfl
theorem q8_231 : (Cond.methodLink "TrustChainModel$Text" (278 : Nat) ({ cls := "TrustChainModel$Text", name := "serial", desc := "(I)Z" } : MethodName)) ∈ tb := tb_in (tm_8 (List.mem_of_getElem? (i := 231) rfl)) rfl
theorem q8_232 : (Cond.instanceMethod ({ cls := "TrustChainModel$Text", name := "serial", desc := "(I)Z" } : MethodName)) ∈ tb := tb_in (tm_8 (List.mem_of_getElem? (i := 232) rfl)) rfl
theorem q8_233 : (Cond.selects "TrustChainModel$Text" ({ cls := "TrustChainModel$Text", name := "serial", desc := "(I)Z" } : MethodName) ({ cls := "TrustChainModel$Text", name := "serial", desc := "(I)Z" } : MethodName)) ∈ tb := tb_in (tm_8 (List.mem_of_getElem? (i := 233) rfl)) rfl
theorem q8_234 : (Cond.code ({ cls := "TrustChainModel$Text", name := "serial", desc := "(I)Z" } : MethodName) prog_15_method_16_code (2 : Nat) (some FieldType.boolean)) ∈ tb := tb_in (tm_8 (List.mem_of_getElem? (i := 234) rfl)) rfl
theorem q8_235 : (Cond.methodLink "TrustChainModel$Text" (312 : Nat) ({ cls := "TrustChainModel$Text", name := "extensions", desc := "(II)Z" } : MethodName)) ∈ tb := tb_in (tm_8 (List.mem_of_getElem? (i := 235) rfl)) rfl
theorem q8_236 : (Cond.instanceMethod ({ cls := "TrustChainModel$Text", name := "extensions", desc := "(II)Z" } : MethodName)) ∈ tb := tb_in (tm_8 (List.mem_of_getElem? (i := 236) rfl)) rfl
theorem q8_237 : (Cond.selects "TrustChainModel$Text" ({ cls := "TrustChainModel$Text", name := "extensions", desc := "(II)Z" } : MethodName) ({ cls := "TrustChainModel$Text", name := "extensions", desc := "(II)Z" } : MethodName)) ∈ tb := tb_in (tm_8 (List.mem_of_getElem? (i := 237) rfl)) rfl
theorem q8_238 : (Cond.code ({ cls := "TrustChainModel$Text", name := "extensions", desc := "(II)Z" } : MethodName) prog_15_method_19_code (12 : Nat) (some FieldType.boolean)) ∈ tb := tb_in (tm_8 (List.mem_of_getElem? (i := 238) rfl)) rfl
theorem q8_239 : (Cond.methodLink "TrustChainModel$Text" (176 : Nat) ({ cls := "TrustChainModel$Text", name := "isKnown", desc := "(II)Z" } : MethodName)) ∈ tb := tb_in (tm_8 (List.mem_of_getElem? (i := 239) rfl)) rfl
theorem q9_0 : (Cond.instanceMethod ({ cls := "TrustChainModel$Text", name := "isKnown", desc := "(II)Z" } : MethodName)) ∈ tb := tb_in (tm_9 (List.mem_of_getElem? (i := 0) rfl)) rfl
theorem q9_1 : (Cond.selects "TrustChainModel$Text" ({ cls := "TrustChainModel$Text", name := "isKnown", desc := "(II)Z" } : MethodName) ({ cls := "TrustChainModel$Text", name := "isKnown", desc := "(II)Z" } : MethodName)) ∈ tb := tb_in (tm_9 (List.mem_of_getElem? (i := 1) rfl)) rfl
theorem q9_2 : (Cond.code ({ cls := "TrustChainModel$Text", name := "isKnown", desc := "(II)Z" } : MethodName) prog_15_method_20_code (3 : Nat) (some FieldType.boolean)) ∈ tb := tb_in (tm_9 (List.mem_of_getElem? (i := 2) rfl)) rfl
theorem q9_3 : (Cond.methodLink "TrustChainModel$Text" (182 : Nat) ({ cls := "TrustChainModel$Text", name := "content", desc := "(II)Z" } : MethodName)) ∈ tb := tb_in (tm_9 (List.mem_of_getElem? (i := 3) rfl)) rfl
theorem q9_4 : (Cond.instanceMethod ({ cls := "TrustChainModel$Text", name := "content", desc := "(II)Z" } : MethodName)) ∈ tb := tb_in (tm_9 (List.mem_of_getElem? (i := 4) rfl)) rfl
theorem q9_5 : (Cond.selects "TrustChainModel$Text" ({ cls := "TrustChainModel$Text", name := "content", desc := "(II)Z" } : MethodName) ({ cls := "TrustChainModel$Text", name := "content", desc := "(II)Z" } : MethodName)) ∈ tb := tb_in (tm_9 (List.mem_of_getElem? (i := 5) rfl)) rfl
theorem q9_6 : (Cond.code ({ cls := "TrustChainModel$Text", name := "content", desc := "(II)Z" } : MethodName) prog_15_method_21_code (4 : Nat) (some FieldType.boolean)) ∈ tb := tb_in (tm_9 (List.mem_of_getElem? (i := 6) rfl)) rfl
theorem q9_7 : (Cond.methodLink "TrustChainModel$Text" (189 : Nat) ({ cls := "TrustChainModel$Text", name := "basic", desc := "(I)Z" } : MethodName)) ∈ tb := tb_in (tm_9 (List.mem_of_getElem? (i := 7) rfl)) rfl
theorem q9_8 : (Cond.instanceMethod ({ cls := "TrustChainModel$Text", name := "basic", desc := "(I)Z" } : MethodName)) ∈ tb := tb_in (tm_9 (List.mem_of_getElem? (i := 8) rfl)) rfl
theorem q9_9 : (Cond.selects "TrustChainModel$Text" ({ cls := "TrustChainModel$Text", name := "basic", desc := "(I)Z" } : MethodName) ({ cls := "TrustChainModel$Text", name := "basic", desc := "(I)Z" } : MethodName)) ∈ tb := tb_in (tm_9 (List.mem_of_getElem? (i := 9) rfl)) rfl
theorem q9_10 : (Cond.code ({ cls := "TrustChainModel$Text", name := "basic", desc := "(I)Z" } : MethodName) prog_15_method_22_code (3 : Nat) (some FieldType.boolean)) ∈ tb := tb_in (tm_9 (List.mem_of_getElem? (i := 10) rfl)) rfl
theorem q9_11 : (Cond.methodLink "TrustChainModel$Text" (192 : Nat) ({ cls := "TrustChainModel$Text", name := "usage", desc := "(I)Z" } : MethodName)) ∈ tb := tb_in (tm_9 (List.mem_of_getElem? (i := 11) rfl)) rfl
theorem q9_12 : (Cond.instanceMethod ({ cls := "TrustChainModel$Text", name := "usage", desc := "(I)Z" } : MethodName)) ∈ tb := tb_in (tm_9 (List.mem_of_getElem? (i := 12) rfl)) rfl
theorem q9_13 : (Cond.selects "TrustChainModel$Text" ({ cls := "TrustChainModel$Text", name := "usage", desc := "(I)Z" } : MethodName) ({ cls := "TrustChainModel$Text", name := "usage", desc := "(I)Z" } : MethodName)) ∈ tb := tb_in (tm_9 (List.mem_of_getElem? (i := 13) rfl)) rfl
theorem q9_14 : (Cond.code ({ cls := "TrustChainModel$Text", name := "usage", desc := "(I)Z" } : MethodName) prog_15_method_23_code (6 : Nat) (some FieldType.boolean)) ∈ tb := tb_in (tm_9 (List.mem_of_getElem? (i := 14) rfl)) rfl
theorem q9_15 : (Cond.methodLink "TrustChainModel$Text" (195 : Nat) ({ cls := "TrustChainModel$Text", name := "names", desc := "(I)Z" } : MethodName)) ∈ tb := tb_in (tm_9 (List.mem_of_getElem? (i := 15) rfl)) rfl
theorem q9_16 : (Cond.instanceMethod ({ cls := "TrustChainModel$Text", name := "names", desc := "(I)Z" } : MethodName)) ∈ tb := tb_in (tm_9 (List.mem_of_getElem? (i := 16) rfl)) rfl
theorem q9_17 : (Cond.selects "TrustChainModel$Text" ({ cls := "TrustChainModel$Text", name := "names", desc := "(I)Z" } : MethodName) ({ cls := "TrustChainModel$Text", name := "names", desc := "(I)Z" } : MethodName)) ∈ tb := tb_in (tm_9 (List.mem_of_getElem? (i := 17) rfl)) rfl
theorem q9_18 : (Cond.code ({ cls := "TrustChainModel$Text", name := "names", desc := "(I)Z" } : MethodName) prog_15_method_25_code (5 : Nat) (some FieldType.boolean)) ∈ tb := tb_in (tm_9 (List.mem_of_getElem? (i := 18) rfl)) rfl
theorem q9_19 : (Cond.methodLink "TrustChainModel$Text" (232 : Nat) ({ cls := "TrustChainModel$Text", name := "visible", desc := "(I)Z" } : MethodName)) ∈ tb := tb_in (tm_9 (List.mem_of_getElem? (i := 19) rfl)) rfl
theorem q9_20 : (Cond.instanceMethod ({ cls := "TrustChainModel$Text", name := "visible", desc := "(I)Z" } : MethodName)) ∈ tb := tb_in (tm_9 (List.mem_of_getElem? (i := 20) rfl)) rfl
theorem q9_21 : (Cond.selects "TrustChainModel$Text" ({ cls := "TrustChainModel$Text", name := "visible", desc := "(I)Z" } : MethodName) ({ cls := "TrustChainModel$Text", name := "visible", desc := "(I)Z" } : MethodName)) ∈ tb := tb_in (tm_9 (List.mem_of_getElem? (i := 21) rfl)) rfl
theorem q9_22 : (Cond.code ({ cls := "TrustChainModel$Text", name := "visible", desc := "(I)Z" } : MethodName) prog_15_method_24_code (4 : Nat) (some FieldType.boolean)) ∈ tb := tb_in (tm_9 (List.mem_of_getElem? (i := 22) rfl)) rfl
theorem q9_23 : (Cond.methodLink "TrustChainModel$Text" (198 : Nat) ({ cls := "TrustChainModel$Text", name := "constraints", desc := "(I)Z" } : MethodName)) ∈ tb := tb_in (tm_9 (List.mem_of_getElem? (i := 23) rfl)) rfl
theorem q9_24 : (Cond.instanceMethod ({ cls := "TrustChainModel$Text", name := "constraints", desc := "(I)Z" } : MethodName)) ∈ tb := tb_in (tm_9 (List.mem_of_getElem? (i := 24) rfl)) rfl
theorem q9_25 : (Cond.selects "TrustChainModel$Text" ({ cls := "TrustChainModel$Text", name := "constraints", desc := "(I)Z" } : MethodName) ({ cls := "TrustChainModel$Text", name := "constraints", desc := "(I)Z" } : MethodName)) ∈ tb := tb_in (tm_9 (List.mem_of_getElem? (i := 25) rfl)) rfl
theorem q9_26 : (Cond.code ({ cls := "TrustChainModel$Text", name := "constraints", desc := "(I)Z" } : MethodName) prog_15_method_26_code (3 : Nat) (some FieldType.boolean)) ∈ tb := tb_in (tm_9 (List.mem_of_getElem? (i := 26) rfl)) rfl
theorem q9_27 : (Cond.methodLink "TrustChainModel$Text" (238 : Nat) ({ cls := "TrustChainModel$Text", name := "trees", desc := "(II)Z" } : MethodName)) ∈ tb := tb_in (tm_9 (List.mem_of_getElem? (i := 27) rfl)) rfl
theorem q9_28 : (Cond.instanceMethod ({ cls := "TrustChainModel$Text", name := "trees", desc := "(II)Z" } : MethodName)) ∈ tb := tb_in (tm_9 (List.mem_of_getElem? (i := 28) rfl)) rfl
theorem q9_29 : (Cond.selects "TrustChainModel$Text" ({ cls := "TrustChainModel$Text", name := "trees", desc := "(II)Z" } : MethodName) ({ cls := "TrustChainModel$Text", name := "trees", desc := "(II)Z" } : MethodName)) ∈ tb := tb_in (tm_9 (List.mem_of_getElem? (i := 29) rfl)) rfl
theorem q9_30 : (Cond.code ({ cls := "TrustChainModel$Text", name := "trees", desc := "(II)Z" } : MethodName) prog_15_method_27_code (7 : Nat) (some FieldType.boolean)) ∈ tb := tb_in (tm_9 (List.mem_of_getElem? (i := 30) rfl)) rfl
theorem q9_31 : (Cond.methodLink "TrustChainModel$Text" (185 : Nat) ({ cls := "TrustChainModel$Text", name := "same", desc := "(IILTrustChainModel$Text;II)Z" } : MethodName)) ∈ tb := tb_in (tm_9 (List.mem_of_getElem? (i := 31) rfl)) rfl
theorem q9_32 : (Cond.instanceMethod ({ cls := "TrustChainModel$Text", name := "same", desc := "(IILTrustChainModel$Text;II)Z" } : MethodName)) ∈ tb := tb_in (tm_9 (List.mem_of_getElem? (i := 32) rfl)) rfl
theorem q9_33 : (Cond.selects "TrustChainModel$Text" ({ cls := "TrustChainModel$Text", name := "same", desc := "(IILTrustChainModel$Text;II)Z" } : MethodName) ({ cls := "TrustChainModel$Text", name := "same", desc := "(IILTrustChainModel$Text;II)Z" } : MethodName)) ∈ tb := tb_in (tm_9 (List.mem_of_getElem? (i := 33) rfl)) rfl
theorem q9_34 : (Cond.code ({ cls := "TrustChainModel$Text", name := "same", desc := "(IILTrustChainModel$Text;II)Z" } : MethodName) prog_15_method_32_code (7 : Nat) (some FieldType.boolean)) ∈ tb := tb_in (tm_9 (List.mem_of_getElem? (i := 34) rfl)) rfl
theorem q9_35 : (Cond.methodLink "TrustChainModel$Text" (261 : Nat) ({ cls := "TrustChainModel$Text", name := "certificate", desc := "(I)Z" } : MethodName)) ∈ tb := tb_in (tm_9 (List.mem_of_getElem? (i := 35) rfl)) rfl
theorem q9_36 : (Cond.instanceMethod ({ cls := "TrustChainModel$Text", name := "certificate", desc := "(I)Z" } : MethodName)) ∈ tb := tb_in (tm_9 (List.mem_of_getElem? (i := 36) rfl)) rfl
theorem q9_37 : (Cond.selects "TrustChainModel$Text" ({ cls := "TrustChainModel$Text", name := "certificate", desc := "(I)Z" } : MethodName) ({ cls := "TrustChainModel$Text", name := "certificate", desc := "(I)Z" } : MethodName)) ∈ tb := tb_in (tm_9 (List.mem_of_getElem? (i := 37) rfl)) rfl
theorem q9_38 : (Cond.code ({ cls := "TrustChainModel$Text", name := "certificate", desc := "(I)Z" } : MethodName) prog_15_method_29_code (4 : Nat) (some FieldType.boolean)) ∈ tb := tb_in (tm_9 (List.mem_of_getElem? (i := 38) rfl)) rfl
theorem q9_39 : (Cond.stringRef "TrustChainModel$Text" (307 : Nat) "2A864886F70D010101") ∈ lw_tbl := tm_9 (List.mem_of_getElem? (i := 39) rfl)
theorem q9_40 : (Cond.methodLink "TrustChainModel$Text" (269 : Nat) ({ cls := "TrustChainModel$Text", name := "bits", desc := "(I)Z" } : MethodName)) ∈ tb := tb_in (tm_9 (List.mem_of_getElem? (i := 40) rfl)) rfl
theorem q9_41 : (Cond.instanceMethod ({ cls := "TrustChainModel$Text", name := "bits", desc := "(I)Z" } : MethodName)) ∈ tb := tb_in (tm_9 (List.mem_of_getElem? (i := 41) rfl)) rfl
theorem q9_42 : (Cond.selects "TrustChainModel$Text" ({ cls := "TrustChainModel$Text", name := "bits", desc := "(I)Z" } : MethodName) ({ cls := "TrustChainModel$Text", name := "bits", desc := "(I)Z" } : MethodName)) ∈ tb := tb_in (tm_9 (List.mem_of_getElem? (i := 42) rfl)) rfl
theorem q9_43 : (Cond.code ({ cls := "TrustChainModel$Text", name := "bits", desc := "(I)Z" } : MethodName) prog_15_method_17_code (2 : Nat) (some FieldType.boolean)) ∈ tb := tb_in (tm_9 (List.mem_of_getElem? (i := 43) rfl)) rfl
theorem q9_44 : (Cond.methodLink "TrustChainModel$Text" (309 : Nat) ({ cls := "TrustChainModel$Text", name := "key", desc := "(I)Z" } : MethodName)) ∈ tb := tb_in (tm_9 (List.mem_of_getElem? (i := 44) rfl)) rfl
theorem q9_45 : (Cond.instanceMethod ({ cls := "TrustChainModel$Text", name := "key", desc := "(I)Z" } : MethodName)) ∈ tb := tb_in (tm_9 (List.mem_of_getElem? (i := 45) rfl)) rfl
theorem q9_46 : (Cond.selects "TrustChainModel$Text" ({ cls := "TrustChainModel$Text", name := "key", desc := "(I)Z" } : MethodName) ({ cls := "TrustChainModel$Text", name := "key", desc := "(I)Z" } : MethodName)) ∈ tb := tb_in (tm_9 (List.mem_of_getElem? (i := 46) rfl)) rfl
theorem q9_47 : (Cond.code ({ cls := "TrustChainModel$Text", name := "key", desc := "(I)Z" } : MethodName) prog_15_method_18_code (10 : Nat) (some FieldType.boolean)) ∈ tb := tb_in (tm_9 (List.mem_of_getElem? (i := 47) rfl)) rfl
theorem q9_48 : (Cond.constantLong "TrustChainModel$Text" (162 : Nat) (1099511627776 : Int64)) ∈ tb := tb_in (tm_9 (List.mem_of_getElem? (i := 48) rfl)) rfl
theorem q9_49 : (Cond.constantLong "TrustChainModel$Text" (164 : Nat) (2 : Int64)) ∈ tb := tb_in (tm_9 (List.mem_of_getElem? (i := 49) rfl)) rfl
theorem q9_50 : (Cond.constantLong "TrustChainModel$Text" (166 : Nat) (3 : Int64)) ∈ tb := tb_in (tm_9 (List.mem_of_getElem? (i := 50) rfl)) rfl
theorem q9_51 : (Cond.constantLong "TrustChainModel$Text" (168 : Nat) (2147483647 : Int64)) ∈ tb := tb_in (tm_9 (List.mem_of_getElem? (i := 51) rfl)) rfl
theorem q9_52 : (Cond.methodLink "TrustChainLaw" (75 : Nat) ({ cls := "TrustChainModel", name := "list", desc := "(I)I" } : MethodName)) ∈ tb := tb_in (tm_9 (List.mem_of_getElem? (i := 52) rfl)) rfl
theorem q9_53 : (Cond.instanceMethod ({ cls := "TrustChainModel", name := "list", desc := "(I)I" } : MethodName)) ∈ tb := tb_in (tm_9 (List.mem_of_getElem? (i := 53) rfl)) rfl
theorem q9_54 : (Cond.selects "TrustChainModel" ({ cls := "TrustChainModel", name := "list", desc := "(I)I" } : MethodName) ({ cls := "TrustChainModel", name := "list", desc := "(I)I" } : MethodName)) ∈ tb := tb_in (tm_9 (List.mem_of_getElem? (i := 54) rfl)) rfl
theorem q9_55 : (Cond.code ({ cls := "TrustChainModel", name := "list", desc := "(I)I" } : MethodName) prog_14_method_17_code (3 : Nat) (some FieldType.int)) ∈ tb := tb_in (tm_9 (List.mem_of_getElem? (i := 55) rfl)) rfl
theorem q9_56 : (Cond.methodLink "TrustChainLaw" (80 : Nat) ({ cls := "TrustChainModel", name := "wrong", desc := "()I" } : MethodName)) ∈ tb := tb_in (tm_9 (List.mem_of_getElem? (i := 56) rfl)) rfl
theorem q9_57 : (Cond.instanceMethod ({ cls := "TrustChainModel", name := "wrong", desc := "()I" } : MethodName)) ∈ tb := tb_in (tm_9 (List.mem_of_getElem? (i := 57) rfl)) rfl
theorem q9_58 : (Cond.selects "TrustChainModel" ({ cls := "TrustChainModel", name := "wrong", desc := "()I" } : MethodName) ({ cls := "TrustChainModel", name := "wrong", desc := "()I" } : MethodName)) ∈ tb := tb_in (tm_9 (List.mem_of_getElem? (i := 58) rfl)) rfl
theorem q9_59 : (Cond.code ({ cls := "TrustChainModel", name := "wrong", desc := "()I" } : MethodName) prog_14_method_18_code (1 : Nat) (some FieldType.int)) ∈ tb := tb_in (tm_9 (List.mem_of_getElem? (i := 59) rfl)) rfl
theorem q9_60 : (Cond.methodLink "TrustChainLaw" (83 : Nat) ({ cls := "TrustChainModel", name := "trust", desc := "(IZ)Z" } : MethodName)) ∈ tb := tb_in (tm_9 (List.mem_of_getElem? (i := 60) rfl)) rfl
theorem q9_61 : (Cond.instanceMethod ({ cls := "TrustChainModel", name := "trust", desc := "(IZ)Z" } : MethodName)) ∈ tb := tb_in (tm_9 (List.mem_of_getElem? (i := 61) rfl)) rfl
theorem q9_62 : (Cond.selects "TrustChainModel" ({ cls := "TrustChainModel", name := "trust", desc := "(IZ)Z" } : MethodName) ({ cls := "TrustChainModel", name := "trust", desc := "(IZ)Z" } : MethodName)) ∈ tb := tb_in (tm_9 (List.mem_of_getElem? (i := 62) rfl)) rfl
theorem q9_63 : (Cond.code ({ cls := "TrustChainModel", name := "trust", desc := "(IZ)Z" } : MethodName) prog_14_method_20_code (4 : Nat) (some FieldType.boolean)) ∈ tb := tb_in (tm_9 (List.mem_of_getElem? (i := 63) rfl)) rfl
theorem q9_64 : (Cond.methodLink "TrustChainModel" (209 : Nat) ({ cls := "TrustChainModel", name := "noCertificate", desc := "(II)Z" } : MethodName)) ∈ tb := tb_in (tm_9 (List.mem_of_getElem? (i := 64) rfl)) rfl
theorem q9_66 : (Cond.instanceMethod ({ cls := "TrustChainModel", name := "noCertificate", desc := "(II)Z" } : MethodName)) ∈ tb := tb_in (tm_9 (List.mem_of_getElem? (i := 66) rfl)) rfl
theorem q9_67 : (Cond.code ({ cls := "TrustChainModel", name := "noCertificate", desc := "(II)Z" } : MethodName) prog_14_method_19_code (3 : Nat) (some FieldType.boolean)) ∈ tb := tb_in (tm_9 (List.mem_of_getElem? (i := 67) rfl)) rfl
theorem q9_68 : (Cond.methodLink "TrustChainModel" (205 : Nat) ({ cls := "TrustChainModel", name := "in", desc := "(III)Z" } : MethodName)) ∈ tb := tb_in (tm_9 (List.mem_of_getElem? (i := 68) rfl)) rfl
theorem q9_69 : (Cond.methodLink "TrustChainLaw" (87 : Nat) ({ cls := "TrustChainModel", name := "part", desc := "(II)J" } : MethodName)) ∈ tb := tb_in (tm_9 (List.mem_of_getElem? (i := 69) rfl)) rfl
theorem q9_70 : (Cond.instanceMethod ({ cls := "TrustChainModel", name := "part", desc := "(II)J" } : MethodName)) ∈ tb := tb_in (tm_9 (List.mem_of_getElem? (i := 70) rfl)) rfl
theorem q9_71 : (Cond.selects "TrustChainModel" ({ cls := "TrustChainModel", name := "part", desc := "(II)J" } : MethodName) ({ cls := "TrustChainModel", name := "part", desc := "(II)J" } : MethodName)) ∈ tb := tb_in (tm_9 (List.mem_of_getElem? (i := 71) rfl)) rfl
theorem q9_72 : (Cond.code ({ cls := "TrustChainModel", name := "part", desc := "(II)J" } : MethodName) prog_14_method_21_code (6 : Nat) (some FieldType.long)) ∈ tb := tb_in (tm_9 (List.mem_of_getElem? (i := 72) rfl)) rfl
theorem q9_73 : (Cond.methodLink "TrustChainLaw" (90 : Nat) ({ cls := "TrustChainModel", name := "listPart", desc := "(II)J" } : MethodName)) ∈ tb := tb_in (tm_9 (List.mem_of_getElem? (i := 73) rfl)) rfl
theorem q9_74 : (Cond.instanceMethod ({ cls := "TrustChainModel", name := "listPart", desc := "(II)J" } : MethodName)) ∈ tb := tb_in (tm_9 (List.mem_of_getElem? (i := 74) rfl)) rfl
theorem q9_75 : (Cond.selects "TrustChainModel" ({ cls := "TrustChainModel", name := "listPart", desc := "(II)J" } : MethodName) ({ cls := "TrustChainModel", name := "listPart", desc := "(II)J" } : MethodName)) ∈ tb := tb_in (tm_9 (List.mem_of_getElem? (i := 75) rfl)) rfl
theorem q9_76 : (Cond.code ({ cls := "TrustChainModel", name := "listPart", desc := "(II)J" } : MethodName) prog_14_method_22_code (4 : Nat) (some FieldType.long)) ∈ tb := tb_in (tm_9 (List.mem_of_getElem? (i := 76) rfl)) rfl
theorem q9_77 : (Cond.methodLink "TrustChainLaw" (97 : Nat) ({ cls := "TrustChainModel", name := "digest", desc := "(II)I" } : MethodName)) ∈ tb := tb_in (tm_9 (List.mem_of_getElem? (i := 77) rfl)) rfl
theorem q9_78 : (Cond.instanceMethod ({ cls := "TrustChainModel", name := "digest", desc := "(II)I" } : MethodName)) ∈ tb := tb_in (tm_9 (List.mem_of_getElem? (i := 78) rfl)) rfl
theorem q9_79 : (Cond.selects "TrustChainModel" ({ cls := "TrustChainModel", name := "digest", desc := "(II)I" } : MethodName) ({ cls := "TrustChainModel", name := "digest", desc := "(II)I" } : MethodName)) ∈ tb := tb_in (tm_9 (List.mem_of_getElem? (i := 79) rfl)) rfl
theorem q9_80 : (Cond.code ({ cls := "TrustChainModel", name := "digest", desc := "(II)I" } : MethodName) prog_14_method_26_code (3 : Nat) (some FieldType.int)) ∈ tb := tb_in (tm_9 (List.mem_of_getElem? (i := 80) rfl)) rfl
theorem q9_81 : (Cond.methodLink "TrustChainModel" (272 : Nat) ({ cls := "TrustChainModel", name := "digest", desc := "(LTrustChainModel$Text;)V" } : MethodName)) ∈ tb := tb_in (tm_9 (List.mem_of_getElem? (i := 81) rfl)) rfl
theorem q9_83 : (Cond.instanceMethod ({ cls := "TrustChainModel", name := "digest", desc := "(LTrustChainModel$Text;)V" } : MethodName)) ∈ tb := tb_in (tm_9 (List.mem_of_getElem? (i := 83) rfl)) rfl
theorem q9_84 : (Cond.code ({ cls := "TrustChainModel", name := "digest", desc := "(LTrustChainModel$Text;)V" } : MethodName) prog_14_method_23_code (5 : Nat) none) ∈ tb := tb_in (tm_9 (List.mem_of_getElem? (i := 84) rfl)) rfl
theorem q9_85 : (Cond.methodLink "TrustChainModel" (264 : Nat) ({ cls := "TrustChainModel", name := "compress", desc := "(I)V" } : MethodName)) ∈ tb := tb_in (tm_9 (List.mem_of_getElem? (i := 85) rfl)) rfl
theorem q9_87 : (Cond.instanceMethod ({ cls := "TrustChainModel", name := "compress", desc := "(I)V" } : MethodName)) ∈ tb := tb_in (tm_9 (List.mem_of_getElem? (i := 87) rfl)) rfl
theorem q9_88 : (Cond.code ({ cls := "TrustChainModel", name := "compress", desc := "(I)V" } : MethodName) prog_14_method_25_code (13 : Nat) none) ∈ tb := tb_in (tm_9 (List.mem_of_getElem? (i := 88) rfl)) rfl
theorem q9_89 : (Cond.methodLink "TrustChainModel" (268 : Nat) ({ cls := "TrustChainModel", name := "turn", desc := "(II)I" } : MethodName)) ∈ tb := tb_in (tm_9 (List.mem_of_getElem? (i := 89) rfl)) rfl
theorem q9_90 : (Cond.static ({ cls := "TrustChainModel", name := "turn", desc := "(II)I" } : MethodName)) ∈ tb := tb_in (tm_9 (List.mem_of_getElem? (i := 90) rfl)) rfl
theorem q9_91 : (Cond.code ({ cls := "TrustChainModel", name := "turn", desc := "(II)I" } : MethodName) prog_14_method_24_code (2 : Nat) (some FieldType.int)) ∈ tb := tb_in (tm_9 (List.mem_of_getElem? (i := 91) rfl)) rfl
theorem q9_92 : (Cond.methodLink "TrustChainLaw" (94 : Nat) ({ cls := "TrustChainModel", name := "signed", desc := "(ZII)Z" } : MethodName)) ∈ tb := tb_in (tm_9 (List.mem_of_getElem? (i := 92) rfl)) rfl
theorem q9_93 : (Cond.instanceMethod ({ cls := "TrustChainModel", name := "signed", desc := "(ZII)Z" } : MethodName)) ∈ tb := tb_in (tm_9 (List.mem_of_getElem? (i := 93) rfl)) rfl
theorem q9_94 : (Cond.selects "TrustChainModel" ({ cls := "TrustChainModel", name := "signed", desc := "(ZII)Z" } : MethodName) ({ cls := "TrustChainModel", name := "signed", desc := "(ZII)Z" } : MethodName)) ∈ tb := tb_in (tm_9 (List.mem_of_getElem? (i := 94) rfl)) rfl
theorem q9_95 : (Cond.code ({ cls := "TrustChainModel", name := "signed", desc := "(ZII)Z" } : MethodName) prog_14_method_30_code (4 : Nat) (some FieldType.boolean)) ∈ tb := tb_in (tm_9 (List.mem_of_getElem? (i := 95) rfl)) rfl
theorem q9_96 : (Cond.methodLink "TrustChainModel" (308 : Nat) ({ cls := "TrustChainModel", name := "isSigned", desc := "(LTrustChainModel$Text;LTrustChainModel$Text;)Z" } : MethodName)) ∈ tb := tb_in (tm_9 (List.mem_of_getElem? (i := 96) rfl)) rfl
theorem q9_98 : (Cond.instanceMethod ({ cls := "TrustChainModel", name := "isSigned", desc := "(LTrustChainModel$Text;LTrustChainModel$Text;)Z" } : MethodName)) ∈ tb := tb_in (tm_9 (List.mem_of_getElem? (i := 98) rfl)) rfl
theorem q9_99 : (Cond.code ({ cls := "TrustChainModel", name := "isSigned", desc := "(LTrustChainModel$Text;LTrustChainModel$Text;)Z" } : MethodName) prog_14_method_28_code (14 : Nat) (some FieldType.boolean)) ∈ tb := tb_in (tm_9 (List.mem_of_getElem? (i := 99) rfl)) rfl
theorem q9_100 : (Cond.methodLink "TrustChainModel" (282 : Nat) ({ cls := "TrustChainModel", name := "limbs", desc := "(LTrustChainModel$Text;II[I)I" } : MethodName)) ∈ tb := tb_in (tm_9 (List.mem_of_getElem? (i := 100) rfl)) rfl
theorem q9_101 : (Cond.static ({ cls := "TrustChainModel", name := "limbs", desc := "(LTrustChainModel$Text;II[I)I" } : MethodName)) ∈ tb := tb_in (tm_9 (List.mem_of_getElem? (i := 101) rfl)) rfl
theorem q9_102 : (Cond.code ({ cls := "TrustChainModel", name := "limbs", desc := "(LTrustChainModel$Text;II[I)I" } : MethodName) prog_14_method_27_code (6 : Nat) (some FieldType.int)) ∈ tb := tb_in (tm_9 (List.mem_of_getElem? (i := 102) rfl)) rfl
theorem q9_103 : (Cond.methodLink "TrustChainModel" (149 : Nat) ({ cls := "TrustChainModel", name := "trim", desc := "([II)I" } : MethodName)) ∈ tb := tb_in (tm_9 (List.mem_of_getElem? (i := 103) rfl)) rfl
theorem q9_104 : (Cond.static ({ cls := "TrustChainModel", name := "trim", desc := "([II)I" } : MethodName)) ∈ tb := tb_in (tm_9 (List.mem_of_getElem? (i := 104) rfl)) rfl
theorem q9_105 : (Cond.code ({ cls := "TrustChainModel", name := "trim", desc := "([II)I" } : MethodName) prog_14_method_6_code (3 : Nat) (some FieldType.int)) ∈ tb := tb_in (tm_9 (List.mem_of_getElem? (i := 105) rfl)) rfl
theorem q9_106 : (Cond.methodLink "TrustChainModel" (155 : Nat) ({ cls := "TrustChainModel", name := "compared", desc := "([II[II)I" } : MethodName)) ∈ tb := tb_in (tm_9 (List.mem_of_getElem? (i := 106) rfl)) rfl
theorem q9_107 : (Cond.static ({ cls := "TrustChainModel", name := "compared", desc := "([II[II)I" } : MethodName)) ∈ tb := tb_in (tm_9 (List.mem_of_getElem? (i := 107) rfl)) rfl
theorem q9_108 : (Cond.code ({ cls := "TrustChainModel", name := "compared", desc := "([II[II)I" } : MethodName) prog_14_method_3_code (5 : Nat) (some FieldType.int)) ∈ tb := tb_in (tm_9 (List.mem_of_getElem? (i := 108) rfl)) rfl
theorem q9_109 : (Cond.methodLink "TrustChainModel" (286 : Nat) ({ cls := "java/lang/Integer", name := "numberOfLeadingZeros", desc := "(I)I" } : MethodName)) ∈ tb := tb_in (tm_9 (List.mem_of_getElem? (i := 109) rfl)) rfl
theorem q9_110 : (Cond.static ({ cls := "java/lang/Integer", name := "numberOfLeadingZeros", desc := "(I)I" } : MethodName)) ∈ tb := tb_in (tm_9 (List.mem_of_getElem? (i := 110) rfl)) rfl
theorem q9_111 : (Cond.code ({ cls := "java/lang/Integer", name := "numberOfLeadingZeros", desc := "(I)I" } : MethodName) prog_21_method_47_code (2 : Nat) (some FieldType.int)) ∈ tb := tb_in (tm_9 (List.mem_of_getElem? (i := 111) rfl)) rfl
theorem q9_112 : (Cond.constant "java/lang/Integer" (264 : Nat) (65536 : Int32)) ∈ tb := tb_in (tm_9 (List.mem_of_getElem? (i := 112) rfl)) rfl
theorem q9_113 : (Cond.methodLink "TrustChainModel" (292 : Nat) ({ cls := "TrustChainModel", name := "reduced", desc := "([II[III)I" } : MethodName)) ∈ tb := tb_in (tm_9 (List.mem_of_getElem? (i := 113) rfl)) rfl
theorem q9_115 : (Cond.instanceMethod ({ cls := "TrustChainModel", name := "reduced", desc := "([II[III)I" } : MethodName)) ∈ tb := tb_in (tm_9 (List.mem_of_getElem? (i := 115) rfl)) rfl
theorem q9_116 : (Cond.code ({ cls := "TrustChainModel", name := "reduced", desc := "([II[III)I" } : MethodName) prog_14_method_29_code (8 : Nat) (some FieldType.int)) ∈ tb := tb_in (tm_9 (List.mem_of_getElem? (i := 116) rfl)) rfl
theorem q9_117 : (Cond.methodLink "TrustChainModel" (301 : Nat) ({ cls := "TrustChainModel", name := "times", desc := "([II[II[I)I" } : MethodName)) ∈ tb := tb_in (tm_9 (List.mem_of_getElem? (i := 117) rfl)) rfl
theorem q9_118 : (Cond.static ({ cls := "TrustChainModel", name := "times", desc := "([II[II[I)I" } : MethodName)) ∈ tb := tb_in (tm_9 (List.mem_of_getElem? (i := 118) rfl)) rfl
theorem q9_119 : (Cond.code ({ cls := "TrustChainModel", name := "times", desc := "([II[II[I)I" } : MethodName) prog_14_method_7_code (9 : Nat) (some FieldType.int)) ∈ tb := tb_in (tm_9 (List.mem_of_getElem? (i := 119) rfl)) rfl
theorem q9_120 : (Cond.constantLong "TrustChainModel" (153 : Nat) (65535 : Int64)) ∈ tb := tb_in (tm_9 (List.mem_of_getElem? (i := 120) rfl)) rfl
theorem q9_121 : (Cond.methodLink "TrustChainModel" (305 : Nat) ({ cls := "TrustChainModel", name := "divided", desc := "([II[II[I)I" } : MethodName)) ∈ tb := tb_in (tm_9 (List.mem_of_getElem? (i := 121) rfl)) rfl
theorem q9_123 : (Cond.instanceMethod ({ cls := "TrustChainModel", name := "divided", desc := "([II[II[I)I" } : MethodName)) ∈ tb := tb_in (tm_9 (List.mem_of_getElem? (i := 123) rfl)) rfl
theorem q9_124 : (Cond.code ({ cls := "TrustChainModel", name := "divided", desc := "([II[II[I)I" } : MethodName) prog_14_method_8_code (18 : Nat) (some FieldType.int)) ∈ tb := tb_in (tm_9 (List.mem_of_getElem? (i := 124) rfl)) rfl
theorem q9_125 : (Cond.constant "TrustChainModel" (162 : Nat) (32768 : Int32)) ∈ tb := tb_in (tm_9 (List.mem_of_getElem? (i := 125) rfl)) rfl
theorem q9_126 : (Cond.constant "TrustChainModel" (148 : Nat) (65535 : Int32)) ∈ tb := tb_in (tm_9 (List.mem_of_getElem? (i := 126) rfl)) rfl
theorem q9_127 : (Cond.stringRef "TrustChainModel" (296 : Nat) "3031300D060960864801650304020105000420") ∈ lw_tbl := tm_9 (List.mem_of_getElem? (i := 127) rfl)
theorem q9_128 : (Cond.methodLink "TrustChainModel" (298 : Nat) ({ cls := "TrustChainModel", name := "hexOf", desc := "(I)I" } : MethodName)) ∈ tb := tb_in (tm_9 (List.mem_of_getElem? (i := 128) rfl)) rfl
theorem q9_129 : (Cond.methodLink "TrustChainLaw" (103 : Nat) ({ cls := "TrustChainModel", name := "validate", desc := "(IJIZ)I" } : MethodName)) ∈ tb := tb_in (tm_9 (List.mem_of_getElem? (i := 129) rfl)) rfl
theorem q9_130 : (Cond.instanceMethod ({ cls := "TrustChainModel", name := "validate", desc := "(IJIZ)I" } : MethodName)) ∈ tb := tb_in (tm_9 (List.mem_of_getElem? (i := 130) rfl)) rfl
theorem q9_131 : (Cond.selects "TrustChainModel" ({ cls := "TrustChainModel", name := "validate", desc := "(IJIZ)I" } : MethodName) ({ cls := "TrustChainModel", name := "validate", desc := "(IJIZ)I" } : MethodName)) ∈ tb := tb_in (tm_9 (List.mem_of_getElem? (i := 131) rfl)) rfl
theorem q9_132 : (Cond.code ({ cls := "TrustChainModel", name := "validate", desc := "(IJIZ)I" } : MethodName) prog_14_method_31_code (6 : Nat) (some FieldType.int)) ∈ tb := tb_in (tm_9 (List.mem_of_getElem? (i := 132) rfl)) rfl
theorem q9_133 : (Cond.methodLink "TrustChainModel" (336 : Nat) ({ cls := "TrustChainModel", name := "goOn", desc := "()Z" } : MethodName)) ∈ tb := tb_in (tm_9 (List.mem_of_getElem? (i := 133) rfl)) rfl
theorem q9_135 : (Cond.instanceMethod ({ cls := "TrustChainModel", name := "goOn", desc := "()Z" } : MethodName)) ∈ tb := tb_in (tm_9 (List.mem_of_getElem? (i := 135) rfl)) rfl
theorem q9_136 : (Cond.code ({ cls := "TrustChainModel", name := "goOn", desc := "()Z" } : MethodName) prog_14_method_32_code (4 : Nat) (some FieldType.boolean)) ∈ tb := tb_in (tm_9 (List.mem_of_getElem? (i := 136) rfl)) rfl
theorem q9_137 : (Cond.methodLink "TrustChainModel" (340 : Nat) ({ cls := "TrustChainModel", name := "judged", desc := "()Z" } : MethodName)) ∈ tb := tb_in (tm_9 (List.mem_of_getElem? (i := 137) rfl)) rfl
theorem q9_139 : (Cond.instanceMethod ({ cls := "TrustChainModel", name := "judged", desc := "()Z" } : MethodName)) ∈ tb := tb_in (tm_9 (List.mem_of_getElem? (i := 139) rfl)) rfl
theorem q9_140 : (Cond.code ({ cls := "TrustChainModel", name := "judged", desc := "()Z" } : MethodName) prog_14_method_34_code (4 : Nat) (some FieldType.boolean)) ∈ tb := tb_in (tm_9 (List.mem_of_getElem? (i := 140) rfl)) rfl
theorem q9_141 : (Cond.methodLink "TrustChainModel" (375 : Nat) ({ cls := "TrustChainModel", name := "faultOf", desc := "(I)I" } : MethodName)) ∈ tb := tb_in (tm_9 (List.mem_of_getElem? (i := 141) rfl)) rfl
theorem q9_143 : (Cond.instanceMethod ({ cls := "TrustChainModel", name := "faultOf", desc := "(I)I" } : MethodName)) ∈ tb := tb_in (tm_9 (List.mem_of_getElem? (i := 143) rfl)) rfl
theorem q9_144 : (Cond.code ({ cls := "TrustChainModel", name := "faultOf", desc := "(I)I" } : MethodName) prog_14_method_35_code (9 : Nat) (some FieldType.int)) ∈ tb := tb_in (tm_9 (List.mem_of_getElem? (i := 144) rfl)) rfl
theorem q9_145 : (Cond.methodLink "TrustChainModel" (359 : Nat) ({ cls := "TrustChainModel$Text", name := "same", desc := "(IILTrustChainModel$Text;II)Z" } : MethodName)) ∈ tb := tb_in (tm_9 (List.mem_of_getElem? (i := 145) rfl)) rfl
theorem q9_146 : (Cond.methodLink "TrustChainModel" (384 : Nat) ({ cls := "TrustChainModel$Text", name := "isOwn", desc := "()Z" } : MethodName)) ∈ tb := tb_in (tm_9 (List.mem_of_getElem? (i := 146) rfl)) rfl
theorem q9_147 : (Cond.instanceMethod ({ cls := "TrustChainModel$Text", name := "isOwn", desc := "()Z" } : MethodName)) ∈ tb := tb_in (tm_9 (List.mem_of_getElem? (i := 147) rfl)) rfl
theorem q9_148 : (Cond.selects "TrustChainModel$Text" ({ cls := "TrustChainModel$Text", name := "isOwn", desc := "()Z" } : MethodName) ({ cls := "TrustChainModel$Text", name := "isOwn", desc := "()Z" } : MethodName)) ∈ tb := tb_in (tm_9 (List.mem_of_getElem? (i := 148) rfl)) rfl
theorem q9_149 : (Cond.code ({ cls := "TrustChainModel$Text", name := "isOwn", desc := "()Z" } : MethodName) prog_15_method_33_code (1 : Nat) (some FieldType.boolean)) ∈ tb := tb_in (tm_9 (List.mem_of_getElem? (i := 149) rfl)) rfl
theorem q9_150 : (Cond.methodLink "TrustChainModel" (387 : Nat) ({ cls := "TrustChainModel", name := "namesMayBe", desc := "(LTrustChainModel$Text;I)Z" } : MethodName)) ∈ tb := tb_in (tm_9 (List.mem_of_getElem? (i := 150) rfl)) rfl
theorem q9_152 : (Cond.instanceMethod ({ cls := "TrustChainModel", name := "namesMayBe", desc := "(LTrustChainModel$Text;I)Z" } : MethodName)) ∈ tb := tb_in (tm_9 (List.mem_of_getElem? (i := 152) rfl)) rfl
theorem q9_153 : (Cond.code ({ cls := "TrustChainModel", name := "namesMayBe", desc := "(LTrustChainModel$Text;I)Z" } : MethodName) prog_14_method_36_code (6 : Nat) (some FieldType.boolean)) ∈ tb := tb_in (tm_9 (List.mem_of_getElem? (i := 153) rfl)) rfl
theorem q9_154 : (Cond.methodLink "TrustChainModel" (390 : Nat) ({ cls := "TrustChainModel", name := "mayBe", desc := "(LTrustChainModel$Text;LTrustChainModel$Text;III)Z" } : MethodName)) ∈ tb := tb_in (tm_9 (List.mem_of_getElem? (i := 154) rfl)) rfl
theorem q9_156 : (Cond.instanceMethod ({ cls := "TrustChainModel", name := "mayBe", desc := "(LTrustChainModel$Text;LTrustChainModel$Text;III)Z" } : MethodName)) ∈ tb := tb_in (tm_9 (List.mem_of_getElem? (i := 156) rfl)) rfl
theorem q9_157 : (Cond.code ({ cls := "TrustChainModel", name := "mayBe", desc := "(LTrustChainModel$Text;LTrustChainModel$Text;III)Z" } : MethodName) prog_14_method_37_code (10 : Nat) (some FieldType.boolean)) ∈ tb := tb_in (tm_9 (List.mem_of_getElem? (i := 157) rfl)) rfl
theorem q9_158 : (Cond.methodLink "TrustChainModel" (421 : Nat) ({ cls := "TrustChainModel", name := "begins", desc := "(LTrustChainModel$Text;IILTrustChainModel$Text;II)Z" } : MethodName)) ∈ tb := tb_in (tm_9 (List.mem_of_getElem? (i := 158) rfl)) rfl
theorem q9_159 : (Cond.static ({ cls := "TrustChainModel", name := "begins", desc := "(LTrustChainModel$Text;IILTrustChainModel$Text;II)Z" } : MethodName)) ∈ tb := tb_in (tm_9 (List.mem_of_getElem? (i := 159) rfl)) rfl
theorem q9_160 : (Cond.code ({ cls := "TrustChainModel", name := "begins", desc := "(LTrustChainModel$Text;IILTrustChainModel$Text;II)Z" } : MethodName) prog_14_method_39_code (9 : Nat) (some FieldType.boolean)) ∈ tb := tb_in (tm_9 (List.mem_of_getElem? (i := 160) rfl)) rfl
theorem q9_161 : (Cond.methodLink "TrustChainModel" (428 : Nat) ({ cls := "TrustChainModel", name := "inside", desc := "(LTrustChainModel$Text;I)I" } : MethodName)) ∈ tb := tb_in (tm_9 (List.mem_of_getElem? (i := 161) rfl)) rfl
theorem q9_162 : (Cond.static ({ cls := "TrustChainModel", name := "inside", desc := "(LTrustChainModel$Text;I)I" } : MethodName)) ∈ tb := tb_in (tm_9 (List.mem_of_getElem? (i := 162) rfl)) rfl
theorem q9_163 : (Cond.code ({ cls := "TrustChainModel", name := "inside", desc := "(LTrustChainModel$Text;I)I" } : MethodName) prog_14_method_38_code (2 : Nat) (some FieldType.int)) ∈ tb := tb_in (tm_9 (List.mem_of_getElem? (i := 163) rfl)) rfl
theorem q9_164 : (Cond.methodLink "TrustChainModel" (425 : Nat) ({ cls := "TrustChainModel", name := "ends", desc := "(LTrustChainModel$Text;IILTrustChainModel$Text;II)Z" } : MethodName)) ∈ tb := tb_in (tm_9 (List.mem_of_getElem? (i := 164) rfl)) rfl
theorem q9_165 : (Cond.static ({ cls := "TrustChainModel", name := "ends", desc := "(LTrustChainModel$Text;IILTrustChainModel$Text;II)Z" } : MethodName)) ∈ tb := tb_in (tm_9 (List.mem_of_getElem? (i := 165) rfl)) rfl
theorem q9_166 : (Cond.code ({ cls := "TrustChainModel", name := "ends", desc := "(LTrustChainModel$Text;IILTrustChainModel$Text;II)Z" } : MethodName) prog_14_method_41_code (9 : Nat) (some FieldType.boolean)) ∈ tb := tb_in (tm_9 (List.mem_of_getElem? (i := 166) rfl)) rfl
theorem q9_167 : (Cond.methodLink "TrustChainModel" (432 : Nat) ({ cls := "TrustChainModel", name := "small", desc := "(I)I" } : MethodName)) ∈ tb := tb_in (tm_9 (List.mem_of_getElem? (i := 167) rfl)) rfl
theorem q9_168 : (Cond.static ({ cls := "TrustChainModel", name := "small", desc := "(I)I" } : MethodName)) ∈ tb := tb_in (tm_9 (List.mem_of_getElem? (i := 168) rfl)) rfl
theorem q9_169 : (Cond.code ({ cls := "TrustChainModel", name := "small", desc := "(I)I" } : MethodName) prog_14_method_40_code (1 : Nat) (some FieldType.int)) ∈ tb := tb_in (tm_9 (List.mem_of_getElem? (i := 169) rfl)) rfl
theorem q9_170 : (Cond.methodLink "TrustChainModel" (343 : Nat) ({ cls := "TrustChainModel", name := "mayFollow", desc := "(LTrustChainModel$Text;I)Z" } : MethodName)) ∈ tb := tb_in (tm_9 (List.mem_of_getElem? (i := 170) rfl)) rfl
theorem q9_172 : (Cond.instanceMethod ({ cls := "TrustChainModel", name := "mayFollow", desc := "(LTrustChainModel$Text;I)Z" } : MethodName)) ∈ tb := tb_in (tm_9 (List.mem_of_getElem? (i := 172) rfl)) rfl
theorem q9_173 : (Cond.code ({ cls := "TrustChainModel", name := "mayFollow", desc := "(LTrustChainModel$Text;I)Z" } : MethodName) prog_14_method_33_code (4 : Nat) (some FieldType.boolean)) ∈ tb := tb_in (tm_9 (List.mem_of_getElem? (i := 173) rfl)) rfl
theorem q9_174 : (Cond.methodLink "TrustChainLaw" (106 : Nat) ({ cls := "TrustChainModel", name := "chain", desc := "(I)I" } : MethodName)) ∈ tb := tb_in (tm_9 (List.mem_of_getElem? (i := 174) rfl)) rfl
theorem q9_175 : (Cond.instanceMethod ({ cls := "TrustChainModel", name := "chain", desc := "(I)I" } : MethodName)) ∈ tb := tb_in (tm_9 (List.mem_of_getElem? (i := 175) rfl)) rfl
theorem q9_176 : (Cond.selects "TrustChainModel" ({ cls := "TrustChainModel", name := "chain", desc := "(I)I" } : MethodName) ({ cls := "TrustChainModel", name := "chain", desc := "(I)I" } : MethodName)) ∈ tb := tb_in (tm_9 (List.mem_of_getElem? (i := 176) rfl)) rfl
theorem q9_177 : (Cond.code ({ cls := "TrustChainModel", name := "chain", desc := "(I)I" } : MethodName) prog_14_method_42_code (2 : Nat) (some FieldType.int)) ∈ tb := tb_in (tm_9 (List.mem_of_getElem? (i := 177) rfl)) rfl
theorem q9_178 : (Cond.methodLink "TrustChainLaw" (109 : Nat) ({ cls := "TrustChainModel", name := "count", desc := "(I)I" } : MethodName)) ∈ tb := tb_in (tm_9 (List.mem_of_getElem? (i := 178) rfl)) rfl
theorem q9_179 : (Cond.instanceMethod ({ cls := "TrustChainModel", name := "count", desc := "(I)I" } : MethodName)) ∈ tb := tb_in (tm_9 (List.mem_of_getElem? (i := 179) rfl)) rfl
theorem q9_180 : (Cond.selects "TrustChainModel" ({ cls := "TrustChainModel", name := "count", desc := "(I)I" } : MethodName) ({ cls := "TrustChainModel", name := "count", desc := "(I)I" } : MethodName)) ∈ tb := tb_in (tm_9 (List.mem_of_getElem? (i := 180) rfl)) rfl
theorem q9_181 : (Cond.code ({ cls := "TrustChainModel", name := "count", desc := "(I)I" } : MethodName) prog_14_method_43_code (2 : Nat) (some FieldType.int)) ∈ tb := tb_in (tm_9 (List.mem_of_getElem? (i := 181) rfl)) rfl
theorem q9_182 : (Cond.methodLink "TrustChainLaw" (116 : Nat) ({ cls := "TrustChainModel", name := "covers", desc := "(IJJJJ)Z" } : MethodName)) ∈ tb := tb_in (tm_9 (List.mem_of_getElem? (i := 182) rfl)) rfl
theorem q9_183 : (Cond.instanceMethod ({ cls := "TrustChainModel", name := "covers", desc := "(IJJJJ)Z" } : MethodName)) ∈ tb := tb_in (tm_9 (List.mem_of_getElem? (i := 183) rfl)) rfl
theorem q9_184 : (Cond.selects "TrustChainModel" ({ cls := "TrustChainModel", name := "covers", desc := "(IJJJJ)Z" } : MethodName) ({ cls := "TrustChainModel", name := "covers", desc := "(IJJJJ)Z" } : MethodName)) ∈ tb := tb_in (tm_9 (List.mem_of_getElem? (i := 184) rfl)) rfl
theorem q9_185 : (Cond.code ({ cls := "TrustChainModel", name := "covers", desc := "(IJJJJ)Z" } : MethodName) prog_14_method_44_code (16 : Nat) (some FieldType.boolean)) ∈ tb := tb_in (tm_9 (List.mem_of_getElem? (i := 185) rfl)) rfl
theorem q9_186 : (Cond.methodLink "TrustChainModel" (435 : Nat) ({ cls := "TrustChainModel", name := "alike", desc := "(LTrustChainModel$Text;IIII)Z" } : MethodName)) ∈ tb := tb_in (tm_9 (List.mem_of_getElem? (i := 186) rfl)) rfl
theorem q9_188 : (Cond.instanceMethod ({ cls := "TrustChainModel", name := "alike", desc := "(LTrustChainModel$Text;IIII)Z" } : MethodName)) ∈ tb := tb_in (tm_9 (List.mem_of_getElem? (i := 188) rfl)) rfl
theorem q9_189 : (Cond.code ({ cls := "TrustChainModel", name := "alike", desc := "(LTrustChainModel$Text;IIII)Z" } : MethodName) prog_14_method_45_code (7 : Nat) (some FieldType.boolean)) ∈ tb := tb_in (tm_9 (List.mem_of_getElem? (i := 189) rfl)) rfl
theorem q9_190 : (Cond.constantLong "TrustChainLaw" (98 : Nat) (4294967295 : Int64)) ∈ tb := tb_in (tm_9 (List.mem_of_getElem? (i := 190) rfl)) rfl
theorem q9_192 : (Cond.sameMethod "TrustChain$Reader" "TrustChain$Reader" "open" "(II)I") ∈ tb := tb_in (tm_9 (List.mem_of_getElem? (i := 192) rfl)) rfl
theorem q9_193 : (Cond.selects "TrustChain$CertificateReader" ({ cls := "TrustChain$Reader", name := "open", desc := "(II)I" } : MethodName) ({ cls := "TrustChain$Reader", name := "open", desc := "(II)I" } : MethodName)) ∈ tb := tb_in (tm_9 (List.mem_of_getElem? (i := 193) rfl)) rfl
theorem q9_194 : (Cond.selects "TrustChain$ListReader" ({ cls := "TrustChain$Reader", name := "open", desc := "(II)I" } : MethodName) ({ cls := "TrustChain$Reader", name := "open", desc := "(II)I" } : MethodName)) ∈ tb := tb_in (tm_9 (List.mem_of_getElem? (i := 194) rfl)) rfl
theorem q9_195 : (Cond.sameMethod "TrustChain$Reader" "TrustChain$Reader" "number" "(II)LTrustChain$Slice;") ∈ tb := tb_in (tm_9 (List.mem_of_getElem? (i := 195) rfl)) rfl
theorem q9_196 : (Cond.selects "TrustChain$CertificateReader" ({ cls := "TrustChain$Reader", name := "number", desc := "(II)LTrustChain$Slice;" } : MethodName) ({ cls := "TrustChain$Reader", name := "number", desc := "(II)LTrustChain$Slice;" } : MethodName)) ∈ tb := tb_in (tm_9 (List.mem_of_getElem? (i := 196) rfl)) rfl
theorem q9_197 : (Cond.selects "TrustChain$ListReader" ({ cls := "TrustChain$Reader", name := "number", desc := "(II)LTrustChain$Slice;" } : MethodName) ({ cls := "TrustChain$Reader", name := "number", desc := "(II)LTrustChain$Slice;" } : MethodName)) ∈ tb := tb_in (tm_9 (List.mem_of_getElem? (i := 197) rfl)) rfl
theorem q9_198 : (Cond.sameMethod "TrustChain$Reader" "TrustChain$Reader" "require" "(Z)V") ∈ tb := tb_in (tm_9 (List.mem_of_getElem? (i := 198) rfl)) rfl
theorem q9_199 : (Cond.selects "TrustChain$CertificateReader" ({ cls := "TrustChain$Reader", name := "require", desc := "(Z)V" } : MethodName) ({ cls := "TrustChain$Reader", name := "require", desc := "(Z)V" } : MethodName)) ∈ tb := tb_in (tm_9 (List.mem_of_getElem? (i := 199) rfl)) rfl
theorem q9_200 : (Cond.selects "TrustChain$ListReader" ({ cls := "TrustChain$Reader", name := "require", desc := "(Z)V" } : MethodName) ({ cls := "TrustChain$Reader", name := "require", desc := "(Z)V" } : MethodName)) ∈ tb := tb_in (tm_9 (List.mem_of_getElem? (i := 200) rfl)) rfl
theorem q9_201 : (Cond.sameMethod "TrustChain$Reader" "TrustChain$Reader" "finish" "(I)V") ∈ tb := tb_in (tm_9 (List.mem_of_getElem? (i := 201) rfl)) rfl
theorem q9_202 : (Cond.selects "TrustChain$CertificateReader" ({ cls := "TrustChain$Reader", name := "finish", desc := "(I)V" } : MethodName) ({ cls := "TrustChain$Reader", name := "finish", desc := "(I)V" } : MethodName)) ∈ tb := tb_in (tm_9 (List.mem_of_getElem? (i := 202) rfl)) rfl
theorem q9_203 : (Cond.selects "TrustChain$ListReader" ({ cls := "TrustChain$Reader", name := "finish", desc := "(I)V" } : MethodName) ({ cls := "TrustChain$Reader", name := "finish", desc := "(I)V" } : MethodName)) ∈ tb := tb_in (tm_9 (List.mem_of_getElem? (i := 203) rfl)) rfl
theorem q9_204 : (Cond.sameMethod "TrustChain$Reader" "TrustChain$Reader" "isOid" "(II)Z") ∈ tb := tb_in (tm_9 (List.mem_of_getElem? (i := 204) rfl)) rfl
theorem q9_205 : (Cond.sameMethod "TrustChain$Reader" "TrustChain$Reader" "isUtf8" "(II)Z") ∈ tb := tb_in (tm_9 (List.mem_of_getElem? (i := 205) rfl)) rfl
theorem q9_206 : (Cond.sameMethod "TrustChain$Reader" "TrustChain$Reader" "isSimple" "(III)Z") ∈ tb := tb_in (tm_9 (List.mem_of_getElem? (i := 206) rfl)) rfl
theorem q9_207 : (Cond.sameMethod "TrustChain$Reader" "TrustChain$Reader" "digits" "(I)I") ∈ tb := tb_in (tm_9 (List.mem_of_getElem? (i := 207) rfl)) rfl
theorem q9_208 : (Cond.sameMethod "TrustChain$Reader" "TrustChain$Reader" "areDigits" "(II)Z") ∈ tb := tb_in (tm_9 (List.mem_of_getElem? (i := 208) rfl)) rfl
theorem q9_209 : (Cond.sameMethod "TrustChain$Reader" "TrustChain$Reader" "plain" "(III)LTrustChain$Slice;") ∈ tb := tb_in (tm_9 (List.mem_of_getElem? (i := 209) rfl)) rfl
theorem q9_210 : (Cond.selects "TrustChain$CertificateReader" ({ cls := "TrustChain$Reader", name := "plain", desc := "(III)LTrustChain$Slice;" } : MethodName) ({ cls := "TrustChain$Reader", name := "plain", desc := "(III)LTrustChain$Slice;" } : MethodName)) ∈ tb := tb_in (tm_9 (List.mem_of_getElem? (i := 210) rfl)) rfl
theorem q9_211 : (Cond.selects "TrustChain$ListReader" ({ cls := "TrustChain$Reader", name := "plain", desc := "(III)LTrustChain$Slice;" } : MethodName) ({ cls := "TrustChain$Reader", name := "plain", desc := "(III)LTrustChain$Slice;" } : MethodName)) ∈ tb := tb_in (tm_9 (List.mem_of_getElem? (i := 211) rfl)) rfl
theorem q9_212 : (Cond.sameMethod "TrustChain$Reader" "TrustChain$Reader" "isRepeated" "(LTrustChain$Slice;)Z") ∈ tb := tb_in (tm_9 (List.mem_of_getElem? (i := 212) rfl)) rfl
theorem q9_213 : (Cond.sameMethod "TrustChain$Reader" "TrustChain$Reader" "algorithm" "(II)V") ∈ tb := tb_in (tm_9 (List.mem_of_getElem? (i := 213) rfl)) rfl
theorem q9_214 : (Cond.selects "TrustChain$CertificateReader" ({ cls := "TrustChain$Reader", name := "algorithm", desc := "(II)V" } : MethodName) ({ cls := "TrustChain$Reader", name := "algorithm", desc := "(II)V" } : MethodName)) ∈ tb := tb_in (tm_9 (List.mem_of_getElem? (i := 214) rfl)) rfl
theorem q9_215 : (Cond.selects "TrustChain$ListReader" ({ cls := "TrustChain$Reader", name := "algorithm", desc := "(II)V" } : MethodName) ({ cls := "TrustChain$Reader", name := "algorithm", desc := "(II)V" } : MethodName)) ∈ tb := tb_in (tm_9 (List.mem_of_getElem? (i := 215) rfl)) rfl
theorem q9_216 : (Cond.sameMethod "TrustChain$Reader" "TrustChain$Reader" "openBits" "(I)I") ∈ tb := tb_in (tm_9 (List.mem_of_getElem? (i := 216) rfl)) rfl
theorem q9_217 : (Cond.selects "TrustChain$CertificateReader" ({ cls := "TrustChain$Reader", name := "openBits", desc := "(I)I" } : MethodName) ({ cls := "TrustChain$Reader", name := "openBits", desc := "(I)I" } : MethodName)) ∈ tb := tb_in (tm_9 (List.mem_of_getElem? (i := 217) rfl)) rfl
theorem q9_218 : (Cond.selects "TrustChain$ListReader" ({ cls := "TrustChain$Reader", name := "openBits", desc := "(I)I" } : MethodName) ({ cls := "TrustChain$Reader", name := "openBits", desc := "(I)I" } : MethodName)) ∈ tb := tb_in (tm_9 (List.mem_of_getElem? (i := 218) rfl)) rfl
theorem q9_221 : (Cond.selects "TrustChain$Paper" ({ cls := "TrustChain$Paper", name := "isAt", desc := "(J)Z" } : MethodName) ({ cls := "TrustChain$Paper", name := "isAt", desc := "(J)Z" } : MethodName)) ∈ tb := tb_in (tm_9 (List.mem_of_getElem? (i := 221) rfl)) rfl
theorem q9_222 : (Cond.castable "TrustChain$Slice" "TrustChain$Slice") ∈ lw_tbl := tm_9 (List.mem_of_getElem? (i := 222) rfl)
theorem q9_223 : (Cond.castable "TrustChain$Certificate" "TrustChain$Certificate") ∈ lw_tbl := tm_9 (List.mem_of_getElem? (i := 223) rfl)
theorem q9_224 : (Cond.castable "TrustChain$Certificate" "TrustChain$Paper") ∈ lw_tbl := tm_9 (List.mem_of_getElem? (i := 224) rfl)
theorem q9_225 : (Cond.castable "TrustChain$Paper" "TrustChain$Paper") ∈ lw_tbl := tm_9 (List.mem_of_getElem? (i := 225) rfl)
theorem q9_227 : (Cond.selects "[Ljava/lang/Object;" ({ cls := "java/lang/Object", name := "getClass", desc := "()Ljava/lang/Class;" } : MethodName) ({ cls := "java/lang/Object", name := "getClass", desc := "()Ljava/lang/Class;" } : MethodName)) ∈ tb := tb_in (tm_9 (List.mem_of_getElem? (i := 227) rfl)) rfl
theorem q9_228 : (Cond.declares ({ cls := "java/lang/Object", name := "getClass", desc := "()Ljava/lang/Class;" } : MethodName)) ∈ lw_tbl := tm_9 (List.mem_of_getElem? (i := 228) rfl)
theorem q9_229 : (Cond.castable "TrustChain" "java/lang/Object") ∈ lw_tbl := tm_9 (List.mem_of_getElem? (i := 229) rfl)
theorem q9_230 : (Cond.castable "TrustChain$Sha256" "java/lang/Object") ∈ lw_tbl := tm_9 (List.mem_of_getElem? (i := 230) rfl)
theorem q9_231 : (Cond.castable "TrustChain$Rsa" "java/lang/Object") ∈ lw_tbl := tm_9 (List.mem_of_getElem? (i := 231) rfl)
theorem q9_232 : (Cond.castable "TrustChain$Search" "java/lang/Object") ∈ lw_tbl := tm_9 (List.mem_of_getElem? (i := 232) rfl)
theorem q9_233 : (Cond.castable "TrustChain$PathCheck" "java/lang/Object") ∈ lw_tbl := tm_9 (List.mem_of_getElem? (i := 233) rfl)
theorem q9_234 : (Cond.castable "TrustChainModel" "java/lang/Object") ∈ lw_tbl := tm_9 (List.mem_of_getElem? (i := 234) rfl)
theorem q9_235 : (Cond.castable "TrustChainModel$Text" "java/lang/Object") ∈ lw_tbl := tm_9 (List.mem_of_getElem? (i := 235) rfl)
theorem q9_236 : (Cond.castable "TrustChain$CertificateReader" "java/lang/Object") ∈ lw_tbl := tm_9 (List.mem_of_getElem? (i := 236) rfl)
theorem q9_237 : (Cond.castable "TrustChain$Certificate" "java/lang/Object") ∈ lw_tbl := tm_9 (List.mem_of_getElem? (i := 237) rfl)
theorem q9_238 : (Cond.castable "TrustChain$Slice" "java/lang/Object") ∈ lw_tbl := tm_9 (List.mem_of_getElem? (i := 238) rfl)
theorem q9_239 : (Cond.castable "TrustChain$NameSet" "java/lang/Object") ∈ lw_tbl := tm_9 (List.mem_of_getElem? (i := 239) rfl)
theorem q10_0 : (Cond.castable "TrustChain$ListReader" "java/lang/Object") ∈ lw_tbl := tm_10 (List.mem_of_getElem? (i := 0) rfl)
theorem q10_1 : (Cond.castable "TrustChain$Paper" "java/lang/Object") ∈ lw_tbl := tm_10 (List.mem_of_getElem? (i := 1) rfl)
theorem q10_2 : (Cond.castable "java/lang/String" "java/lang/Object") ∈ lw_tbl := tm_10 (List.mem_of_getElem? (i := 2) rfl)
theorem q10_3 : (Cond.fieldLink "java/lang/String" (9 : Nat) "java/lang/String" "value" "[B") ∈ tb := tb_in (tm_10 (List.mem_of_getElem? (i := 3) rfl)) rfl
theorem q10_4 : (Cond.fieldLink "java/lang/String" (15 : Nat) "java/lang/String" "coder" "B") ∈ tb := tb_in (tm_10 (List.mem_of_getElem? (i := 4) rfl)) rfl
theorem qp_1 : Cond.selects "TrustChain" ⟨"TrustChain", "takeWord", "(I)V"⟩ ⟨"TrustChain", "takeWord", "(I)V"⟩ ∈ tb := tb_in (List.mem_append_left _ (List.mem_map.mpr ⟨(⟨"TrustChain", "takeWord", "(I)V"⟩, 14), List.mem_of_getElem? (i := 1) rfl, rfl⟩)) rfl
theorem qp_2 : Cond.selects "TrustChain" ⟨"TrustChain", "isFed", "(I)Z"⟩ ⟨"TrustChain", "isFed", "(I)Z"⟩ ∈ tb := tb_in (List.mem_append_left _ (List.mem_map.mpr ⟨(⟨"TrustChain", "isFed", "(I)Z"⟩, 14), List.mem_of_getElem? (i := 2) rfl, rfl⟩)) rfl
theorem qp_3 : Cond.selects "TrustChain" ⟨"TrustChain", "takeText", "(I)[B"⟩ ⟨"TrustChain", "takeText", "(I)[B"⟩ ∈ tb := tb_in (List.mem_append_left _ (List.mem_map.mpr ⟨(⟨"TrustChain", "takeText", "(I)[B"⟩, 14), List.mem_of_getElem? (i := 3) rfl, rfl⟩)) rfl
theorem qp_4 : Cond.selects "TrustChain$CertificateReader" ⟨"TrustChain$CertificateReader", "readHead", "(I)V"⟩ ⟨"TrustChain$CertificateReader", "readHead", "(I)V"⟩ ∈ tb := tb_in (List.mem_append_left _ (List.mem_map.mpr ⟨(⟨"TrustChain$CertificateReader", "readHead", "(I)V"⟩, 9), List.mem_of_getElem? (i := 4) rfl, rfl⟩)) rfl
theorem qp_5 : Cond.selects "TrustChain$CertificateReader" ⟨"TrustChain$CertificateReader", "readKey", "(I)V"⟩ ⟨"TrustChain$CertificateReader", "readKey", "(I)V"⟩ ∈ tb := tb_in (List.mem_append_left _ (List.mem_map.mpr ⟨(⟨"TrustChain$CertificateReader", "readKey", "(I)V"⟩, 9), List.mem_of_getElem? (i := 5) rfl, rfl⟩)) rfl
theorem qp_6 : Cond.selects "TrustChain$CertificateReader" ⟨"TrustChain$CertificateReader", "readModulus", "(I)V"⟩ ⟨"TrustChain$CertificateReader", "readModulus", "(I)V"⟩ ∈ tb := tb_in (List.mem_append_left _ (List.mem_map.mpr ⟨(⟨"TrustChain$CertificateReader", "readModulus", "(I)V"⟩, 9), List.mem_of_getElem? (i := 6) rfl, rfl⟩)) rfl
theorem qp_7 : Cond.selects "TrustChain$CertificateReader" ⟨"TrustChain$CertificateReader", "readUsage", "(I)V"⟩ ⟨"TrustChain$CertificateReader", "readUsage", "(I)V"⟩ ∈ tb := tb_in (List.mem_append_left _ (List.mem_map.mpr ⟨(⟨"TrustChain$CertificateReader", "readUsage", "(I)V"⟩, 9), List.mem_of_getElem? (i := 7) rfl, rfl⟩)) rfl
theorem qp_8 : Cond.selects "TrustChain$CertificateReader" ⟨"TrustChain$CertificateReader", "readNames", "(I)V"⟩ ⟨"TrustChain$CertificateReader", "readNames", "(I)V"⟩ ∈ tb := tb_in (List.mem_append_left _ (List.mem_map.mpr ⟨(⟨"TrustChain$CertificateReader", "readNames", "(I)V"⟩, 9), List.mem_of_getElem? (i := 8) rfl, rfl⟩)) rfl
theorem qp_9 : Cond.selects "java/util/ArrayList" ⟨"java/util/ArrayList", "add", "(Ljava/lang/Object;[Ljava/lang/Object;I)V"⟩ ⟨"java/util/ArrayList", "add", "(Ljava/lang/Object;[Ljava/lang/Object;I)V"⟩ ∈ tb := tb_in (List.mem_append_left _ (List.mem_map.mpr ⟨(⟨"java/util/ArrayList", "add", "(Ljava/lang/Object;[Ljava/lang/Object;I)V"⟩, 3), List.mem_of_getElem? (i := 9) rfl, rfl⟩)) rfl
theorem qp_10 : Cond.selects "java/util/ArrayList" ⟨"java/util/ArrayList", "grow", "()[Ljava/lang/Object;"⟩ ⟨"java/util/ArrayList", "grow", "()[Ljava/lang/Object;"⟩ ∈ tb := tb_in (List.mem_append_left _ (List.mem_map.mpr ⟨(⟨"java/util/ArrayList", "grow", "()[Ljava/lang/Object;"⟩, 3), List.mem_of_getElem? (i := 10) rfl, rfl⟩)) rfl
theorem qp_11 : Cond.selects "java/util/ArrayList" ⟨"java/util/ArrayList", "grow", "(I)[Ljava/lang/Object;"⟩ ⟨"java/util/ArrayList", "grow", "(I)[Ljava/lang/Object;"⟩ ∈ tb := tb_in (List.mem_append_left _ (List.mem_map.mpr ⟨(⟨"java/util/ArrayList", "grow", "(I)[Ljava/lang/Object;"⟩, 3), List.mem_of_getElem? (i := 11) rfl, rfl⟩)) rfl
theorem qp_12 : Cond.selects "TrustChain$CertificateReader" ⟨"TrustChain$CertificateReader", "readBasic", "(I)V"⟩ ⟨"TrustChain$CertificateReader", "readBasic", "(I)V"⟩ ∈ tb := tb_in (List.mem_append_left _ (List.mem_map.mpr ⟨(⟨"TrustChain$CertificateReader", "readBasic", "(I)V"⟩, 9), List.mem_of_getElem? (i := 12) rfl, rfl⟩)) rfl
theorem qp_13 : Cond.selects "TrustChain$CertificateReader" ⟨"TrustChain$CertificateReader", "readTrees", "(ILTrustChain$NameSet;I)V"⟩ ⟨"TrustChain$CertificateReader", "readTrees", "(ILTrustChain$NameSet;I)V"⟩ ∈ tb := tb_in (List.mem_append_left _ (List.mem_map.mpr ⟨(⟨"TrustChain$CertificateReader", "readTrees", "(ILTrustChain$NameSet;I)V"⟩, 9), List.mem_of_getElem? (i := 13) rfl, rfl⟩)) rfl
theorem qp_14 : Cond.selects "TrustChain$Sha256" ⟨"TrustChain$Sha256", "fillSchedule", "(LTrustChain$Slice;II)V"⟩ ⟨"TrustChain$Sha256", "fillSchedule", "(LTrustChain$Slice;II)V"⟩ ∈ tb := tb_in (List.mem_append_left _ (List.mem_map.mpr ⟨(⟨"TrustChain$Sha256", "fillSchedule", "(LTrustChain$Slice;II)V"⟩, 1), List.mem_of_getElem? (i := 14) rfl, rfl⟩)) rfl
theorem qp_15 : Cond.selects "TrustChain$Sha256" ⟨"TrustChain$Sha256", "mix", "([I)V"⟩ ⟨"TrustChain$Sha256", "mix", "([I)V"⟩ ∈ tb := tb_in (List.mem_append_left _ (List.mem_map.mpr ⟨(⟨"TrustChain$Sha256", "mix", "([I)V"⟩, 1), List.mem_of_getElem? (i := 15) rfl, rfl⟩)) rfl
theorem qp_16 : Cond.selects "TrustChain" ⟨"TrustChain", "linkIssuers", "(LTrustChain$Certificate;)V"⟩ ⟨"TrustChain", "linkIssuers", "(LTrustChain$Certificate;)V"⟩ ∈ tb := tb_in (List.mem_append_left _ (List.mem_map.mpr ⟨(⟨"TrustChain", "linkIssuers", "(LTrustChain$Certificate;)V"⟩, 14), List.mem_of_getElem? (i := 16) rfl, rfl⟩)) rfl
theorem qp_17 : Cond.selects "TrustChain$ListReader" ⟨"TrustChain$ListReader", "readHead", "(I)V"⟩ ⟨"TrustChain$ListReader", "readHead", "(I)V"⟩ ∈ tb := tb_in (List.mem_append_left _ (List.mem_map.mpr ⟨(⟨"TrustChain$ListReader", "readHead", "(I)V"⟩, 10), List.mem_of_getElem? (i := 17) rfl, rfl⟩)) rfl
theorem qp_18 : Cond.selects "TrustChain" ⟨"TrustChain", "isStored", "(I)Z"⟩ ⟨"TrustChain", "isStored", "(I)Z"⟩ ∈ tb := tb_in (List.mem_append_left _ (List.mem_map.mpr ⟨(⟨"TrustChain", "isStored", "(I)Z"⟩, 14), List.mem_of_getElem? (i := 18) rfl, rfl⟩)) rfl
theorem qp_19 : Cond.selects "TrustChain" ⟨"TrustChain", "isListed", "(I)Z"⟩ ⟨"TrustChain", "isListed", "(I)Z"⟩ ∈ tb := tb_in (List.mem_append_left _ (List.mem_map.mpr ⟨(⟨"TrustChain", "isListed", "(I)Z"⟩, 14), List.mem_of_getElem? (i := 19) rfl, rfl⟩)) rfl
theorem qp_20 : Cond.selects "TrustChain$Rsa" ⟨"TrustChain$Rsa", "verifies", "(LTrustChain$Paper;LTrustChain$Certificate;)Z"⟩ ⟨"TrustChain$Rsa", "verifies", "(LTrustChain$Paper;LTrustChain$Certificate;)Z"⟩ ∈ tb := tb_in (List.mem_append_left _ (List.mem_map.mpr ⟨(⟨"TrustChain$Rsa", "verifies", "(LTrustChain$Paper;LTrustChain$Certificate;)Z"⟩, 8), List.mem_of_getElem? (i := 20) rfl, rfl⟩)) rfl
theorem qp_21 : Cond.selects "TrustChain$Rsa" ⟨"TrustChain$Rsa", "load", "(LTrustChain$Slice;[J)V"⟩ ⟨"TrustChain$Rsa", "load", "(LTrustChain$Slice;[J)V"⟩ ∈ tb := tb_in (List.mem_append_left _ (List.mem_map.mpr ⟨(⟨"TrustChain$Rsa", "load", "(LTrustChain$Slice;[J)V"⟩, 8), List.mem_of_getElem? (i := 21) rfl, rfl⟩)) rfl
theorem qp_22 : Cond.selects "TrustChain$Rsa" ⟨"TrustChain$Rsa", "isBelowModulus", "([J)Z"⟩ ⟨"TrustChain$Rsa", "isBelowModulus", "([J)Z"⟩ ∈ tb := tb_in (List.mem_append_left _ (List.mem_map.mpr ⟨(⟨"TrustChain$Rsa", "isBelowModulus", "([J)Z"⟩, 8), List.mem_of_getElem? (i := 22) rfl, rfl⟩)) rfl
theorem qp_23 : Cond.selects "TrustChain$Rsa" ⟨"TrustChain$Rsa", "prepare", "(I)V"⟩ ⟨"TrustChain$Rsa", "prepare", "(I)V"⟩ ∈ tb := tb_in (List.mem_append_left _ (List.mem_map.mpr ⟨(⟨"TrustChain$Rsa", "prepare", "(I)V"⟩, 8), List.mem_of_getElem? (i := 23) rfl, rfl⟩)) rfl
theorem qp_24 : Cond.selects "TrustChain$Rsa" ⟨"TrustChain$Rsa", "settle", "([J)V"⟩ ⟨"TrustChain$Rsa", "settle", "([J)V"⟩ ∈ tb := tb_in (List.mem_append_left _ (List.mem_map.mpr ⟨(⟨"TrustChain$Rsa", "settle", "([J)V"⟩, 8), List.mem_of_getElem? (i := 24) rfl, rfl⟩)) rfl
theorem qp_25 : Cond.selects "TrustChain$Rsa" ⟨"TrustChain$Rsa", "multiply", "([J[J[J)V"⟩ ⟨"TrustChain$Rsa", "multiply", "([J[J[J)V"⟩ ∈ tb := tb_in (List.mem_append_left _ (List.mem_map.mpr ⟨(⟨"TrustChain$Rsa", "multiply", "([J[J[J)V"⟩, 8), List.mem_of_getElem? (i := 25) rfl, rfl⟩)) rfl
theorem qp_26 : Cond.selects "TrustChain$Rsa" ⟨"TrustChain$Rsa", "hasForm", "([II)Z"⟩ ⟨"TrustChain$Rsa", "hasForm", "([II)Z"⟩ ∈ tb := tb_in (List.mem_append_left _ (List.mem_map.mpr ⟨(⟨"TrustChain$Rsa", "hasForm", "([II)Z"⟩, 8), List.mem_of_getElem? (i := 26) rfl, rfl⟩)) rfl
theorem qp_27 : Cond.selects "TrustChain$Search" ⟨"TrustChain$Search", "put", "(LTrustChain$Certificate;)V"⟩ ⟨"TrustChain$Search", "put", "(LTrustChain$Certificate;)V"⟩ ∈ tb := tb_in (List.mem_append_left _ (List.mem_map.mpr ⟨(⟨"TrustChain$Search", "put", "(LTrustChain$Certificate;)V"⟩, 5), List.mem_of_getElem? (i := 27) rfl, rfl⟩)) rfl
theorem qp_28 : Cond.selects "TrustChain$Search" ⟨"TrustChain$Search", "nextCandidate", "(I)I"⟩ ⟨"TrustChain$Search", "nextCandidate", "(I)I"⟩ ∈ tb := tb_in (List.mem_append_left _ (List.mem_map.mpr ⟨(⟨"TrustChain$Search", "nextCandidate", "(I)I"⟩, 5), List.mem_of_getElem? (i := 28) rfl, rfl⟩)) rfl
theorem qp_29 : Cond.selects "TrustChain$Search" ⟨"TrustChain$Search", "takeOff", "()V"⟩ ⟨"TrustChain$Search", "takeOff", "()V"⟩ ∈ tb := tb_in (List.mem_append_left _ (List.mem_map.mpr ⟨(⟨"TrustChain$Search", "takeOff", "()V"⟩, 5), List.mem_of_getElem? (i := 29) rfl, rfl⟩)) rfl
theorem qp_30 : Cond.selects "java/util/ArrayList" ⟨"java/util/ArrayList", "fastRemove", "([Ljava/lang/Object;I)V"⟩ ⟨"java/util/ArrayList", "fastRemove", "([Ljava/lang/Object;I)V"⟩ ∈ tb := tb_in (List.mem_append_left _ (List.mem_map.mpr ⟨(⟨"java/util/ArrayList", "fastRemove", "([Ljava/lang/Object;I)V"⟩, 3), List.mem_of_getElem? (i := 30) rfl, rfl⟩)) rfl
theorem qp_31 : Cond.selects "TrustChain$PathCheck" ⟨"TrustChain$PathCheck", "faultAt", "(Ljava/util/ArrayList;ILjava/util/ArrayList;LTrustChain$Rsa;)I"⟩ ⟨"TrustChain$PathCheck", "faultAt", "(Ljava/util/ArrayList;ILjava/util/ArrayList;LTrustChain$Rsa;)I"⟩ ∈ tb := tb_in (List.mem_append_left _ (List.mem_map.mpr ⟨(⟨"TrustChain$PathCheck", "faultAt", "(Ljava/util/ArrayList;ILjava/util/ArrayList;LTrustChain$Rsa;)I"⟩, 4), List.mem_of_getElem? (i := 31) rfl, rfl⟩)) rfl
theorem qp_32 : Cond.selects "TrustChain$PathCheck" ⟨"TrustChain$PathCheck", "isRevoked", "(LTrustChain$Certificate;LTrustChain$Certificate;Ljava/util/ArrayList;LTrustChain$Rsa;)Z"⟩ ⟨"TrustChain$PathCheck", "isRevoked", "(LTrustChain$Certificate;LTrustChain$Certificate;Ljava/util/ArrayList;LTrustChain$Rsa;)Z"⟩ ∈ tb := tb_in (List.mem_append_left _ (List.mem_map.mpr ⟨(⟨"TrustChain$PathCheck", "isRevoked", "(LTrustChain$Certificate;LTrustChain$Certificate;Ljava/util/ArrayList;LTrustChain$Rsa;)Z"⟩, 4), List.mem_of_getElem? (i := 32) rfl, rfl⟩)) rfl
theorem qp_33 : Cond.selects "TrustChain$PathCheck" ⟨"TrustChain$PathCheck", "faultAsIssuer", "(Ljava/util/ArrayList;I)I"⟩ ⟨"TrustChain$PathCheck", "faultAsIssuer", "(Ljava/util/ArrayList;I)I"⟩ ∈ tb := tb_in (List.mem_append_left _ (List.mem_map.mpr ⟨(⟨"TrustChain$PathCheck", "faultAsIssuer", "(Ljava/util/ArrayList;I)I"⟩, 4), List.mem_of_getElem? (i := 33) rfl, rfl⟩)) rfl
theorem qp_34 : Cond.selects "TrustChain" ⟨"TrustChain", "keepPath", "()V"⟩ ⟨"TrustChain", "keepPath", "()V"⟩ ∈ tb := tb_in (List.mem_append_left _ (List.mem_map.mpr ⟨(⟨"TrustChain", "keepPath", "()V"⟩, 14), List.mem_of_getElem? (i := 34) rfl, rfl⟩)) rfl
theorem qp_35 : Cond.selects "TrustChain" ⟨"TrustChain", "takeHost", "(IJ)V"⟩ ⟨"TrustChain", "takeHost", "(IJ)V"⟩ ∈ tb := tb_in (List.mem_append_left _ (List.mem_map.mpr ⟨(⟨"TrustChain", "takeHost", "(IJ)V"⟩, 14), List.mem_of_getElem? (i := 35) rfl, rfl⟩)) rfl
theorem qp_36 : Cond.selects "TrustChainModel" ⟨"TrustChainModel", "fails", "(ZI)Z"⟩ ⟨"TrustChainModel", "fails", "(ZI)Z"⟩ ∈ tb := tb_in (List.mem_append_left _ (List.mem_map.mpr ⟨(⟨"TrustChainModel", "fails", "(ZI)Z"⟩, 32), List.mem_of_getElem? (i := 36) rfl, rfl⟩)) rfl
theorem qp_37 : Cond.selects "TrustChainModel" ⟨"TrustChainModel", "store", "(IZ)I"⟩ ⟨"TrustChainModel", "store", "(IZ)I"⟩ ∈ tb := tb_in (List.mem_append_left _ (List.mem_map.mpr ⟨(⟨"TrustChainModel", "store", "(IZ)I"⟩, 32), List.mem_of_getElem? (i := 37) rfl, rfl⟩)) rfl
theorem qp_38 : Cond.selects "TrustChainModel$Text" ⟨"TrustChainModel$Text", "two", "(I)I"⟩ ⟨"TrustChainModel$Text", "two", "(I)I"⟩ ∈ tb := tb_in (List.mem_append_left _ (List.mem_map.mpr ⟨(⟨"TrustChainModel$Text", "two", "(I)I"⟩, 54), List.mem_of_getElem? (i := 38) rfl, rfl⟩)) rfl
theorem qp_39 : Cond.selects "TrustChainModel" ⟨"TrustChainModel", "noCertificate", "(II)Z"⟩ ⟨"TrustChainModel", "noCertificate", "(II)Z"⟩ ∈ tb := tb_in (List.mem_append_left _ (List.mem_map.mpr ⟨(⟨"TrustChainModel", "noCertificate", "(II)Z"⟩, 32), List.mem_of_getElem? (i := 39) rfl, rfl⟩)) rfl
theorem qp_40 : Cond.selects "TrustChainModel" ⟨"TrustChainModel", "digest", "(LTrustChainModel$Text;)V"⟩ ⟨"TrustChainModel", "digest", "(LTrustChainModel$Text;)V"⟩ ∈ tb := tb_in (List.mem_append_left _ (List.mem_map.mpr ⟨(⟨"TrustChainModel", "digest", "(LTrustChainModel$Text;)V"⟩, 32), List.mem_of_getElem? (i := 40) rfl, rfl⟩)) rfl
theorem qp_41 : Cond.selects "TrustChainModel" ⟨"TrustChainModel", "compress", "(I)V"⟩ ⟨"TrustChainModel", "compress", "(I)V"⟩ ∈ tb := tb_in (List.mem_append_left _ (List.mem_map.mpr ⟨(⟨"TrustChainModel", "compress", "(I)V"⟩, 32), List.mem_of_getElem? (i := 41) rfl, rfl⟩)) rfl
theorem qp_42 : Cond.selects "TrustChainModel" ⟨"TrustChainModel", "isSigned", "(LTrustChainModel$Text;LTrustChainModel$Text;)Z"⟩ ⟨"TrustChainModel", "isSigned", "(LTrustChainModel$Text;LTrustChainModel$Text;)Z"⟩ ∈ tb := tb_in (List.mem_append_left _ (List.mem_map.mpr ⟨(⟨"TrustChainModel", "isSigned", "(LTrustChainModel$Text;LTrustChainModel$Text;)Z"⟩, 32), List.mem_of_getElem? (i := 42) rfl, rfl⟩)) rfl
theorem qp_43 : Cond.selects "TrustChainModel" ⟨"TrustChainModel", "reduced", "([II[III)I"⟩ ⟨"TrustChainModel", "reduced", "([II[III)I"⟩ ∈ tb := tb_in (List.mem_append_left _ (List.mem_map.mpr ⟨(⟨"TrustChainModel", "reduced", "([II[III)I"⟩, 32), List.mem_of_getElem? (i := 43) rfl, rfl⟩)) rfl
theorem qp_44 : Cond.selects "TrustChainModel" ⟨"TrustChainModel", "divided", "([II[II[I)I"⟩ ⟨"TrustChainModel", "divided", "([II[II[I)I"⟩ ∈ tb := tb_in (List.mem_append_left _ (List.mem_map.mpr ⟨(⟨"TrustChainModel", "divided", "([II[II[I)I"⟩, 32), List.mem_of_getElem? (i := 44) rfl, rfl⟩)) rfl
theorem qp_45 : Cond.selects "TrustChainModel" ⟨"TrustChainModel", "goOn", "()Z"⟩ ⟨"TrustChainModel", "goOn", "()Z"⟩ ∈ tb := tb_in (List.mem_append_left _ (List.mem_map.mpr ⟨(⟨"TrustChainModel", "goOn", "()Z"⟩, 32), List.mem_of_getElem? (i := 45) rfl, rfl⟩)) rfl
theorem qp_46 : Cond.selects "TrustChainModel" ⟨"TrustChainModel", "judged", "()Z"⟩ ⟨"TrustChainModel", "judged", "()Z"⟩ ∈ tb := tb_in (List.mem_append_left _ (List.mem_map.mpr ⟨(⟨"TrustChainModel", "judged", "()Z"⟩, 32), List.mem_of_getElem? (i := 46) rfl, rfl⟩)) rfl
theorem qp_47 : Cond.selects "TrustChainModel" ⟨"TrustChainModel", "faultOf", "(I)I"⟩ ⟨"TrustChainModel", "faultOf", "(I)I"⟩ ∈ tb := tb_in (List.mem_append_left _ (List.mem_map.mpr ⟨(⟨"TrustChainModel", "faultOf", "(I)I"⟩, 32), List.mem_of_getElem? (i := 47) rfl, rfl⟩)) rfl
theorem qp_48 : Cond.selects "TrustChainModel" ⟨"TrustChainModel", "namesMayBe", "(LTrustChainModel$Text;I)Z"⟩ ⟨"TrustChainModel", "namesMayBe", "(LTrustChainModel$Text;I)Z"⟩ ∈ tb := tb_in (List.mem_append_left _ (List.mem_map.mpr ⟨(⟨"TrustChainModel", "namesMayBe", "(LTrustChainModel$Text;I)Z"⟩, 32), List.mem_of_getElem? (i := 48) rfl, rfl⟩)) rfl
theorem qp_49 : Cond.selects "TrustChainModel" ⟨"TrustChainModel", "mayBe", "(LTrustChainModel$Text;LTrustChainModel$Text;III)Z"⟩ ⟨"TrustChainModel", "mayBe", "(LTrustChainModel$Text;LTrustChainModel$Text;III)Z"⟩ ∈ tb := tb_in (List.mem_append_left _ (List.mem_map.mpr ⟨(⟨"TrustChainModel", "mayBe", "(LTrustChainModel$Text;LTrustChainModel$Text;III)Z"⟩, 32), List.mem_of_getElem? (i := 49) rfl, rfl⟩)) rfl
theorem qp_50 : Cond.selects "TrustChainModel" ⟨"TrustChainModel", "mayFollow", "(LTrustChainModel$Text;I)Z"⟩ ⟨"TrustChainModel", "mayFollow", "(LTrustChainModel$Text;I)Z"⟩ ∈ tb := tb_in (List.mem_append_left _ (List.mem_map.mpr ⟨(⟨"TrustChainModel", "mayFollow", "(LTrustChainModel$Text;I)Z"⟩, 32), List.mem_of_getElem? (i := 50) rfl, rfl⟩)) rfl
theorem qp_51 : Cond.selects "TrustChainModel" ⟨"TrustChainModel", "alike", "(LTrustChainModel$Text;IIII)Z"⟩ ⟨"TrustChainModel", "alike", "(LTrustChainModel$Text;IIII)Z"⟩ ∈ tb := tb_in (List.mem_append_left _ (List.mem_map.mpr ⟨(⟨"TrustChainModel", "alike", "(LTrustChainModel$Text;IIII)Z"⟩, 32), List.mem_of_getElem? (i := 51) rfl, rfl⟩)) rfl
theorem qx_0 : Cond.selects "TrustChain$CertificateReader" ⟨"TrustChain$Reader", "digits", "(I)I"⟩ ⟨"TrustChain$Reader", "digits", "(I)I"⟩ ∈ tb := tb_ix (List.mem_map.mpr ⟨("TrustChain$CertificateReader", ⟨"TrustChain$Reader", "digits", "(I)I"⟩), List.mem_of_getElem? (i := 0) rfl, rfl⟩) rfl
theorem qx_1 : Cond.selects "TrustChain$CertificateReader" ⟨"TrustChain$Reader", "areDigits", "(II)Z"⟩ ⟨"TrustChain$Reader", "areDigits", "(II)Z"⟩ ∈ tb := tb_ix (List.mem_map.mpr ⟨("TrustChain$CertificateReader", ⟨"TrustChain$Reader", "areDigits", "(II)Z"⟩), List.mem_of_getElem? (i := 1) rfl, rfl⟩) rfl
theorem qx_2 : Cond.selects "TrustChain$CertificateReader" ⟨"TrustChain$Reader", "isOid", "(II)Z"⟩ ⟨"TrustChain$Reader", "isOid", "(II)Z"⟩ ∈ tb := tb_ix (List.mem_map.mpr ⟨("TrustChain$CertificateReader", ⟨"TrustChain$Reader", "isOid", "(II)Z"⟩), List.mem_of_getElem? (i := 2) rfl, rfl⟩) rfl
theorem qx_3 : Cond.selects "TrustChain$CertificateReader" ⟨"TrustChain$Reader", "isSimple", "(III)Z"⟩ ⟨"TrustChain$Reader", "isSimple", "(III)Z"⟩ ∈ tb := tb_ix (List.mem_map.mpr ⟨("TrustChain$CertificateReader", ⟨"TrustChain$Reader", "isSimple", "(III)Z"⟩), List.mem_of_getElem? (i := 3) rfl, rfl⟩) rfl
theorem qx_4 : Cond.selects "TrustChain$CertificateReader" ⟨"TrustChain$Reader", "isUtf8", "(II)Z"⟩ ⟨"TrustChain$Reader", "isUtf8", "(II)Z"⟩ ∈ tb := tb_ix (List.mem_map.mpr ⟨("TrustChain$CertificateReader", ⟨"TrustChain$Reader", "isUtf8", "(II)Z"⟩), List.mem_of_getElem? (i := 4) rfl, rfl⟩) rfl
theorem qx_5 : Cond.selects "TrustChain$CertificateReader" ⟨"TrustChain$Reader", "isRepeated", "(LTrustChain$Slice;)Z"⟩ ⟨"TrustChain$Reader", "isRepeated", "(LTrustChain$Slice;)Z"⟩ ∈ tb := tb_ix (List.mem_map.mpr ⟨("TrustChain$CertificateReader", ⟨"TrustChain$Reader", "isRepeated", "(LTrustChain$Slice;)Z"⟩), List.mem_of_getElem? (i := 5) rfl, rfl⟩) rfl
theorem qx_6 : Cond.selects "TrustChain$ListReader" ⟨"TrustChain$Reader", "digits", "(I)I"⟩ ⟨"TrustChain$Reader", "digits", "(I)I"⟩ ∈ tb := tb_ix (List.mem_map.mpr ⟨("TrustChain$ListReader", ⟨"TrustChain$Reader", "digits", "(I)I"⟩), List.mem_of_getElem? (i := 6) rfl, rfl⟩) rfl
theorem qx_7 : Cond.selects "TrustChain$ListReader" ⟨"TrustChain$Reader", "areDigits", "(II)Z"⟩ ⟨"TrustChain$Reader", "areDigits", "(II)Z"⟩ ∈ tb := tb_ix (List.mem_map.mpr ⟨("TrustChain$ListReader", ⟨"TrustChain$Reader", "areDigits", "(II)Z"⟩), List.mem_of_getElem? (i := 7) rfl, rfl⟩) rfl
theorem qx_8 : Cond.selects "TrustChain$ListReader" ⟨"TrustChain$Reader", "isOid", "(II)Z"⟩ ⟨"TrustChain$Reader", "isOid", "(II)Z"⟩ ∈ tb := tb_ix (List.mem_map.mpr ⟨("TrustChain$ListReader", ⟨"TrustChain$Reader", "isOid", "(II)Z"⟩), List.mem_of_getElem? (i := 8) rfl, rfl⟩) rfl
theorem qx_9 : Cond.selects "TrustChain$ListReader" ⟨"TrustChain$Reader", "isSimple", "(III)Z"⟩ ⟨"TrustChain$Reader", "isSimple", "(III)Z"⟩ ∈ tb := tb_ix (List.mem_map.mpr ⟨("TrustChain$ListReader", ⟨"TrustChain$Reader", "isSimple", "(III)Z"⟩), List.mem_of_getElem? (i := 9) rfl, rfl⟩) rfl
theorem qx_10 : Cond.selects "TrustChain$ListReader" ⟨"TrustChain$Reader", "isUtf8", "(II)Z"⟩ ⟨"TrustChain$Reader", "isUtf8", "(II)Z"⟩ ∈ tb := tb_ix (List.mem_map.mpr ⟨("TrustChain$ListReader", ⟨"TrustChain$Reader", "isUtf8", "(II)Z"⟩), List.mem_of_getElem? (i := 10) rfl, rfl⟩) rfl
theorem qx_11 : Cond.selects "TrustChain$ListReader" ⟨"TrustChain$Reader", "isRepeated", "(LTrustChain$Slice;)Z"⟩ ⟨"TrustChain$Reader", "isRepeated", "(LTrustChain$Slice;)Z"⟩ ∈ tb := tb_ix (List.mem_map.mpr ⟨("TrustChain$ListReader", ⟨"TrustChain$Reader", "isRepeated", "(LTrustChain$Slice;)Z"⟩), List.mem_of_getElem? (i := 11) rfl, rfl⟩) rfl
/-- the words that a callee can't ask of the tables: nests, declarations, casts, arrays of objects -/
def nwords : List Cond := [(Cond.methodLinkNest "TrustChain" (28 : Nat) ({ cls := "TrustChain$Sha256", name := "<init>", desc := "()V" } : MethodName) "TrustChain"), (Cond.methodLinkNest "TrustChain" (42 : Nat) ({ cls := "TrustChain$Search", name := "<init>", desc := "()V" } : MethodName) "TrustChain"), (Cond.methodLinkNest "TrustChain" (49 : Nat) ({ cls := "TrustChain$PathCheck", name := "<init>", desc := "()V" } : MethodName) "TrustChain"), (Cond.castable "java/lang/IndexOutOfBoundsException" "java/lang/IndexOutOfBoundsException"), (Cond.declares ({ cls := "java/lang/RuntimeException", name := "<init>", desc := "()V" } : MethodName)), (Cond.declares ({ cls := "java/lang/RuntimeException", name := "<init>", desc := "(Ljava/lang/String;)V" } : MethodName)), (Cond.declares ({ cls := "java/lang/Exception", name := "<init>", desc := "()V" } : MethodName)), (Cond.declares ({ cls := "java/lang/Exception", name := "<init>", desc := "(Ljava/lang/String;)V" } : MethodName)), (Cond.declares ({ cls := "java/lang/Throwable", name := "<init>", desc := "()V" } : MethodName)), (Cond.declares ({ cls := "java/lang/Throwable", name := "<init>", desc := "(Ljava/lang/String;)V" } : MethodName)), (Cond.castable "[B" "java/lang/Cloneable"), (Cond.fieldLinkNest "TrustChain$CertificateReader" (147 : Nat) "TrustChain$Slice" "from" "I" "TrustChain"), (Cond.fieldLinkNest "TrustChain$CertificateReader" (150 : Nat) "TrustChain$Slice" "to" "I" "TrustChain"), (Cond.methodLinkNest "TrustChain$Certificate" (11 : Nat) ({ cls := "TrustChain$NameSet", name := "<init>", desc := "()V" } : MethodName) "TrustChain"), (Cond.fieldLinkNest "TrustChain$Certificate" (103 : Nat) "TrustChain$NameSet" "dns" "Ljava/util/ArrayList;" "TrustChain"), (Cond.fieldLinkNest "TrustChain$PathCheck" (120 : Nat) "TrustChain$NameSet" "dns" "Ljava/util/ArrayList;" "TrustChain"), (Cond.fieldLinkNest "TrustChain$CertificateReader" (238 : Nat) "TrustChain$NameSet" "dns" "Ljava/util/ArrayList;" "TrustChain"), (Cond.fieldLinkNest "TrustChain$Certificate" (90 : Nat) "TrustChain$NameSet" "directories" "Ljava/util/ArrayList;" "TrustChain"), (Cond.fieldLinkNest "TrustChain$PathCheck" (114 : Nat) "TrustChain$NameSet" "directories" "Ljava/util/ArrayList;" "TrustChain"), (Cond.fieldLinkNest "TrustChain$CertificateReader" (223 : Nat) "TrustChain$NameSet" "directories" "Ljava/util/ArrayList;" "TrustChain"), (Cond.declares ({ cls := "TrustChain$Reader", name := "open", desc := "(II)I" } : MethodName)), (Cond.declares ({ cls := "TrustChain$Reader", name := "number", desc := "(II)LTrustChain$Slice;" } : MethodName)), (Cond.declares ({ cls := "TrustChain$Reader", name := "require", desc := "(Z)V" } : MethodName)), (Cond.declares ({ cls := "TrustChain$Reader", name := "finish", desc := "(I)V" } : MethodName)), (Cond.declares ({ cls := "TrustChain$Reader", name := "serial", desc := "(I)LTrustChain$Slice;" } : MethodName)), (Cond.declares ({ cls := "TrustChain$Reader", name := "algorithm", desc := "(II)V" } : MethodName)), (Cond.declares ({ cls := "TrustChain$Reader", name := "fullName", desc := "(I)LTrustChain$Slice;" } : MethodName)), (Cond.declares ({ cls := "TrustChain$Reader", name := "time", desc := "(I)J" } : MethodName)), (Cond.declares ({ cls := "TrustChain$Reader", name := "name", desc := "(I)LTrustChain$Slice;" } : MethodName)), (Cond.declares ({ cls := "TrustChain$Reader", name := "openBits", desc := "(I)I" } : MethodName)), (Cond.declares ({ cls := "TrustChain$Reader", name := "nextIs", desc := "(II)Z" } : MethodName)), (Cond.declares ({ cls := "TrustChain$Reader", name := "readExtensions", desc := "(I)V" } : MethodName)), (Cond.declares ({ cls := "TrustChain$Reader", name := "readKnown", desc := "(II)Z" } : MethodName)), (Cond.declares ({ cls := "TrustChain$Reader", name := "plain", desc := "(III)LTrustChain$Slice;" } : MethodName)), (Cond.declares ({ cls := "TrustChain$Reader", name := "octet", desc := "(I)I" } : MethodName)), (Cond.declares ({ cls := "TrustChain$Reader", name := "leave", desc := "(IZ)V" } : MethodName)), (Cond.declares ({ cls := "TrustChain$Reader", name := "more", desc := "(I)Z" } : MethodName)), (Cond.arrayOver (FieldType.object "java/lang/Object")), (Cond.declares ({ cls := "TrustChain$Reader", name := "flag", desc := "(I)V" } : MethodName)), (Cond.declares ({ cls := "TrustChain$Reader", name := "issuerKey", desc := "(I)LTrustChain$Slice;" } : MethodName)), (Cond.declares ({ cls := "TrustChain$Reader", name := "readSignature", desc := "(LTrustChain$Paper;I)V" } : MethodName)), (Cond.castable "java/lang/IllegalArgumentException" "java/lang/IllegalArgumentException"), (Cond.declares ({ cls := "TrustChain$Paper", name := "isAt", desc := "(J)Z" } : MethodName)), (Cond.arrayOver (FieldType.object "TrustChainModel$Text")), (Cond.methodLinkNest "TrustChainModel" (26 : Nat) ({ cls := "TrustChainModel$Text", name := "<init>", desc := "()V" } : MethodName) "TrustChainModel"), (Cond.methodLinkNest "TrustChainModel$Text" (79 : Nat) ({ cls := "TrustChainModel", name := "in", desc := "(III)Z" } : MethodName) "TrustChainModel"), (Cond.methodLinkNest "TrustChainModel$Text" (93 : Nat) ({ cls := "TrustChainModel", name := "hexOf", desc := "(I)I" } : MethodName) "TrustChainModel"), (Cond.methodLinkNest "TrustChainModel$Text" (115 : Nat) ({ cls := "TrustChainModel", name := "isIn", desc := "(ILjava/lang/String;)Z" } : MethodName) "TrustChainModel"), (Cond.castable "TrustChain$Slice" "TrustChain$Slice"), (Cond.castable "TrustChain$Certificate" "TrustChain$Certificate"), (Cond.castable "TrustChain$Certificate" "TrustChain$Paper"), (Cond.castable "TrustChain$Paper" "TrustChain$Paper"), (Cond.declares ({ cls := "java/lang/Object", name := "getClass", desc := "()Ljava/lang/Class;" } : MethodName)), (Cond.castable "TrustChain" "java/lang/Object"), (Cond.castable "TrustChain$Sha256" "java/lang/Object"), (Cond.castable "TrustChain$Rsa" "java/lang/Object"), (Cond.castable "TrustChain$Search" "java/lang/Object"), (Cond.castable "TrustChain$PathCheck" "java/lang/Object"), (Cond.castable "TrustChainModel" "java/lang/Object"), (Cond.castable "TrustChainModel$Text" "java/lang/Object"), (Cond.castable "TrustChain$CertificateReader" "java/lang/Object"), (Cond.castable "TrustChain$Certificate" "java/lang/Object"), (Cond.castable "TrustChain$Slice" "java/lang/Object"), (Cond.castable "TrustChain$NameSet" "java/lang/Object"), (Cond.castable "TrustChain$ListReader" "java/lang/Object"), (Cond.castable "TrustChain$Paper" "java/lang/Object"), (Cond.castable "java/lang/String" "java/lang/Object")]
theorem qn1_70 : (Cond.methodLinkNest "TrustChain" (28 : Nat) ({ cls := "TrustChain$Sha256", name := "<init>", desc := "()V" } : MethodName) "TrustChain") ∈ nwords := List.mem_of_getElem? (i := 0) rfl
theorem qn1_113 : (Cond.methodLinkNest "TrustChain" (42 : Nat) ({ cls := "TrustChain$Search", name := "<init>", desc := "()V" } : MethodName) "TrustChain") ∈ nwords := List.mem_of_getElem? (i := 1) rfl
theorem qn1_138 : (Cond.methodLinkNest "TrustChain" (49 : Nat) ({ cls := "TrustChain$PathCheck", name := "<init>", desc := "()V" } : MethodName) "TrustChain") ∈ nwords := List.mem_of_getElem? (i := 2) rfl
theorem qn1_213 : (Cond.castable "java/lang/IndexOutOfBoundsException" "java/lang/IndexOutOfBoundsException") ∈ nwords := List.mem_of_getElem? (i := 3) rfl
theorem qn2_99 : (Cond.fieldLinkNest "TrustChain$CertificateReader" (147 : Nat) "TrustChain$Slice" "from" "I" "TrustChain") ∈ nwords := List.mem_of_getElem? (i := 11) rfl
theorem qn2_101 : (Cond.fieldLinkNest "TrustChain$CertificateReader" (150 : Nat) "TrustChain$Slice" "to" "I" "TrustChain") ∈ nwords := List.mem_of_getElem? (i := 12) rfl
theorem qn2_120 : (Cond.methodLinkNest "TrustChain$Certificate" (11 : Nat) ({ cls := "TrustChain$NameSet", name := "<init>", desc := "()V" } : MethodName) "TrustChain") ∈ nwords := List.mem_of_getElem? (i := 13) rfl
theorem qn2_127 : (Cond.fieldLinkNest "TrustChain$Certificate" (103 : Nat) "TrustChain$NameSet" "dns" "Ljava/util/ArrayList;" "TrustChain") ∈ nwords := List.mem_of_getElem? (i := 14) rfl
theorem qn2_128 : (Cond.fieldLinkNest "TrustChain$PathCheck" (120 : Nat) "TrustChain$NameSet" "dns" "Ljava/util/ArrayList;" "TrustChain") ∈ nwords := List.mem_of_getElem? (i := 15) rfl
theorem qn2_129 : (Cond.fieldLinkNest "TrustChain$CertificateReader" (238 : Nat) "TrustChain$NameSet" "dns" "Ljava/util/ArrayList;" "TrustChain") ∈ nwords := List.mem_of_getElem? (i := 16) rfl
theorem qn2_131 : (Cond.fieldLinkNest "TrustChain$Certificate" (90 : Nat) "TrustChain$NameSet" "directories" "Ljava/util/ArrayList;" "TrustChain") ∈ nwords := List.mem_of_getElem? (i := 17) rfl
theorem qn2_132 : (Cond.fieldLinkNest "TrustChain$PathCheck" (114 : Nat) "TrustChain$NameSet" "directories" "Ljava/util/ArrayList;" "TrustChain") ∈ nwords := List.mem_of_getElem? (i := 18) rfl
theorem qn2_133 : (Cond.fieldLinkNest "TrustChain$CertificateReader" (223 : Nat) "TrustChain$NameSet" "directories" "Ljava/util/ArrayList;" "TrustChain") ∈ nwords := List.mem_of_getElem? (i := 19) rfl
theorem qn4_76 : (Cond.declares ({ cls := "TrustChain$Reader", name := "readKnown", desc := "(II)Z" } : MethodName)) ∈ nwords := List.mem_of_getElem? (i := 32) rfl
theorem qn4_160 : (Cond.arrayOver (FieldType.object "java/lang/Object")) ∈ nwords := List.mem_of_getElem? (i := 37) rfl
theorem qn4_235 : (Cond.castable "java/lang/IllegalArgumentException" "java/lang/IllegalArgumentException") ∈ nwords := List.mem_of_getElem? (i := 41) rfl
theorem qn6_172 : (Cond.arrayOver (FieldType.object "TrustChainModel$Text")) ∈ nwords := List.mem_of_getElem? (i := 43) rfl
theorem qn6_174 : (Cond.methodLinkNest "TrustChainModel" (26 : Nat) ({ cls := "TrustChainModel$Text", name := "<init>", desc := "()V" } : MethodName) "TrustChainModel") ∈ nwords := List.mem_of_getElem? (i := 44) rfl
theorem qn8_115 : (Cond.methodLinkNest "TrustChainModel$Text" (79 : Nat) ({ cls := "TrustChainModel", name := "in", desc := "(III)Z" } : MethodName) "TrustChainModel") ∈ nwords := List.mem_of_getElem? (i := 45) rfl
theorem qn8_177 : (Cond.methodLinkNest "TrustChainModel$Text" (93 : Nat) ({ cls := "TrustChainModel", name := "hexOf", desc := "(I)I" } : MethodName) "TrustChainModel") ∈ nwords := List.mem_of_getElem? (i := 46) rfl
theorem qn8_205 : (Cond.methodLinkNest "TrustChainModel$Text" (115 : Nat) ({ cls := "TrustChainModel", name := "isIn", desc := "(ILjava/lang/String;)Z" } : MethodName) "TrustChainModel") ∈ nwords := List.mem_of_getElem? (i := 47) rfl
theorem qn9_222 : (Cond.castable "TrustChain$Slice" "TrustChain$Slice") ∈ nwords := List.mem_of_getElem? (i := 48) rfl
theorem qn9_223 : (Cond.castable "TrustChain$Certificate" "TrustChain$Certificate") ∈ nwords := List.mem_of_getElem? (i := 49) rfl
theorem qn9_224 : (Cond.castable "TrustChain$Certificate" "TrustChain$Paper") ∈ nwords := List.mem_of_getElem? (i := 50) rfl
theorem qn9_225 : (Cond.castable "TrustChain$Paper" "TrustChain$Paper") ∈ nwords := List.mem_of_getElem? (i := 51) rfl
theorem qn9_228 : (Cond.declares ({ cls := "java/lang/Object", name := "getClass", desc := "()Ljava/lang/Class;" } : MethodName)) ∈ nwords := List.mem_of_getElem? (i := 52) rfl
theorem qn9_237 : (Cond.castable "TrustChain$Certificate" "java/lang/Object") ∈ nwords := List.mem_of_getElem? (i := 61) rfl
theorem qn9_238 : (Cond.castable "TrustChain$Slice" "java/lang/Object") ∈ nwords := List.mem_of_getElem? (i := 62) rfl
theorem qn10_1 : (Cond.castable "TrustChain$Paper" "java/lang/Object") ∈ nwords := List.mem_of_getElem? (i := 65) rfl
theorem nwords_lw : ∀ w ∈ nwords, w ∈ lw_tbl := by
  intro w hw
  obtain ⟨k, hk⟩ := List.getElem?_of_mem hw
  match k, hk with
  | 0, hk => cases hk; exact q1_70
  | 1, hk => cases hk; exact q1_113
  | 2, hk => cases hk; exact q1_138
  | 3, hk => cases hk; exact q1_213
  | 4, hk => cases hk; exact q1_214
  | 5, hk => cases hk; exact q1_215
  | 6, hk => cases hk; exact q1_216
  | 7, hk => cases hk; exact q1_217
  | 8, hk => cases hk; exact q1_218
  | 9, hk => cases hk; exact q1_219
  | 10, hk => cases hk; exact q2_72
  | 11, hk => cases hk; exact q2_99
  | 12, hk => cases hk; exact q2_101
  | 13, hk => cases hk; exact q2_120
  | 14, hk => cases hk; exact q2_127
  | 15, hk => cases hk; exact q2_128
  | 16, hk => cases hk; exact q2_129
  | 17, hk => cases hk; exact q2_131
  | 18, hk => cases hk; exact q2_132
  | 19, hk => cases hk; exact q2_133
  | 20, hk => cases hk; exact q3_110
  | 21, hk => cases hk; exact q3_126
  | 22, hk => cases hk; exact q3_155
  | 23, hk => cases hk; exact q3_161
  | 24, hk => cases hk; exact q3_167
  | 25, hk => cases hk; exact q3_177
  | 26, hk => cases hk; exact q3_186
  | 27, hk => cases hk; exact q3_235
  | 28, hk => cases hk; exact q4_24
  | 29, hk => cases hk; exact q4_40
  | 30, hk => cases hk; exact q4_54
  | 31, hk => cases hk; exact q4_58
  | 32, hk => cases hk; exact q4_76
  | 33, hk => cases hk; exact q4_83
  | 34, hk => cases hk; exact q4_93
  | 35, hk => cases hk; exact q4_97
  | 36, hk => cases hk; exact q4_105
  | 37, hk => cases hk; exact q4_160
  | 38, hk => cases hk; exact q4_173
  | 39, hk => cases hk; exact q4_182
  | 40, hk => cases hk; exact q4_227
  | 41, hk => cases hk; exact q4_235
  | 42, hk => cases hk; exact q6_56
  | 43, hk => cases hk; exact q6_172
  | 44, hk => cases hk; exact q6_174
  | 45, hk => cases hk; exact q8_115
  | 46, hk => cases hk; exact q8_177
  | 47, hk => cases hk; exact q8_205
  | 48, hk => cases hk; exact q9_222
  | 49, hk => cases hk; exact q9_223
  | 50, hk => cases hk; exact q9_224
  | 51, hk => cases hk; exact q9_225
  | 52, hk => cases hk; exact q9_228
  | 53, hk => cases hk; exact q9_229
  | 54, hk => cases hk; exact q9_230
  | 55, hk => cases hk; exact q9_231
  | 56, hk => cases hk; exact q9_232
  | 57, hk => cases hk; exact q9_233
  | 58, hk => cases hk; exact q9_234
  | 59, hk => cases hk; exact q9_235
  | 60, hk => cases hk; exact q9_236
  | 61, hk => cases hk; exact q9_237
  | 62, hk => cases hk; exact q9_238
  | 63, hk => cases hk; exact q9_239
  | 64, hk => cases hk; exact q10_0
  | 65, hk => cases hk; exact q10_1
  | 66, hk => cases hk; exact q10_2
  | k + 67, hk => simp [nwords] at hk
