section
-- the skeleton's PART A (a starting text of the kit), then the words by their places, by my own program
-- ===== PART A: goes FIRST, ahead of the names: the tables' words, and 'selects' of the private methods out of them =====
/-- a private method of a class that the tables say can be made, by its rows of tables_1 -/
def lw_okq (q : MethodName × Nat) : Prop := (q.1.cls ≠ "java/lang/invoke/MethodHandle" ∧ q.1.cls ≠ "java/lang/invoke/VarHandle") ∧ Cond.instantiable q.1.cls q.2 ∈ tables_1 ∧ Cond.privateMethod q.1 ∈ tables_1 ∧ Cond.instanceMethod q.1 ∈ tables_1
theorem lw_p0 : lw_okq (⟨"java/lang/Throwable", "fillInStackTrace", "(I)Ljava/lang/Throwable;"⟩, 6) := ⟨⟨by decide +kernel, by decide +kernel⟩, List.mem_of_getElem? (i := 250) (by decide +kernel), List.mem_of_getElem? (i := 248) (by decide +kernel), List.mem_of_getElem? (i := 249) (by decide +kernel)⟩
theorem lw_p1 : lw_okq (⟨"TrustChain", "takeWord", "(I)V"⟩, 14) := ⟨⟨by decide +kernel, by decide +kernel⟩, List.mem_of_getElem? (i := 35) (by decide +kernel), List.mem_of_getElem? (i := 279) (by decide +kernel), List.mem_of_getElem? (i := 280) (by decide +kernel)⟩
theorem lw_p2 : lw_okq (⟨"TrustChain", "isFed", "(I)Z"⟩, 14) := ⟨⟨by decide +kernel, by decide +kernel⟩, List.mem_of_getElem? (i := 35) (by decide +kernel), List.mem_of_getElem? (i := 291) (by decide +kernel), List.mem_of_getElem? (i := 292) (by decide +kernel)⟩
theorem lw_p3 : lw_okq (⟨"TrustChain", "takeText", "(I)[B"⟩, 14) := ⟨⟨by decide +kernel, by decide +kernel⟩, List.mem_of_getElem? (i := 35) (by decide +kernel), List.mem_of_getElem? (i := 302) (by decide +kernel), List.mem_of_getElem? (i := 303) (by decide +kernel)⟩
theorem lw_p4 : lw_okq (⟨"TrustChain$CertificateReader", "readHead", "(I)V"⟩, 10) := ⟨⟨by decide +kernel, by decide +kernel⟩, List.mem_of_getElem? (i := 300) (by decide +kernel), List.mem_of_getElem? (i := 609) (by decide +kernel), List.mem_of_getElem? (i := 610) (by decide +kernel)⟩
theorem lw_p5 : lw_okq (⟨"TrustChain$CertificateReader", "readKey", "(I)V"⟩, 10) := ⟨⟨by decide +kernel, by decide +kernel⟩, List.mem_of_getElem? (i := 300) (by decide +kernel), List.mem_of_getElem? (i := 846) (by decide +kernel), List.mem_of_getElem? (i := 847) (by decide +kernel)⟩
theorem lw_p6 : lw_okq (⟨"TrustChain$CertificateReader", "readModulus", "(I)V"⟩, 10) := ⟨⟨by decide +kernel, by decide +kernel⟩, List.mem_of_getElem? (i := 300) (by decide +kernel), List.mem_of_getElem? (i := 856) (by decide +kernel), List.mem_of_getElem? (i := 857) (by decide +kernel)⟩
theorem lw_p7 : lw_okq (⟨"TrustChain$CertificateReader", "readUsage", "(I)V"⟩, 10) := ⟨⟨by decide +kernel, by decide +kernel⟩, List.mem_of_getElem? (i := 300) (by decide +kernel), List.mem_of_getElem? (i := 901) (by decide +kernel), List.mem_of_getElem? (i := 902) (by decide +kernel)⟩
theorem lw_p8 : lw_okq (⟨"TrustChain$CertificateReader", "readNames", "(I)V"⟩, 10) := ⟨⟨by decide +kernel, by decide +kernel⟩, List.mem_of_getElem? (i := 300) (by decide +kernel), List.mem_of_getElem? (i := 913) (by decide +kernel), List.mem_of_getElem? (i := 914) (by decide +kernel)⟩
theorem lw_p9 : lw_okq (⟨"java/util/ArrayList", "add", "(Ljava/lang/Object;[Ljava/lang/Object;I)V"⟩, 3) := ⟨⟨by decide +kernel, by decide +kernel⟩, List.mem_of_getElem? (i := 43) (by decide +kernel), List.mem_of_getElem? (i := 925) (by decide +kernel), List.mem_of_getElem? (i := 926) (by decide +kernel)⟩
theorem lw_p10 : lw_okq (⟨"java/util/ArrayList", "grow", "()[Ljava/lang/Object;"⟩, 3) := ⟨⟨by decide +kernel, by decide +kernel⟩, List.mem_of_getElem? (i := 43) (by decide +kernel), List.mem_of_getElem? (i := 929) (by decide +kernel), List.mem_of_getElem? (i := 930) (by decide +kernel)⟩
theorem lw_p11 : lw_okq (⟨"java/util/ArrayList", "grow", "(I)[Ljava/lang/Object;"⟩, 3) := ⟨⟨by decide +kernel, by decide +kernel⟩, List.mem_of_getElem? (i := 43) (by decide +kernel), List.mem_of_getElem? (i := 933) (by decide +kernel), List.mem_of_getElem? (i := 934) (by decide +kernel)⟩
theorem lw_p12 : lw_okq (⟨"TrustChain$CertificateReader", "readBasic", "(I)V"⟩, 10) := ⟨⟨by decide +kernel, by decide +kernel⟩, List.mem_of_getElem? (i := 300) (by decide +kernel), List.mem_of_getElem? (i := 979) (by decide +kernel), List.mem_of_getElem? (i := 980) (by decide +kernel)⟩
theorem lw_p13 : lw_okq (⟨"TrustChain$CertificateReader", "readTrees", "(ILTrustChain$NameSet;I)V"⟩, 10) := ⟨⟨by decide +kernel, by decide +kernel⟩, List.mem_of_getElem? (i := 300) (by decide +kernel), List.mem_of_getElem? (i := 988) (by decide +kernel), List.mem_of_getElem? (i := 989) (by decide +kernel)⟩
theorem lw_p14 : lw_okq (⟨"TrustChain$Sha256", "fillSchedule", "(LTrustChain$Slice;II)V"⟩, 1) := ⟨⟨by decide +kernel, by decide +kernel⟩, List.mem_of_getElem? (i := 70) (by decide +kernel), List.mem_of_getElem? (i := 1069) (by decide +kernel), List.mem_of_getElem? (i := 1070) (by decide +kernel)⟩
theorem lw_p15 : lw_okq (⟨"TrustChain$Sha256", "mix", "([I)V"⟩, 1) := ⟨⟨by decide +kernel, by decide +kernel⟩, List.mem_of_getElem? (i := 70) (by decide +kernel), List.mem_of_getElem? (i := 1080) (by decide +kernel), List.mem_of_getElem? (i := 1081) (by decide +kernel)⟩
def lw_privs_1 : List (MethodName × Nat) := [(⟨"java/lang/Throwable", "fillInStackTrace", "(I)Ljava/lang/Throwable;"⟩, 6), (⟨"TrustChain", "takeWord", "(I)V"⟩, 14), (⟨"TrustChain", "isFed", "(I)Z"⟩, 14), (⟨"TrustChain", "takeText", "(I)[B"⟩, 14), (⟨"TrustChain$CertificateReader", "readHead", "(I)V"⟩, 10), (⟨"TrustChain$CertificateReader", "readKey", "(I)V"⟩, 10), (⟨"TrustChain$CertificateReader", "readModulus", "(I)V"⟩, 10), (⟨"TrustChain$CertificateReader", "readUsage", "(I)V"⟩, 10), (⟨"TrustChain$CertificateReader", "readNames", "(I)V"⟩, 10), (⟨"java/util/ArrayList", "add", "(Ljava/lang/Object;[Ljava/lang/Object;I)V"⟩, 3), (⟨"java/util/ArrayList", "grow", "()[Ljava/lang/Object;"⟩, 3), (⟨"java/util/ArrayList", "grow", "(I)[Ljava/lang/Object;"⟩, 3), (⟨"TrustChain$CertificateReader", "readBasic", "(I)V"⟩, 10), (⟨"TrustChain$CertificateReader", "readTrees", "(ILTrustChain$NameSet;I)V"⟩, 10), (⟨"TrustChain$Sha256", "fillSchedule", "(LTrustChain$Slice;II)V"⟩, 1), (⟨"TrustChain$Sha256", "mix", "([I)V"⟩, 1)]
theorem lw_r1 : ∀ q ∈ lw_privs_1, lw_okq q := List.forall_mem_cons.mpr ⟨lw_p0, List.forall_mem_cons.mpr ⟨lw_p1, List.forall_mem_cons.mpr ⟨lw_p2, List.forall_mem_cons.mpr ⟨lw_p3, List.forall_mem_cons.mpr ⟨lw_p4, List.forall_mem_cons.mpr ⟨lw_p5, List.forall_mem_cons.mpr ⟨lw_p6, List.forall_mem_cons.mpr ⟨lw_p7, List.forall_mem_cons.mpr ⟨lw_p8, List.forall_mem_cons.mpr ⟨lw_p9, List.forall_mem_cons.mpr ⟨lw_p10, List.forall_mem_cons.mpr ⟨lw_p11, List.forall_mem_cons.mpr ⟨lw_p12, List.forall_mem_cons.mpr ⟨lw_p13, List.forall_mem_cons.mpr ⟨lw_p14, List.forall_mem_cons.mpr ⟨lw_p15, fun _ h => absurd h List.not_mem_nil⟩⟩⟩⟩⟩⟩⟩⟩⟩⟩⟩⟩⟩⟩⟩⟩
theorem lw_p16 : lw_okq (⟨"TrustChain", "linkIssuers", "(LTrustChain$Certificate;)V"⟩, 14) := ⟨⟨by decide +kernel, by decide +kernel⟩, List.mem_of_getElem? (i := 35) (by decide +kernel), List.mem_of_getElem? (i := 1087) (by decide +kernel), List.mem_of_getElem? (i := 1088) (by decide +kernel)⟩
theorem lw_p17 : lw_okq (⟨"TrustChain$ListReader", "readHead", "(I)V"⟩, 11) := ⟨⟨by decide +kernel, by decide +kernel⟩, List.mem_of_getElem? (i := 1106) (by decide +kernel), List.mem_of_getElem? (i := 1149) (by decide +kernel), List.mem_of_getElem? (i := 1150) (by decide +kernel)⟩
theorem lw_p18 : lw_okq (⟨"TrustChain", "isStored", "(I)Z"⟩, 14) := ⟨⟨by decide +kernel, by decide +kernel⟩, List.mem_of_getElem? (i := 35) (by decide +kernel), List.mem_of_getElem? (i := 1190) (by decide +kernel), List.mem_of_getElem? (i := 1191) (by decide +kernel)⟩
theorem lw_p19 : lw_okq (⟨"TrustChain", "isListed", "(I)Z"⟩, 14) := ⟨⟨by decide +kernel, by decide +kernel⟩, List.mem_of_getElem? (i := 35) (by decide +kernel), List.mem_of_getElem? (i := 1215) (by decide +kernel), List.mem_of_getElem? (i := 1216) (by decide +kernel)⟩
theorem lw_p20 : lw_okq (⟨"TrustChain$Rsa", "verifies", "(LTrustChain$Paper;LTrustChain$Certificate;)Z"⟩, 8) := ⟨⟨by decide +kernel, by decide +kernel⟩, List.mem_of_getElem? (i := 81) (by decide +kernel), List.mem_of_getElem? (i := 1233) (by decide +kernel), List.mem_of_getElem? (i := 1234) (by decide +kernel)⟩
theorem lw_p21 : lw_okq (⟨"TrustChain$Rsa", "load", "(LTrustChain$Slice;[J)V"⟩, 8) := ⟨⟨by decide +kernel, by decide +kernel⟩, List.mem_of_getElem? (i := 81) (by decide +kernel), List.mem_of_getElem? (i := 1238) (by decide +kernel), List.mem_of_getElem? (i := 1239) (by decide +kernel)⟩
theorem lw_p22 : lw_okq (⟨"TrustChain$Rsa", "isBelowModulus", "([J)Z"⟩, 8) := ⟨⟨by decide +kernel, by decide +kernel⟩, List.mem_of_getElem? (i := 81) (by decide +kernel), List.mem_of_getElem? (i := 1246) (by decide +kernel), List.mem_of_getElem? (i := 1247) (by decide +kernel)⟩
theorem lw_p23 : lw_okq (⟨"TrustChain$Rsa", "prepare", "(I)V"⟩, 8) := ⟨⟨by decide +kernel, by decide +kernel⟩, List.mem_of_getElem? (i := 81) (by decide +kernel), List.mem_of_getElem? (i := 1250) (by decide +kernel), List.mem_of_getElem? (i := 1251) (by decide +kernel)⟩
theorem lw_p24 : lw_okq (⟨"TrustChain$Rsa", "settle", "([J)V"⟩, 8) := ⟨⟨by decide +kernel, by decide +kernel⟩, List.mem_of_getElem? (i := 81) (by decide +kernel), List.mem_of_getElem? (i := 1258) (by decide +kernel), List.mem_of_getElem? (i := 1259) (by decide +kernel)⟩
theorem lw_p25 : lw_okq (⟨"TrustChain$Rsa", "multiply", "([J[J[J)V"⟩, 8) := ⟨⟨by decide +kernel, by decide +kernel⟩, List.mem_of_getElem? (i := 81) (by decide +kernel), List.mem_of_getElem? (i := 1262) (by decide +kernel), List.mem_of_getElem? (i := 1263) (by decide +kernel)⟩
theorem lw_p26 : lw_okq (⟨"TrustChain$Rsa", "hasForm", "([II)Z"⟩, 8) := ⟨⟨by decide +kernel, by decide +kernel⟩, List.mem_of_getElem? (i := 81) (by decide +kernel), List.mem_of_getElem? (i := 1267) (by decide +kernel), List.mem_of_getElem? (i := 1268) (by decide +kernel)⟩
theorem lw_p27 : lw_okq (⟨"TrustChain$Search", "put", "(LTrustChain$Certificate;)V"⟩, 5) := ⟨⟨by decide +kernel, by decide +kernel⟩, List.mem_of_getElem? (i := 113) (by decide +kernel), List.mem_of_getElem? (i := 1302) (by decide +kernel), List.mem_of_getElem? (i := 1303) (by decide +kernel)⟩
theorem lw_p28 : lw_okq (⟨"TrustChain$Search", "nextCandidate", "(I)I"⟩, 5) := ⟨⟨by decide +kernel, by decide +kernel⟩, List.mem_of_getElem? (i := 113) (by decide +kernel), List.mem_of_getElem? (i := 1316) (by decide +kernel), List.mem_of_getElem? (i := 1317) (by decide +kernel)⟩
theorem lw_p29 : lw_okq (⟨"TrustChain$Search", "takeOff", "()V"⟩, 5) := ⟨⟨by decide +kernel, by decide +kernel⟩, List.mem_of_getElem? (i := 113) (by decide +kernel), List.mem_of_getElem? (i := 1322) (by decide +kernel), List.mem_of_getElem? (i := 1323) (by decide +kernel)⟩
theorem lw_p30 : lw_okq (⟨"java/util/ArrayList", "fastRemove", "([Ljava/lang/Object;I)V"⟩, 3) := ⟨⟨by decide +kernel, by decide +kernel⟩, List.mem_of_getElem? (i := 43) (by decide +kernel), List.mem_of_getElem? (i := 1330) (by decide +kernel), List.mem_of_getElem? (i := 1331) (by decide +kernel)⟩
theorem lw_p31 : lw_okq (⟨"TrustChain$PathCheck", "faultAt", "(Ljava/util/ArrayList;ILjava/util/ArrayList;LTrustChain$Rsa;)I"⟩, 4) := ⟨⟨by decide +kernel, by decide +kernel⟩, List.mem_of_getElem? (i := 138) (by decide +kernel), List.mem_of_getElem? (i := 1340) (by decide +kernel), List.mem_of_getElem? (i := 1341) (by decide +kernel)⟩
def lw_privs_2 : List (MethodName × Nat) := [(⟨"TrustChain", "linkIssuers", "(LTrustChain$Certificate;)V"⟩, 14), (⟨"TrustChain$ListReader", "readHead", "(I)V"⟩, 11), (⟨"TrustChain", "isStored", "(I)Z"⟩, 14), (⟨"TrustChain", "isListed", "(I)Z"⟩, 14), (⟨"TrustChain$Rsa", "verifies", "(LTrustChain$Paper;LTrustChain$Certificate;)Z"⟩, 8), (⟨"TrustChain$Rsa", "load", "(LTrustChain$Slice;[J)V"⟩, 8), (⟨"TrustChain$Rsa", "isBelowModulus", "([J)Z"⟩, 8), (⟨"TrustChain$Rsa", "prepare", "(I)V"⟩, 8), (⟨"TrustChain$Rsa", "settle", "([J)V"⟩, 8), (⟨"TrustChain$Rsa", "multiply", "([J[J[J)V"⟩, 8), (⟨"TrustChain$Rsa", "hasForm", "([II)Z"⟩, 8), (⟨"TrustChain$Search", "put", "(LTrustChain$Certificate;)V"⟩, 5), (⟨"TrustChain$Search", "nextCandidate", "(I)I"⟩, 5), (⟨"TrustChain$Search", "takeOff", "()V"⟩, 5), (⟨"java/util/ArrayList", "fastRemove", "([Ljava/lang/Object;I)V"⟩, 3), (⟨"TrustChain$PathCheck", "faultAt", "(Ljava/util/ArrayList;ILjava/util/ArrayList;LTrustChain$Rsa;)I"⟩, 4)]
theorem lw_r2 : ∀ q ∈ lw_privs_2, lw_okq q := List.forall_mem_cons.mpr ⟨lw_p16, List.forall_mem_cons.mpr ⟨lw_p17, List.forall_mem_cons.mpr ⟨lw_p18, List.forall_mem_cons.mpr ⟨lw_p19, List.forall_mem_cons.mpr ⟨lw_p20, List.forall_mem_cons.mpr ⟨lw_p21, List.forall_mem_cons.mpr ⟨lw_p22, List.forall_mem_cons.mpr ⟨lw_p23, List.forall_mem_cons.mpr ⟨lw_p24, List.forall_mem_cons.mpr ⟨lw_p25, List.forall_mem_cons.mpr ⟨lw_p26, List.forall_mem_cons.mpr ⟨lw_p27, List.forall_mem_cons.mpr ⟨lw_p28, List.forall_mem_cons.mpr ⟨lw_p29, List.forall_mem_cons.mpr ⟨lw_p30, List.forall_mem_cons.mpr ⟨lw_p31, fun _ h => absurd h List.not_mem_nil⟩⟩⟩⟩⟩⟩⟩⟩⟩⟩⟩⟩⟩⟩⟩⟩
theorem lw_p32 : lw_okq (⟨"TrustChain$PathCheck", "isRevoked", "(LTrustChain$Certificate;LTrustChain$Certificate;Ljava/util/ArrayList;LTrustChain$Rsa;)Z"⟩, 4) := ⟨⟨by decide +kernel, by decide +kernel⟩, List.mem_of_getElem? (i := 138) (by decide +kernel), List.mem_of_getElem? (i := 1353) (by decide +kernel), List.mem_of_getElem? (i := 1354) (by decide +kernel)⟩
theorem lw_p33 : lw_okq (⟨"TrustChain$PathCheck", "faultAsIssuer", "(Ljava/util/ArrayList;I)I"⟩, 4) := ⟨⟨by decide +kernel, by decide +kernel⟩, List.mem_of_getElem? (i := 138) (by decide +kernel), List.mem_of_getElem? (i := 1408) (by decide +kernel), List.mem_of_getElem? (i := 1409) (by decide +kernel)⟩
theorem lw_p34 : lw_okq (⟨"TrustChain", "keepPath", "()V"⟩, 14) := ⟨⟨by decide +kernel, by decide +kernel⟩, List.mem_of_getElem? (i := 35) (by decide +kernel), List.mem_of_getElem? (i := 1415) (by decide +kernel), List.mem_of_getElem? (i := 1416) (by decide +kernel)⟩
theorem lw_p35 : lw_okq (⟨"TrustChain", "takeHost", "(IJ)V"⟩, 14) := ⟨⟨by decide +kernel, by decide +kernel⟩, List.mem_of_getElem? (i := 35) (by decide +kernel), List.mem_of_getElem? (i := 1444) (by decide +kernel), List.mem_of_getElem? (i := 1445) (by decide +kernel)⟩
theorem lw_p36 : lw_okq (⟨"TrustChainModel", "fails", "(ZI)Z"⟩, 32) := ⟨⟨by decide +kernel, by decide +kernel⟩, List.mem_of_getElem? (i := 1458) (by decide +kernel), List.mem_of_getElem? (i := 1852) (by decide +kernel), List.mem_of_getElem? (i := 1853) (by decide +kernel)⟩
theorem lw_p37 : lw_okq (⟨"TrustChainModel", "store", "(IZ)I"⟩, 32) := ⟨⟨by decide +kernel, by decide +kernel⟩, List.mem_of_getElem? (i := 1458) (by decide +kernel), List.mem_of_getElem? (i := 1860) (by decide +kernel), List.mem_of_getElem? (i := 1861) (by decide +kernel)⟩
theorem lw_p38 : lw_okq (⟨"TrustChainModel$Text", "two", "(I)I"⟩, 54) := ⟨⟨by decide +kernel, by decide +kernel⟩, List.mem_of_getElem? (i := 1465) (by decide +kernel), List.mem_of_getElem? (i := 1964) (by decide +kernel), List.mem_of_getElem? (i := 1965) (by decide +kernel)⟩
theorem lw_p39 : lw_okq (⟨"TrustChainModel", "noCertificate", "(II)Z"⟩, 32) := ⟨⟨by decide +kernel, by decide +kernel⟩, List.mem_of_getElem? (i := 1458) (by decide +kernel), List.mem_of_getElem? (i := 2050) (by decide +kernel), List.mem_of_getElem? (i := 2051) (by decide +kernel)⟩
theorem lw_p40 : lw_okq (⟨"TrustChainModel", "digest", "(LTrustChainModel$Text;)V"⟩, 32) := ⟨⟨by decide +kernel, by decide +kernel⟩, List.mem_of_getElem? (i := 1458) (by decide +kernel), List.mem_of_getElem? (i := 2067) (by decide +kernel), List.mem_of_getElem? (i := 2068) (by decide +kernel)⟩
theorem lw_p41 : lw_okq (⟨"TrustChainModel", "compress", "(I)V"⟩, 32) := ⟨⟨by decide +kernel, by decide +kernel⟩, List.mem_of_getElem? (i := 1458) (by decide +kernel), List.mem_of_getElem? (i := 2071) (by decide +kernel), List.mem_of_getElem? (i := 2072) (by decide +kernel)⟩
theorem lw_p42 : lw_okq (⟨"TrustChainModel", "isSigned", "(LTrustChainModel$Text;LTrustChainModel$Text;)Z"⟩, 32) := ⟨⟨by decide +kernel, by decide +kernel⟩, List.mem_of_getElem? (i := 1458) (by decide +kernel), List.mem_of_getElem? (i := 2082) (by decide +kernel), List.mem_of_getElem? (i := 2083) (by decide +kernel)⟩
theorem lw_p43 : lw_okq (⟨"TrustChainModel", "reduced", "([II[III)I"⟩, 32) := ⟨⟨by decide +kernel, by decide +kernel⟩, List.mem_of_getElem? (i := 1458) (by decide +kernel), List.mem_of_getElem? (i := 2099) (by decide +kernel), List.mem_of_getElem? (i := 2100) (by decide +kernel)⟩
theorem lw_p44 : lw_okq (⟨"TrustChainModel", "divided", "([II[II[I)I"⟩, 32) := ⟨⟨by decide +kernel, by decide +kernel⟩, List.mem_of_getElem? (i := 1458) (by decide +kernel), List.mem_of_getElem? (i := 2107) (by decide +kernel), List.mem_of_getElem? (i := 2108) (by decide +kernel)⟩
theorem lw_p45 : lw_okq (⟨"TrustChainModel", "goOn", "()Z"⟩, 32) := ⟨⟨by decide +kernel, by decide +kernel⟩, List.mem_of_getElem? (i := 1458) (by decide +kernel), List.mem_of_getElem? (i := 2119) (by decide +kernel), List.mem_of_getElem? (i := 2120) (by decide +kernel)⟩
theorem lw_p46 : lw_okq (⟨"TrustChainModel", "judged", "()Z"⟩, 32) := ⟨⟨by decide +kernel, by decide +kernel⟩, List.mem_of_getElem? (i := 1458) (by decide +kernel), List.mem_of_getElem? (i := 2123) (by decide +kernel), List.mem_of_getElem? (i := 2124) (by decide +kernel)⟩
theorem lw_p47 : lw_okq (⟨"TrustChainModel", "faultOf", "(I)I"⟩, 32) := ⟨⟨by decide +kernel, by decide +kernel⟩, List.mem_of_getElem? (i := 1458) (by decide +kernel), List.mem_of_getElem? (i := 2127) (by decide +kernel), List.mem_of_getElem? (i := 2128) (by decide +kernel)⟩
def lw_privs_3 : List (MethodName × Nat) := [(⟨"TrustChain$PathCheck", "isRevoked", "(LTrustChain$Certificate;LTrustChain$Certificate;Ljava/util/ArrayList;LTrustChain$Rsa;)Z"⟩, 4), (⟨"TrustChain$PathCheck", "faultAsIssuer", "(Ljava/util/ArrayList;I)I"⟩, 4), (⟨"TrustChain", "keepPath", "()V"⟩, 14), (⟨"TrustChain", "takeHost", "(IJ)V"⟩, 14), (⟨"TrustChainModel", "fails", "(ZI)Z"⟩, 32), (⟨"TrustChainModel", "store", "(IZ)I"⟩, 32), (⟨"TrustChainModel$Text", "two", "(I)I"⟩, 54), (⟨"TrustChainModel", "noCertificate", "(II)Z"⟩, 32), (⟨"TrustChainModel", "digest", "(LTrustChainModel$Text;)V"⟩, 32), (⟨"TrustChainModel", "compress", "(I)V"⟩, 32), (⟨"TrustChainModel", "isSigned", "(LTrustChainModel$Text;LTrustChainModel$Text;)Z"⟩, 32), (⟨"TrustChainModel", "reduced", "([II[III)I"⟩, 32), (⟨"TrustChainModel", "divided", "([II[II[I)I"⟩, 32), (⟨"TrustChainModel", "goOn", "()Z"⟩, 32), (⟨"TrustChainModel", "judged", "()Z"⟩, 32), (⟨"TrustChainModel", "faultOf", "(I)I"⟩, 32)]
theorem lw_r3 : ∀ q ∈ lw_privs_3, lw_okq q := List.forall_mem_cons.mpr ⟨lw_p32, List.forall_mem_cons.mpr ⟨lw_p33, List.forall_mem_cons.mpr ⟨lw_p34, List.forall_mem_cons.mpr ⟨lw_p35, List.forall_mem_cons.mpr ⟨lw_p36, List.forall_mem_cons.mpr ⟨lw_p37, List.forall_mem_cons.mpr ⟨lw_p38, List.forall_mem_cons.mpr ⟨lw_p39, List.forall_mem_cons.mpr ⟨lw_p40, List.forall_mem_cons.mpr ⟨lw_p41, List.forall_mem_cons.mpr ⟨lw_p42, List.forall_mem_cons.mpr ⟨lw_p43, List.forall_mem_cons.mpr ⟨lw_p44, List.forall_mem_cons.mpr ⟨lw_p45, List.forall_mem_cons.mpr ⟨lw_p46, List.forall_mem_cons.mpr ⟨lw_p47, fun _ h => absurd h List.not_mem_nil⟩⟩⟩⟩⟩⟩⟩⟩⟩⟩⟩⟩⟩⟩⟩⟩
theorem lw_p48 : lw_okq (⟨"TrustChainModel", "namesMayBe", "(LTrustChainModel$Text;I)Z"⟩, 32) := ⟨⟨by decide +kernel, by decide +kernel⟩, List.mem_of_getElem? (i := 1458) (by decide +kernel), List.mem_of_getElem? (i := 2136) (by decide +kernel), List.mem_of_getElem? (i := 2137) (by decide +kernel)⟩
theorem lw_p49 : lw_okq (⟨"TrustChainModel", "mayBe", "(LTrustChainModel$Text;LTrustChainModel$Text;III)Z"⟩, 32) := ⟨⟨by decide +kernel, by decide +kernel⟩, List.mem_of_getElem? (i := 1458) (by decide +kernel), List.mem_of_getElem? (i := 2140) (by decide +kernel), List.mem_of_getElem? (i := 2141) (by decide +kernel)⟩
theorem lw_p50 : lw_okq (⟨"TrustChainModel", "mayFollow", "(LTrustChainModel$Text;I)Z"⟩, 32) := ⟨⟨by decide +kernel, by decide +kernel⟩, List.mem_of_getElem? (i := 1458) (by decide +kernel), List.mem_of_getElem? (i := 2156) (by decide +kernel), List.mem_of_getElem? (i := 2157) (by decide +kernel)⟩
theorem lw_p51 : lw_okq (⟨"TrustChainModel", "alike", "(LTrustChainModel$Text;IIII)Z"⟩, 32) := ⟨⟨by decide +kernel, by decide +kernel⟩, List.mem_of_getElem? (i := 1458) (by decide +kernel), List.mem_of_getElem? (i := 2172) (by decide +kernel), List.mem_of_getElem? (i := 2173) (by decide +kernel)⟩
def lw_privs_4 : List (MethodName × Nat) := [(⟨"TrustChainModel", "namesMayBe", "(LTrustChainModel$Text;I)Z"⟩, 32), (⟨"TrustChainModel", "mayBe", "(LTrustChainModel$Text;LTrustChainModel$Text;III)Z"⟩, 32), (⟨"TrustChainModel", "mayFollow", "(LTrustChainModel$Text;I)Z"⟩, 32), (⟨"TrustChainModel", "alike", "(LTrustChainModel$Text;IIII)Z"⟩, 32)]
theorem lw_r4 : ∀ q ∈ lw_privs_4, lw_okq q := List.forall_mem_cons.mpr ⟨lw_p48, List.forall_mem_cons.mpr ⟨lw_p49, List.forall_mem_cons.mpr ⟨lw_p50, List.forall_mem_cons.mpr ⟨lw_p51, fun _ h => absurd h List.not_mem_nil⟩⟩⟩⟩
def lw_privs : List (MethodName × Nat) := lw_privs_1 ++ (lw_privs_2 ++ (lw_privs_3 ++ (lw_privs_4)))
def lw_tbl : List Cond := k2_sels lw_privs ++ tables_1
theorem lw_privs_ok : ∀ q ∈ lw_privs, lw_okq q := by
  show ∀ q ∈ lw_privs_1 ++ (lw_privs_2 ++ (lw_privs_3 ++ (lw_privs_4))), lw_okq q
  exact List.forall_mem_append.mpr ⟨lw_r1, List.forall_mem_append.mpr ⟨lw_r2, List.forall_mem_append.mpr ⟨lw_r3, lw_r4⟩⟩⟩
/-- private methods of Reader on the objects of its two subclasses: what is selected (shown out of lw_tbl where the law begins) -/
def xs_privs : List (String × MethodName) := [("TrustChain$CertificateReader", ⟨"TrustChain$Reader", "digits", "(I)I"⟩), ("TrustChain$CertificateReader", ⟨"TrustChain$Reader", "areDigits", "(II)Z"⟩), ("TrustChain$CertificateReader", ⟨"TrustChain$Reader", "isOid", "(II)Z"⟩), ("TrustChain$CertificateReader", ⟨"TrustChain$Reader", "isSimple", "(III)Z"⟩), ("TrustChain$CertificateReader", ⟨"TrustChain$Reader", "isUtf8", "(II)Z"⟩), ("TrustChain$CertificateReader", ⟨"TrustChain$Reader", "isRepeated", "(LTrustChain$Slice;)Z"⟩), ("TrustChain$ListReader", ⟨"TrustChain$Reader", "digits", "(I)I"⟩), ("TrustChain$ListReader", ⟨"TrustChain$Reader", "areDigits", "(II)Z"⟩), ("TrustChain$ListReader", ⟨"TrustChain$Reader", "isOid", "(II)Z"⟩), ("TrustChain$ListReader", ⟨"TrustChain$Reader", "isSimple", "(III)Z"⟩), ("TrustChain$ListReader", ⟨"TrustChain$Reader", "isUtf8", "(II)Z"⟩), ("TrustChain$ListReader", ⟨"TrustChain$Reader", "isRepeated", "(LTrustChain$Slice;)Z"⟩)]
def xs_sels : List Cond := xs_privs.map fun q => Cond.selects q.1 q.2 q.2
def tb : List Cond := (xs_sels ++ lw_tbl).filter goodWord
theorem tb_in {w : Cond} (h : w ∈ lw_tbl) (g : goodWord w = true) : w ∈ tb := List.mem_filter.mpr ⟨List.mem_append_right _ h, g⟩
theorem tb_ix {w : Cond} (h : w ∈ xs_sels) (g : goodWord w = true) : w ∈ tb := List.mem_filter.mpr ⟨List.mem_append_left _ h, g⟩
theorem tb_good {w : Cond} (h : w ∈ tb) : goodWord w = true := (List.mem_filter.mp h).2
theorem tm_1 {w : Cond} (h : w ∈ tables_1_1) : w ∈ lw_tbl := List.mem_append_right _ (show w ∈ tables_1 from List.mem_append_left _ h)
theorem tm_2 {w : Cond} (h : w ∈ tables_1_2) : w ∈ lw_tbl := List.mem_append_right _ (show w ∈ tables_1 from List.mem_append_right _ (List.mem_append_left _ h))
theorem tm_3 {w : Cond} (h : w ∈ tables_1_3) : w ∈ lw_tbl := List.mem_append_right _ (show w ∈ tables_1 from List.mem_append_right _ (List.mem_append_right _ (List.mem_append_left _ h)))
theorem tm_4 {w : Cond} (h : w ∈ tables_1_4) : w ∈ lw_tbl := List.mem_append_right _ (show w ∈ tables_1 from List.mem_append_right _ (List.mem_append_right _ (List.mem_append_right _ (List.mem_append_left _ h))))
theorem tm_5 {w : Cond} (h : w ∈ tables_1_5) : w ∈ lw_tbl := List.mem_append_right _ (show w ∈ tables_1 from List.mem_append_right _ (List.mem_append_right _ (List.mem_append_right _ (List.mem_append_right _ (List.mem_append_left _ h)))))
theorem tm_6 {w : Cond} (h : w ∈ tables_1_6) : w ∈ lw_tbl := List.mem_append_right _ (show w ∈ tables_1 from List.mem_append_right _ (List.mem_append_right _ (List.mem_append_right _ (List.mem_append_right _ (List.mem_append_right _ (List.mem_append_left _ h))))))
theorem tm_7 {w : Cond} (h : w ∈ tables_1_7) : w ∈ lw_tbl := List.mem_append_right _ (show w ∈ tables_1 from List.mem_append_right _ (List.mem_append_right _ (List.mem_append_right _ (List.mem_append_right _ (List.mem_append_right _ (List.mem_append_right _ (List.mem_append_left _ h)))))))
theorem tm_8 {w : Cond} (h : w ∈ tables_1_8) : w ∈ lw_tbl := List.mem_append_right _ (show w ∈ tables_1 from List.mem_append_right _ (List.mem_append_right _ (List.mem_append_right _ (List.mem_append_right _ (List.mem_append_right _ (List.mem_append_right _ (List.mem_append_right _ (List.mem_append_left _ h))))))))
theorem tm_9 {w : Cond} (h : w ∈ tables_1_9) : w ∈ lw_tbl := List.mem_append_right _ (show w ∈ tables_1 from List.mem_append_right _ (List.mem_append_right _ (List.mem_append_right _ (List.mem_append_right _ (List.mem_append_right _ (List.mem_append_right _ (List.mem_append_right _ (List.mem_append_right _ (List.mem_append_left _ h)))))))))
theorem tm_10 {w : Cond} (h : w ∈ tables_1_10) : w ∈ lw_tbl := List.mem_append_right _ (show w ∈ tables_1 from List.mem_append_right _ (List.mem_append_right _ (List.mem_append_right _ (List.mem_append_right _ (List.mem_append_right _ (List.mem_append_right _ (List.mem_append_right _ (List.mem_append_right _ (List.mem_append_right _ (h))))))))))
theorem q1_0 : (Cond.initialized "TrustChainLaw") ∈ tb := tb_in (tm_1 (List.mem_of_getElem? (i := 0) rfl)) rfl
theorem q1_1 : (Cond.initialized "TrustChain") ∈ tb := tb_in (tm_1 (List.mem_of_getElem? (i := 1) rfl)) rfl
theorem q1_2 : (Cond.initialized "java/util/AbstractCollection") ∈ tb := tb_in (tm_1 (List.mem_of_getElem? (i := 2) rfl)) rfl
theorem q1_3 : (Cond.initialized "java/util/AbstractList") ∈ tb := tb_in (tm_1 (List.mem_of_getElem? (i := 3) rfl)) rfl
theorem q1_4 : (Cond.initialized "java/util/ArrayList") ∈ tb := tb_in (tm_1 (List.mem_of_getElem? (i := 4) rfl)) rfl
theorem q1_5 : (Cond.initialized "TrustChain$Sha256") ∈ tb := tb_in (tm_1 (List.mem_of_getElem? (i := 5) rfl)) rfl
theorem q1_6 : (Cond.initialized "TrustChain$Rsa") ∈ tb := tb_in (tm_1 (List.mem_of_getElem? (i := 6) rfl)) rfl
theorem q1_7 : (Cond.initialized "TrustChain$Search") ∈ tb := tb_in (tm_1 (List.mem_of_getElem? (i := 7) rfl)) rfl
theorem q1_8 : (Cond.initialized "TrustChain$PathCheck") ∈ tb := tb_in (tm_1 (List.mem_of_getElem? (i := 8) rfl)) rfl
theorem q1_9 : (Cond.initialized "TrustChainModel") ∈ tb := tb_in (tm_1 (List.mem_of_getElem? (i := 9) rfl)) rfl
theorem q1_10 : (Cond.initialized "TrustChainModel$Text") ∈ tb := tb_in (tm_1 (List.mem_of_getElem? (i := 10) rfl)) rfl
theorem q1_11 : (Cond.initialized "java/lang/Throwable") ∈ tb := tb_in (tm_1 (List.mem_of_getElem? (i := 11) rfl)) rfl
theorem q1_12 : (Cond.initialized "java/lang/Exception") ∈ tb := tb_in (tm_1 (List.mem_of_getElem? (i := 12) rfl)) rfl
theorem q1_13 : (Cond.initialized "java/lang/RuntimeException") ∈ tb := tb_in (tm_1 (List.mem_of_getElem? (i := 13) rfl)) rfl
theorem q1_14 : (Cond.initialized "java/lang/IndexOutOfBoundsException") ∈ tb := tb_in (tm_1 (List.mem_of_getElem? (i := 14) rfl)) rfl
theorem q1_15 : (Cond.initialized "TrustChain$Reader") ∈ tb := tb_in (tm_1 (List.mem_of_getElem? (i := 15) rfl)) rfl
theorem q1_16 : (Cond.initialized "TrustChain$CertificateReader") ∈ tb := tb_in (tm_1 (List.mem_of_getElem? (i := 16) rfl)) rfl
theorem q1_17 : (Cond.initialized "java/util/Arrays") ∈ tb := tb_in (tm_1 (List.mem_of_getElem? (i := 17) rfl)) rfl
theorem q1_18 : (Cond.initialized "java/lang/Math") ∈ tb := tb_in (tm_1 (List.mem_of_getElem? (i := 18) rfl)) rfl
theorem q1_19 : (Cond.initialized "java/lang/System") ∈ tb := tb_in (tm_1 (List.mem_of_getElem? (i := 19) rfl)) rfl
theorem q1_20 : (Cond.initialized "TrustChain$Slice") ∈ tb := tb_in (tm_1 (List.mem_of_getElem? (i := 20) rfl)) rfl
theorem q1_21 : (Cond.initialized "TrustChain$Paper") ∈ tb := tb_in (tm_1 (List.mem_of_getElem? (i := 21) rfl)) rfl
theorem q1_22 : (Cond.initialized "TrustChain$Certificate") ∈ tb := tb_in (tm_1 (List.mem_of_getElem? (i := 22) rfl)) rfl
theorem q1_23 : (Cond.initialized "TrustChain$NameSet") ∈ tb := tb_in (tm_1 (List.mem_of_getElem? (i := 23) rfl)) rfl
theorem q1_24 : (Cond.initialized "java/lang/String") ∈ tb := tb_in (tm_1 (List.mem_of_getElem? (i := 24) rfl)) rfl
theorem q1_25 : (Cond.initialized "java/lang/StringLatin1") ∈ tb := tb_in (tm_1 (List.mem_of_getElem? (i := 25) rfl)) rfl
theorem q1_26 : (Cond.initialized "java/lang/StringUTF16") ∈ tb := tb_in (tm_1 (List.mem_of_getElem? (i := 26) rfl)) rfl
theorem q1_27 : (Cond.initialized "jdk/internal/util/Preconditions") ∈ tb := tb_in (tm_1 (List.mem_of_getElem? (i := 27) rfl)) rfl
theorem q1_28 : (Cond.initialized "java/lang/Character") ∈ tb := tb_in (tm_1 (List.mem_of_getElem? (i := 28) rfl)) rfl
theorem q1_29 : (Cond.initialized "jdk/internal/util/ArraysSupport") ∈ tb := tb_in (tm_1 (List.mem_of_getElem? (i := 29) rfl)) rfl
theorem q1_30 : (Cond.initialized "java/util/Objects") ∈ tb := tb_in (tm_1 (List.mem_of_getElem? (i := 30) rfl)) rfl
theorem q1_31 : (Cond.initialized "java/lang/IllegalArgumentException") ∈ tb := tb_in (tm_1 (List.mem_of_getElem? (i := 31) rfl)) rfl
theorem q1_32 : (Cond.initialized "TrustChain$ListReader") ∈ tb := tb_in (tm_1 (List.mem_of_getElem? (i := 32) rfl)) rfl
theorem q1_33 : (Cond.initialized "java/lang/Integer") ∈ tb := tb_in (tm_1 (List.mem_of_getElem? (i := 33) rfl)) rfl
theorem q1_34 : (Cond.classLink "TrustChainLaw" (8 : Nat) "TrustChain") ∈ tb := tb_in (tm_1 (List.mem_of_getElem? (i := 34) rfl)) rfl
theorem q1_35 : (Cond.instantiable "TrustChain" (14 : Nat)) ∈ tb := tb_in (tm_1 (List.mem_of_getElem? (i := 35) rfl)) rfl
theorem q1_36 : (Cond.methodLink "TrustChainLaw" (58 : Nat) ({ cls := "TrustChain", name := "<init>", desc := "()V" } : MethodName)) ∈ tb := tb_in (tm_1 (List.mem_of_getElem? (i := 36) rfl)) rfl
theorem q1_37 : (Cond.instanceMethod ({ cls := "TrustChain", name := "<init>", desc := "()V" } : MethodName)) ∈ tb := tb_in (tm_1 (List.mem_of_getElem? (i := 37) rfl)) rfl
theorem q1_38 : (Cond.code ({ cls := "TrustChain", name := "<init>", desc := "()V" } : MethodName) prog_1_method_1_code (1 : Nat) none) ∈ tb := tb_in (tm_1 (List.mem_of_getElem? (i := 38) rfl)) rfl
theorem q1_39 : (Cond.methodLink "TrustChain" (1 : Nat) ({ cls := "java/lang/Object", name := "<init>", desc := "()V" } : MethodName)) ∈ tb := tb_in (tm_1 (List.mem_of_getElem? (i := 39) rfl)) rfl
theorem q1_40 : (Cond.instanceMethod ({ cls := "java/lang/Object", name := "<init>", desc := "()V" } : MethodName)) ∈ tb := tb_in (tm_1 (List.mem_of_getElem? (i := 40) rfl)) rfl
theorem q1_41 : (Cond.code ({ cls := "java/lang/Object", name := "<init>", desc := "()V" } : MethodName) object_method_1_code (1 : Nat) none) ∈ tb := tb_in (tm_1 (List.mem_of_getElem? (i := 41) rfl)) rfl
theorem q1_42 : (Cond.classLink "TrustChain" (16 : Nat) "java/util/ArrayList") ∈ tb := tb_in (tm_1 (List.mem_of_getElem? (i := 42) rfl)) rfl
theorem q1_43 : (Cond.instantiable "java/util/ArrayList" (3 : Nat)) ∈ tb := tb_in (tm_1 (List.mem_of_getElem? (i := 43) rfl)) rfl
theorem q1_44 : (Cond.methodLink "TrustChain" (18 : Nat) ({ cls := "java/util/ArrayList", name := "<init>", desc := "()V" } : MethodName)) ∈ tb := tb_in (tm_1 (List.mem_of_getElem? (i := 44) rfl)) rfl
theorem q1_45 : (Cond.instanceMethod ({ cls := "java/util/ArrayList", name := "<init>", desc := "()V" } : MethodName)) ∈ tb := tb_in (tm_1 (List.mem_of_getElem? (i := 45) rfl)) rfl
theorem q1_46 : (Cond.code ({ cls := "java/util/ArrayList", name := "<init>", desc := "()V" } : MethodName) prog_33_method_2_code (1 : Nat) none) ∈ tb := tb_in (tm_1 (List.mem_of_getElem? (i := 46) rfl)) rfl
theorem q1_47 : (Cond.methodLink "java/util/ArrayList" (1 : Nat) ({ cls := "java/util/AbstractList", name := "<init>", desc := "()V" } : MethodName)) ∈ tb := tb_in (tm_1 (List.mem_of_getElem? (i := 47) rfl)) rfl
theorem q1_48 : (Cond.instanceMethod ({ cls := "java/util/AbstractList", name := "<init>", desc := "()V" } : MethodName)) ∈ tb := tb_in (tm_1 (List.mem_of_getElem? (i := 48) rfl)) rfl
theorem q1_49 : (Cond.code ({ cls := "java/util/AbstractList", name := "<init>", desc := "()V" } : MethodName) prog_32_method_1_code (1 : Nat) none) ∈ tb := tb_in (tm_1 (List.mem_of_getElem? (i := 49) rfl)) rfl
theorem q1_50 : (Cond.methodLink "java/util/AbstractList" (1 : Nat) ({ cls := "java/util/AbstractCollection", name := "<init>", desc := "()V" } : MethodName)) ∈ tb := tb_in (tm_1 (List.mem_of_getElem? (i := 50) rfl)) rfl
theorem q1_51 : (Cond.instanceMethod ({ cls := "java/util/AbstractCollection", name := "<init>", desc := "()V" } : MethodName)) ∈ tb := tb_in (tm_1 (List.mem_of_getElem? (i := 51) rfl)) rfl
theorem q1_52 : (Cond.code ({ cls := "java/util/AbstractCollection", name := "<init>", desc := "()V" } : MethodName) prog_31_method_1_code (1 : Nat) none) ∈ tb := tb_in (tm_1 (List.mem_of_getElem? (i := 52) rfl)) rfl
theorem q1_53 : (Cond.methodLink "java/util/AbstractCollection" (1 : Nat) ({ cls := "java/lang/Object", name := "<init>", desc := "()V" } : MethodName)) ∈ tb := tb_in (tm_1 (List.mem_of_getElem? (i := 53) rfl)) rfl
theorem q1_54 : (Cond.fieldLink "java/util/ArrayList" (39 : Nat) "java/util/ArrayList" "DEFAULTCAPACITY_EMPTY_ELEMENTDATA" "[Ljava/lang/Object;") ∈ tb := tb_in (tm_1 (List.mem_of_getElem? (i := 54) rfl)) rfl
theorem q1_55 : (Cond.laysStatic "java/util/ArrayList" "DEFAULTCAPACITY_EMPTY_ELEMENTDATA" "[Ljava/lang/Object;") ∈ lw_tbl := tm_1 (List.mem_of_getElem? (i := 55) rfl)
theorem q1_56 : (Cond.fieldLink "java/util/ArrayList" (9 : Nat) "java/util/ArrayList" "elementData" "[Ljava/lang/Object;") ∈ tb := tb_in (tm_1 (List.mem_of_getElem? (i := 56) rfl)) rfl
theorem q1_57 : (Cond.fieldLink "java/util/ArrayList" (48 : Nat) "java/util/ArrayList" "size" "I") ∈ tb := tb_in (tm_1 (List.mem_of_getElem? (i := 57) rfl)) rfl
theorem q1_58 : (Cond.fieldLink "java/util/AbstractList" (7 : Nat) "java/util/AbstractList" "modCount" "I") ∈ tb := tb_in (tm_1 (List.mem_of_getElem? (i := 58) rfl)) rfl
theorem q1_59 : (Cond.fieldLink "java/util/ArrayList" (63 : Nat) "java/util/ArrayList" "modCount" "I") ∈ tb := tb_in (tm_1 (List.mem_of_getElem? (i := 59) rfl)) rfl
theorem q1_60 : (Cond.sameField "java/util/ArrayList" "java/util/AbstractList" "modCount" "I") ∈ tb := tb_in (tm_1 (List.mem_of_getElem? (i := 60) rfl)) rfl
theorem q1_61 : (Cond.lays "java/util/ArrayList" "java/util/ArrayList" "elementData" "[Ljava/lang/Object;") ∈ tb := tb_in (tm_1 (List.mem_of_getElem? (i := 61) rfl)) rfl
theorem q1_62 : (Cond.soleField "java/util/ArrayList" "elementData") ∈ tb := tb_in (tm_1 (List.mem_of_getElem? (i := 62) rfl)) rfl
theorem q1_63 : (Cond.lays "java/util/ArrayList" "java/util/ArrayList" "size" "I") ∈ tb := tb_in (tm_1 (List.mem_of_getElem? (i := 63) rfl)) rfl
theorem q1_64 : (Cond.soleField "java/util/ArrayList" "size") ∈ tb := tb_in (tm_1 (List.mem_of_getElem? (i := 64) rfl)) rfl
theorem q1_65 : (Cond.lays "java/util/ArrayList" "java/util/AbstractList" "modCount" "I") ∈ tb := tb_in (tm_1 (List.mem_of_getElem? (i := 65) rfl)) rfl
theorem q1_66 : (Cond.soleField "java/util/AbstractList" "modCount") ∈ tb := tb_in (tm_1 (List.mem_of_getElem? (i := 66) rfl)) rfl
theorem q1_67 : (Cond.superclass "java/util/ArrayList" "java/util/AbstractList") ∈ tb := tb_in (tm_1 (List.mem_of_getElem? (i := 67) rfl)) rfl
theorem q1_68 : (Cond.arrayClass FieldType.byte) ∈ tb := tb_in (tm_1 (List.mem_of_getElem? (i := 68) rfl)) rfl
theorem q1_69 : (Cond.classLink "TrustChain" (26 : Nat) "TrustChain$Sha256") ∈ tb := tb_in (tm_1 (List.mem_of_getElem? (i := 69) rfl)) rfl
theorem q1_70 : (Cond.instantiable "TrustChain$Sha256" (1 : Nat)) ∈ tb := tb_in (tm_1 (List.mem_of_getElem? (i := 70) rfl)) rfl
theorem q1_71 : (Cond.methodLinkNest "TrustChain" (28 : Nat) ({ cls := "TrustChain$Sha256", name := "<init>", desc := "()V" } : MethodName) "TrustChain") ∈ lw_tbl := tm_1 (List.mem_of_getElem? (i := 71) rfl)
theorem q1_72 : (Cond.instanceMethod ({ cls := "TrustChain$Sha256", name := "<init>", desc := "()V" } : MethodName)) ∈ tb := tb_in (tm_1 (List.mem_of_getElem? (i := 72) rfl)) rfl
theorem q1_73 : (Cond.code ({ cls := "TrustChain$Sha256", name := "<init>", desc := "()V" } : MethodName) prog_11_method_1_code (1 : Nat) none) ∈ tb := tb_in (tm_1 (List.mem_of_getElem? (i := 73) rfl)) rfl
theorem q1_74 : (Cond.methodLink "TrustChain$Sha256" (3 : Nat) ({ cls := "java/lang/Object", name := "<init>", desc := "()V" } : MethodName)) ∈ tb := tb_in (tm_1 (List.mem_of_getElem? (i := 74) rfl)) rfl
theorem q1_75 : (Cond.fieldLink "TrustChain$Sha256" (11 : Nat) "TrustChain$Sha256" "schedule" "[I") ∈ tb := tb_in (tm_1 (List.mem_of_getElem? (i := 75) rfl)) rfl
theorem q1_76 : (Cond.laysFinal "TrustChain$Sha256" "TrustChain$Sha256" "schedule" "[I") ∈ tb := tb_in (tm_1 (List.mem_of_getElem? (i := 76) rfl)) rfl
theorem q1_77 : (Cond.soleField "TrustChain$Sha256" "schedule") ∈ tb := tb_in (tm_1 (List.mem_of_getElem? (i := 77) rfl)) rfl
theorem q1_78 : (Cond.superclass "TrustChain$Sha256" "java/lang/Object") ∈ tb := tb_in (tm_1 (List.mem_of_getElem? (i := 78) rfl)) rfl
theorem q1_79 : (Cond.arrayClass FieldType.int) ∈ tb := tb_in (tm_1 (List.mem_of_getElem? (i := 79) rfl)) rfl
theorem q1_80 : (Cond.classLink "TrustChain" (33 : Nat) "TrustChain$Rsa") ∈ tb := tb_in (tm_1 (List.mem_of_getElem? (i := 80) rfl)) rfl
theorem q1_81 : (Cond.instantiable "TrustChain$Rsa" (8 : Nat)) ∈ tb := tb_in (tm_1 (List.mem_of_getElem? (i := 81) rfl)) rfl
theorem q1_82 : (Cond.methodLink "TrustChain" (35 : Nat) ({ cls := "TrustChain$Rsa", name := "<init>", desc := "()V" } : MethodName)) ∈ tb := tb_in (tm_1 (List.mem_of_getElem? (i := 82) rfl)) rfl
theorem q1_83 : (Cond.instanceMethod ({ cls := "TrustChain$Rsa", name := "<init>", desc := "()V" } : MethodName)) ∈ tb := tb_in (tm_1 (List.mem_of_getElem? (i := 83) rfl)) rfl
theorem q1_84 : (Cond.code ({ cls := "TrustChain$Rsa", name := "<init>", desc := "()V" } : MethodName) prog_9_method_1_code (1 : Nat) none) ∈ tb := tb_in (tm_1 (List.mem_of_getElem? (i := 84) rfl)) rfl
theorem q1_85 : (Cond.methodLink "TrustChain$Rsa" (3 : Nat) ({ cls := "java/lang/Object", name := "<init>", desc := "()V" } : MethodName)) ∈ tb := tb_in (tm_1 (List.mem_of_getElem? (i := 85) rfl)) rfl
theorem q1_86 : (Cond.fieldLink "TrustChain$Rsa" (11 : Nat) "TrustChain$Rsa" "modulus" "[J") ∈ tb := tb_in (tm_1 (List.mem_of_getElem? (i := 86) rfl)) rfl
theorem q1_87 : (Cond.fieldLink "TrustChain$Rsa" (15 : Nat) "TrustChain$Rsa" "square" "[J") ∈ tb := tb_in (tm_1 (List.mem_of_getElem? (i := 87) rfl)) rfl
theorem q1_88 : (Cond.fieldLink "TrustChain$Rsa" (18 : Nat) "TrustChain$Rsa" "base" "[J") ∈ tb := tb_in (tm_1 (List.mem_of_getElem? (i := 88) rfl)) rfl
theorem q1_89 : (Cond.fieldLink "TrustChain$Rsa" (21 : Nat) "TrustChain$Rsa" "power" "[J") ∈ tb := tb_in (tm_1 (List.mem_of_getElem? (i := 89) rfl)) rfl
theorem q1_90 : (Cond.fieldLink "TrustChain$Rsa" (24 : Nat) "TrustChain$Rsa" "unit" "[J") ∈ tb := tb_in (tm_1 (List.mem_of_getElem? (i := 90) rfl)) rfl
theorem q1_91 : (Cond.fieldLink "TrustChain$Rsa" (27 : Nat) "TrustChain$Rsa" "sum" "[J") ∈ tb := tb_in (tm_1 (List.mem_of_getElem? (i := 91) rfl)) rfl
theorem q1_92 : (Cond.fieldLink "TrustChain$Rsa" (30 : Nat) "TrustChain$Rsa" "limbs" "I") ∈ tb := tb_in (tm_1 (List.mem_of_getElem? (i := 92) rfl)) rfl
theorem q1_93 : (Cond.fieldLink "TrustChain$Rsa" (34 : Nat) "TrustChain$Rsa" "inverse" "J") ∈ tb := tb_in (tm_1 (List.mem_of_getElem? (i := 93) rfl)) rfl
theorem q1_94 : (Cond.laysFinal "TrustChain$Rsa" "TrustChain$Rsa" "modulus" "[J") ∈ tb := tb_in (tm_1 (List.mem_of_getElem? (i := 94) rfl)) rfl
theorem q1_95 : (Cond.soleField "TrustChain$Rsa" "modulus") ∈ tb := tb_in (tm_1 (List.mem_of_getElem? (i := 95) rfl)) rfl
theorem q1_96 : (Cond.laysFinal "TrustChain$Rsa" "TrustChain$Rsa" "square" "[J") ∈ tb := tb_in (tm_1 (List.mem_of_getElem? (i := 96) rfl)) rfl
theorem q1_97 : (Cond.soleField "TrustChain$Rsa" "square") ∈ tb := tb_in (tm_1 (List.mem_of_getElem? (i := 97) rfl)) rfl
theorem q1_98 : (Cond.laysFinal "TrustChain$Rsa" "TrustChain$Rsa" "base" "[J") ∈ tb := tb_in (tm_1 (List.mem_of_getElem? (i := 98) rfl)) rfl
theorem q1_99 : (Cond.soleField "TrustChain$Rsa" "base") ∈ tb := tb_in (tm_1 (List.mem_of_getElem? (i := 99) rfl)) rfl
theorem q1_100 : (Cond.laysFinal "TrustChain$Rsa" "TrustChain$Rsa" "power" "[J") ∈ tb := tb_in (tm_1 (List.mem_of_getElem? (i := 100) rfl)) rfl
theorem q1_101 : (Cond.soleField "TrustChain$Rsa" "power") ∈ tb := tb_in (tm_1 (List.mem_of_getElem? (i := 101) rfl)) rfl
theorem q1_102 : (Cond.laysFinal "TrustChain$Rsa" "TrustChain$Rsa" "unit" "[J") ∈ tb := tb_in (tm_1 (List.mem_of_getElem? (i := 102) rfl)) rfl
theorem q1_103 : (Cond.soleField "TrustChain$Rsa" "unit") ∈ tb := tb_in (tm_1 (List.mem_of_getElem? (i := 103) rfl)) rfl
theorem q1_104 : (Cond.laysFinal "TrustChain$Rsa" "TrustChain$Rsa" "sum" "[J") ∈ tb := tb_in (tm_1 (List.mem_of_getElem? (i := 104) rfl)) rfl
theorem q1_105 : (Cond.soleField "TrustChain$Rsa" "sum") ∈ tb := tb_in (tm_1 (List.mem_of_getElem? (i := 105) rfl)) rfl
theorem q1_106 : (Cond.lays "TrustChain$Rsa" "TrustChain$Rsa" "limbs" "I") ∈ tb := tb_in (tm_1 (List.mem_of_getElem? (i := 106) rfl)) rfl
theorem q1_107 : (Cond.soleField "TrustChain$Rsa" "limbs") ∈ tb := tb_in (tm_1 (List.mem_of_getElem? (i := 107) rfl)) rfl
theorem q1_108 : (Cond.lays "TrustChain$Rsa" "TrustChain$Rsa" "inverse" "J") ∈ tb := tb_in (tm_1 (List.mem_of_getElem? (i := 108) rfl)) rfl
theorem q1_109 : (Cond.soleField "TrustChain$Rsa" "inverse") ∈ tb := tb_in (tm_1 (List.mem_of_getElem? (i := 109) rfl)) rfl
theorem q1_110 : (Cond.superclass "TrustChain$Rsa" "java/lang/Object") ∈ tb := tb_in (tm_1 (List.mem_of_getElem? (i := 110) rfl)) rfl
theorem q1_111 : (Cond.arrayClass FieldType.long) ∈ tb := tb_in (tm_1 (List.mem_of_getElem? (i := 111) rfl)) rfl
theorem q1_112 : (Cond.classLink "TrustChain" (40 : Nat) "TrustChain$Search") ∈ tb := tb_in (tm_1 (List.mem_of_getElem? (i := 112) rfl)) rfl
theorem q1_113 : (Cond.instantiable "TrustChain$Search" (5 : Nat)) ∈ tb := tb_in (tm_1 (List.mem_of_getElem? (i := 113) rfl)) rfl
theorem q1_114 : (Cond.methodLinkNest "TrustChain" (42 : Nat) ({ cls := "TrustChain$Search", name := "<init>", desc := "()V" } : MethodName) "TrustChain") ∈ lw_tbl := tm_1 (List.mem_of_getElem? (i := 114) rfl)
theorem q1_115 : (Cond.instanceMethod ({ cls := "TrustChain$Search", name := "<init>", desc := "()V" } : MethodName)) ∈ tb := tb_in (tm_1 (List.mem_of_getElem? (i := 115) rfl)) rfl
theorem q1_116 : (Cond.code ({ cls := "TrustChain$Search", name := "<init>", desc := "()V" } : MethodName) prog_10_method_1_code (1 : Nat) none) ∈ tb := tb_in (tm_1 (List.mem_of_getElem? (i := 116) rfl)) rfl
theorem q1_117 : (Cond.methodLink "TrustChain$Search" (3 : Nat) ({ cls := "java/lang/Object", name := "<init>", desc := "()V" } : MethodName)) ∈ tb := tb_in (tm_1 (List.mem_of_getElem? (i := 117) rfl)) rfl
theorem q1_118 : (Cond.classLink "TrustChain$Search" (9 : Nat) "java/util/ArrayList") ∈ tb := tb_in (tm_1 (List.mem_of_getElem? (i := 118) rfl)) rfl
theorem q1_119 : (Cond.methodLink "TrustChain$Search" (11 : Nat) ({ cls := "java/util/ArrayList", name := "<init>", desc := "()V" } : MethodName)) ∈ tb := tb_in (tm_1 (List.mem_of_getElem? (i := 119) rfl)) rfl
theorem q1_120 : (Cond.fieldLink "TrustChain$Search" (12 : Nat) "TrustChain$Search" "path" "Ljava/util/ArrayList;") ∈ tb := tb_in (tm_1 (List.mem_of_getElem? (i := 120) rfl)) rfl
theorem q1_121 : (Cond.fieldLink "TrustChain" (210 : Nat) "TrustChain$Search" "path" "Ljava/util/ArrayList;") ∈ tb := tb_in (tm_1 (List.mem_of_getElem? (i := 121) rfl)) rfl
theorem q1_122 : (Cond.fieldLink "TrustChain$Search" (18 : Nat) "TrustChain$Search" "next" "[I") ∈ tb := tb_in (tm_1 (List.mem_of_getElem? (i := 122) rfl)) rfl
theorem q1_123 : (Cond.fieldLink "TrustChain$Search" (22 : Nat) "TrustChain$Search" "depth" "I") ∈ tb := tb_in (tm_1 (List.mem_of_getElem? (i := 123) rfl)) rfl
theorem q1_124 : (Cond.fieldLink "TrustChain$Search" (26 : Nat) "TrustChain$Search" "puts" "I") ∈ tb := tb_in (tm_1 (List.mem_of_getElem? (i := 124) rfl)) rfl
theorem q1_125 : (Cond.fieldLink "TrustChain$Search" (29 : Nat) "TrustChain$Search" "onPath" "I") ∈ tb := tb_in (tm_1 (List.mem_of_getElem? (i := 125) rfl)) rfl
theorem q1_126 : (Cond.laysFinal "TrustChain$Search" "TrustChain$Search" "path" "Ljava/util/ArrayList;") ∈ tb := tb_in (tm_1 (List.mem_of_getElem? (i := 126) rfl)) rfl
theorem q1_127 : (Cond.soleField "TrustChain$Search" "path") ∈ tb := tb_in (tm_1 (List.mem_of_getElem? (i := 127) rfl)) rfl
theorem q1_128 : (Cond.laysFinal "TrustChain$Search" "TrustChain$Search" "next" "[I") ∈ tb := tb_in (tm_1 (List.mem_of_getElem? (i := 128) rfl)) rfl
theorem q1_129 : (Cond.soleField "TrustChain$Search" "next") ∈ tb := tb_in (tm_1 (List.mem_of_getElem? (i := 129) rfl)) rfl
theorem q1_130 : (Cond.lays "TrustChain$Search" "TrustChain$Search" "depth" "I") ∈ tb := tb_in (tm_1 (List.mem_of_getElem? (i := 130) rfl)) rfl
theorem q1_131 : (Cond.soleField "TrustChain$Search" "depth") ∈ tb := tb_in (tm_1 (List.mem_of_getElem? (i := 131) rfl)) rfl
theorem q1_132 : (Cond.lays "TrustChain$Search" "TrustChain$Search" "puts" "I") ∈ tb := tb_in (tm_1 (List.mem_of_getElem? (i := 132) rfl)) rfl
theorem q1_133 : (Cond.soleField "TrustChain$Search" "puts") ∈ tb := tb_in (tm_1 (List.mem_of_getElem? (i := 133) rfl)) rfl
theorem q1_134 : (Cond.lays "TrustChain$Search" "TrustChain$Search" "onPath" "I") ∈ tb := tb_in (tm_1 (List.mem_of_getElem? (i := 134) rfl)) rfl
theorem q1_135 : (Cond.soleField "TrustChain$Search" "onPath") ∈ tb := tb_in (tm_1 (List.mem_of_getElem? (i := 135) rfl)) rfl
theorem q1_136 : (Cond.superclass "TrustChain$Search" "java/lang/Object") ∈ tb := tb_in (tm_1 (List.mem_of_getElem? (i := 136) rfl)) rfl
theorem q1_137 : (Cond.classLink "TrustChain" (47 : Nat) "TrustChain$PathCheck") ∈ tb := tb_in (tm_1 (List.mem_of_getElem? (i := 137) rfl)) rfl
theorem q1_138 : (Cond.instantiable "TrustChain$PathCheck" (4 : Nat)) ∈ tb := tb_in (tm_1 (List.mem_of_getElem? (i := 138) rfl)) rfl
theorem q1_139 : (Cond.methodLinkNest "TrustChain" (49 : Nat) ({ cls := "TrustChain$PathCheck", name := "<init>", desc := "()V" } : MethodName) "TrustChain") ∈ lw_tbl := tm_1 (List.mem_of_getElem? (i := 139) rfl)
theorem q1_140 : (Cond.instanceMethod ({ cls := "TrustChain$PathCheck", name := "<init>", desc := "()V" } : MethodName)) ∈ tb := tb_in (tm_1 (List.mem_of_getElem? (i := 140) rfl)) rfl
theorem q1_141 : (Cond.code ({ cls := "TrustChain$PathCheck", name := "<init>", desc := "()V" } : MethodName) prog_7_method_1_code (1 : Nat) none) ∈ tb := tb_in (tm_1 (List.mem_of_getElem? (i := 141) rfl)) rfl
theorem q1_142 : (Cond.methodLink "TrustChain$PathCheck" (3 : Nat) ({ cls := "java/lang/Object", name := "<init>", desc := "()V" } : MethodName)) ∈ tb := tb_in (tm_1 (List.mem_of_getElem? (i := 142) rfl)) rfl
theorem q1_143 : (Cond.fieldLink "TrustChain$PathCheck" (9 : Nat) "TrustChain$PathCheck" "faultPlace" "I") ∈ tb := tb_in (tm_1 (List.mem_of_getElem? (i := 143) rfl)) rfl
theorem q1_144 : (Cond.fieldLink "TrustChain" (217 : Nat) "TrustChain$PathCheck" "faultPlace" "I") ∈ tb := tb_in (tm_1 (List.mem_of_getElem? (i := 144) rfl)) rfl
theorem q1_145 : (Cond.fieldLink "TrustChain$PathCheck" (15 : Nat) "TrustChain$PathCheck" "time" "J") ∈ tb := tb_in (tm_1 (List.mem_of_getElem? (i := 145) rfl)) rfl
theorem q1_146 : (Cond.fieldLink "TrustChain$PathCheck" (19 : Nat) "TrustChain$PathCheck" "knownWanted" "Z") ∈ tb := tb_in (tm_1 (List.mem_of_getElem? (i := 146) rfl)) rfl
theorem q1_147 : (Cond.fieldLink "TrustChain$PathCheck" (23 : Nat) "TrustChain$PathCheck" "isKnown" "Z") ∈ tb := tb_in (tm_1 (List.mem_of_getElem? (i := 147) rfl)) rfl
theorem q1_148 : (Cond.lays "TrustChain$PathCheck" "TrustChain$PathCheck" "faultPlace" "I") ∈ tb := tb_in (tm_1 (List.mem_of_getElem? (i := 148) rfl)) rfl
theorem q1_149 : (Cond.soleField "TrustChain$PathCheck" "faultPlace") ∈ tb := tb_in (tm_1 (List.mem_of_getElem? (i := 149) rfl)) rfl
theorem q1_150 : (Cond.lays "TrustChain$PathCheck" "TrustChain$PathCheck" "time" "J") ∈ tb := tb_in (tm_1 (List.mem_of_getElem? (i := 150) rfl)) rfl
theorem q1_151 : (Cond.soleField "TrustChain$PathCheck" "time") ∈ tb := tb_in (tm_1 (List.mem_of_getElem? (i := 151) rfl)) rfl
theorem q1_152 : (Cond.lays "TrustChain$PathCheck" "TrustChain$PathCheck" "knownWanted" "Z") ∈ tb := tb_in (tm_1 (List.mem_of_getElem? (i := 152) rfl)) rfl
theorem q1_153 : (Cond.soleField "TrustChain$PathCheck" "knownWanted") ∈ tb := tb_in (tm_1 (List.mem_of_getElem? (i := 153) rfl)) rfl
theorem q1_154 : (Cond.lays "TrustChain$PathCheck" "TrustChain$PathCheck" "isKnown" "Z") ∈ tb := tb_in (tm_1 (List.mem_of_getElem? (i := 154) rfl)) rfl
theorem q1_155 : (Cond.soleField "TrustChain$PathCheck" "isKnown") ∈ tb := tb_in (tm_1 (List.mem_of_getElem? (i := 155) rfl)) rfl
theorem q1_156 : (Cond.superclass "TrustChain$PathCheck" "java/lang/Object") ∈ tb := tb_in (tm_1 (List.mem_of_getElem? (i := 156) rfl)) rfl
theorem q1_157 : (Cond.fieldLink "TrustChain" (9 : Nat) "TrustChain" "fed" "[B") ∈ tb := tb_in (tm_1 (List.mem_of_getElem? (i := 157) rfl)) rfl
theorem q1_158 : (Cond.fieldLink "TrustChain" (13 : Nat) "TrustChain" "host" "[B") ∈ tb := tb_in (tm_1 (List.mem_of_getElem? (i := 158) rfl)) rfl
theorem q1_159 : (Cond.fieldLink "TrustChain" (19 : Nat) "TrustChain" "certificates" "Ljava/util/ArrayList;") ∈ tb := tb_in (tm_1 (List.mem_of_getElem? (i := 159) rfl)) rfl
theorem q1_160 : (Cond.fieldLink "TrustChain" (23 : Nat) "TrustChain" "lists" "Ljava/util/ArrayList;") ∈ tb := tb_in (tm_1 (List.mem_of_getElem? (i := 160) rfl)) rfl
theorem q1_161 : (Cond.fieldLink "TrustChain" (29 : Nat) "TrustChain" "sha" "LTrustChain$Sha256;") ∈ tb := tb_in (tm_1 (List.mem_of_getElem? (i := 161) rfl)) rfl
theorem q1_162 : (Cond.fieldLink "TrustChain" (36 : Nat) "TrustChain" "rsa" "LTrustChain$Rsa;") ∈ tb := tb_in (tm_1 (List.mem_of_getElem? (i := 162) rfl)) rfl
theorem q1_163 : (Cond.fieldLink "TrustChain" (43 : Nat) "TrustChain" "search" "LTrustChain$Search;") ∈ tb := tb_in (tm_1 (List.mem_of_getElem? (i := 163) rfl)) rfl
theorem q1_164 : (Cond.fieldLink "TrustChain" (50 : Nat) "TrustChain" "check" "LTrustChain$PathCheck;") ∈ tb := tb_in (tm_1 (List.mem_of_getElem? (i := 164) rfl)) rfl
theorem q1_165 : (Cond.fieldLink "TrustChain" (54 : Nat) "TrustChain" "found" "[I") ∈ tb := tb_in (tm_1 (List.mem_of_getElem? (i := 165) rfl)) rfl
theorem q1_166 : (Cond.fieldLink "TrustChain" (58 : Nat) "TrustChain" "foundSize" "I") ∈ tb := tb_in (tm_1 (List.mem_of_getElem? (i := 166) rfl)) rfl
theorem q1_167 : (Cond.fieldLink "TrustChain" (62 : Nat) "TrustChain" "chainsSeen" "I") ∈ tb := tb_in (tm_1 (List.mem_of_getElem? (i := 167) rfl)) rfl
theorem q1_168 : (Cond.fieldLink "TrustChain" (65 : Nat) "TrustChain" "faultPlace" "I") ∈ tb := tb_in (tm_1 (List.mem_of_getElem? (i := 168) rfl)) rfl
theorem q1_169 : (Cond.fieldLink "TrustChain" (68 : Nat) "TrustChain" "fedSize" "I") ∈ tb := tb_in (tm_1 (List.mem_of_getElem? (i := 169) rfl)) rfl
theorem q1_170 : (Cond.fieldLink "TrustChain" (71 : Nat) "TrustChain" "wrongPlace" "I") ∈ tb := tb_in (tm_1 (List.mem_of_getElem? (i := 170) rfl)) rfl
theorem q1_171 : (Cond.laysFinal "TrustChain" "TrustChain" "fed" "[B") ∈ tb := tb_in (tm_1 (List.mem_of_getElem? (i := 171) rfl)) rfl
theorem q1_172 : (Cond.soleField "TrustChain" "fed") ∈ tb := tb_in (tm_1 (List.mem_of_getElem? (i := 172) rfl)) rfl
theorem q1_173 : (Cond.laysFinal "TrustChain" "TrustChain" "host" "[B") ∈ tb := tb_in (tm_1 (List.mem_of_getElem? (i := 173) rfl)) rfl
theorem q1_174 : (Cond.soleField "TrustChain" "host") ∈ tb := tb_in (tm_1 (List.mem_of_getElem? (i := 174) rfl)) rfl
theorem q1_175 : (Cond.laysFinal "TrustChain" "TrustChain" "certificates" "Ljava/util/ArrayList;") ∈ tb := tb_in (tm_1 (List.mem_of_getElem? (i := 175) rfl)) rfl
theorem q1_176 : (Cond.soleField "TrustChain" "certificates") ∈ tb := tb_in (tm_1 (List.mem_of_getElem? (i := 176) rfl)) rfl
theorem q1_177 : (Cond.laysFinal "TrustChain" "TrustChain" "lists" "Ljava/util/ArrayList;") ∈ tb := tb_in (tm_1 (List.mem_of_getElem? (i := 177) rfl)) rfl
theorem q1_178 : (Cond.soleField "TrustChain" "lists") ∈ tb := tb_in (tm_1 (List.mem_of_getElem? (i := 178) rfl)) rfl
theorem q1_179 : (Cond.laysFinal "TrustChain" "TrustChain" "sha" "LTrustChain$Sha256;") ∈ tb := tb_in (tm_1 (List.mem_of_getElem? (i := 179) rfl)) rfl
theorem q1_180 : (Cond.soleField "TrustChain" "sha") ∈ tb := tb_in (tm_1 (List.mem_of_getElem? (i := 180) rfl)) rfl
theorem q1_181 : (Cond.laysFinal "TrustChain" "TrustChain" "rsa" "LTrustChain$Rsa;") ∈ tb := tb_in (tm_1 (List.mem_of_getElem? (i := 181) rfl)) rfl
theorem q1_182 : (Cond.soleField "TrustChain" "rsa") ∈ tb := tb_in (tm_1 (List.mem_of_getElem? (i := 182) rfl)) rfl
theorem q1_183 : (Cond.laysFinal "TrustChain" "TrustChain" "search" "LTrustChain$Search;") ∈ tb := tb_in (tm_1 (List.mem_of_getElem? (i := 183) rfl)) rfl
theorem q1_184 : (Cond.soleField "TrustChain" "search") ∈ tb := tb_in (tm_1 (List.mem_of_getElem? (i := 184) rfl)) rfl
theorem q1_185 : (Cond.laysFinal "TrustChain" "TrustChain" "check" "LTrustChain$PathCheck;") ∈ tb := tb_in (tm_1 (List.mem_of_getElem? (i := 185) rfl)) rfl
theorem q1_186 : (Cond.soleField "TrustChain" "check") ∈ tb := tb_in (tm_1 (List.mem_of_getElem? (i := 186) rfl)) rfl
theorem q1_187 : (Cond.laysFinal "TrustChain" "TrustChain" "found" "[I") ∈ tb := tb_in (tm_1 (List.mem_of_getElem? (i := 187) rfl)) rfl
theorem q1_188 : (Cond.soleField "TrustChain" "found") ∈ tb := tb_in (tm_1 (List.mem_of_getElem? (i := 188) rfl)) rfl
theorem q1_189 : (Cond.lays "TrustChain" "TrustChain" "foundSize" "I") ∈ tb := tb_in (tm_1 (List.mem_of_getElem? (i := 189) rfl)) rfl
theorem q1_190 : (Cond.soleField "TrustChain" "foundSize") ∈ tb := tb_in (tm_1 (List.mem_of_getElem? (i := 190) rfl)) rfl
theorem q1_191 : (Cond.lays "TrustChain" "TrustChain" "chainsSeen" "I") ∈ tb := tb_in (tm_1 (List.mem_of_getElem? (i := 191) rfl)) rfl
theorem q1_192 : (Cond.soleField "TrustChain" "chainsSeen") ∈ tb := tb_in (tm_1 (List.mem_of_getElem? (i := 192) rfl)) rfl
theorem q1_193 : (Cond.lays "TrustChain" "TrustChain" "faultPlace" "I") ∈ tb := tb_in (tm_1 (List.mem_of_getElem? (i := 193) rfl)) rfl
theorem q1_194 : (Cond.soleField "TrustChain" "faultPlace") ∈ tb := tb_in (tm_1 (List.mem_of_getElem? (i := 194) rfl)) rfl
theorem q1_195 : (Cond.lays "TrustChain" "TrustChain" "fedSize" "I") ∈ tb := tb_in (tm_1 (List.mem_of_getElem? (i := 195) rfl)) rfl
theorem q1_196 : (Cond.soleField "TrustChain" "fedSize") ∈ tb := tb_in (tm_1 (List.mem_of_getElem? (i := 196) rfl)) rfl
theorem q1_197 : (Cond.lays "TrustChain" "TrustChain" "wrongPlace" "I") ∈ tb := tb_in (tm_1 (List.mem_of_getElem? (i := 197) rfl)) rfl
theorem q1_198 : (Cond.soleField "TrustChain" "wrongPlace") ∈ tb := tb_in (tm_1 (List.mem_of_getElem? (i := 198) rfl)) rfl
theorem q1_199 : (Cond.superclass "TrustChain" "java/lang/Object") ∈ tb := tb_in (tm_1 (List.mem_of_getElem? (i := 199) rfl)) rfl
theorem q1_200 : (Cond.methodLink "TrustChainLaw" (80 : Nat) ({ cls := "TrustChain", name := "wrong", desc := "()I" } : MethodName)) ∈ tb := tb_in (tm_1 (List.mem_of_getElem? (i := 200) rfl)) rfl
theorem q1_201 : (Cond.instanceMethod ({ cls := "TrustChain", name := "wrong", desc := "()I" } : MethodName)) ∈ tb := tb_in (tm_1 (List.mem_of_getElem? (i := 201) rfl)) rfl
theorem q1_202 : (Cond.selects "TrustChain" ({ cls := "TrustChain", name := "wrong", desc := "()I" } : MethodName) ({ cls := "TrustChain", name := "wrong", desc := "()I" } : MethodName)) ∈ tb := tb_in (tm_1 (List.mem_of_getElem? (i := 202) rfl)) rfl
theorem q1_203 : (Cond.code ({ cls := "TrustChain", name := "wrong", desc := "()I" } : MethodName) prog_1_method_5_code (1 : Nat) (some FieldType.int)) ∈ tb := tb_in (tm_1 (List.mem_of_getElem? (i := 203) rfl)) rfl
theorem q1_204 : (Cond.methodLink "TrustChainLaw" (62 : Nat) ({ cls := "TrustChainLaw", name := "feed", desc := "(LTrustChain;IIIII[J)I" } : MethodName)) ∈ tb := tb_in (tm_1 (List.mem_of_getElem? (i := 204) rfl)) rfl
theorem q1_205 : (Cond.static ({ cls := "TrustChainLaw", name := "feed", desc := "(LTrustChain;IIIII[J)I" } : MethodName)) ∈ tb := tb_in (tm_1 (List.mem_of_getElem? (i := 205) rfl)) rfl
theorem q1_206 : (Cond.codeWith ({ cls := "TrustChainLaw", name := "feed", desc := "(LTrustChain;IIIII[J)I" } : MethodName) method_3_code (8 : Nat) (some FieldType.int) [((0 : Nat), (16 : Nat), (19 : Nat), (13 : Nat))]) ∈ tb := tb_in (tm_1 (List.mem_of_getElem? (i := 206) rfl)) rfl
theorem q1_207 : (Cond.classLink "TrustChainLaw" (13 : Nat) "java/lang/IndexOutOfBoundsException") ∈ tb := tb_in (tm_1 (List.mem_of_getElem? (i := 207) rfl)) rfl
theorem q1_208 : (Cond.methodLink "TrustChainLaw" (7 : Nat) ({ cls := "TrustChain", name := "feed", desc := "(IIIII)I" } : MethodName)) ∈ tb := tb_in (tm_1 (List.mem_of_getElem? (i := 208) rfl)) rfl
theorem q1_209 : (Cond.instanceMethod ({ cls := "TrustChain", name := "feed", desc := "(IIIII)I" } : MethodName)) ∈ tb := tb_in (tm_1 (List.mem_of_getElem? (i := 209) rfl)) rfl
theorem q1_210 : (Cond.selects "TrustChain" ({ cls := "TrustChain", name := "feed", desc := "(IIIII)I" } : MethodName) ({ cls := "TrustChain", name := "feed", desc := "(IIIII)I" } : MethodName)) ∈ tb := tb_in (tm_1 (List.mem_of_getElem? (i := 210) rfl)) rfl
theorem q1_211 : (Cond.code ({ cls := "TrustChain", name := "feed", desc := "(IIIII)I" } : MethodName) prog_1_method_2_code (6 : Nat) (some FieldType.int)) ∈ tb := tb_in (tm_1 (List.mem_of_getElem? (i := 211) rfl)) rfl
theorem q1_212 : (Cond.classLink "TrustChain" (74 : Nat) "java/lang/IndexOutOfBoundsException") ∈ tb := tb_in (tm_1 (List.mem_of_getElem? (i := 212) rfl)) rfl
theorem q1_213 : (Cond.instantiable "java/lang/IndexOutOfBoundsException" (6 : Nat)) ∈ tb := tb_in (tm_1 (List.mem_of_getElem? (i := 213) rfl)) rfl
theorem q1_214 : (Cond.castable "java/lang/IndexOutOfBoundsException" "java/lang/IndexOutOfBoundsException") ∈ lw_tbl := tm_1 (List.mem_of_getElem? (i := 214) rfl)
theorem q1_215 : (Cond.declares ({ cls := "java/lang/RuntimeException", name := "<init>", desc := "()V" } : MethodName)) ∈ lw_tbl := tm_1 (List.mem_of_getElem? (i := 215) rfl)
theorem q1_216 : (Cond.declares ({ cls := "java/lang/RuntimeException", name := "<init>", desc := "(Ljava/lang/String;)V" } : MethodName)) ∈ lw_tbl := tm_1 (List.mem_of_getElem? (i := 216) rfl)
theorem q1_217 : (Cond.declares ({ cls := "java/lang/Exception", name := "<init>", desc := "()V" } : MethodName)) ∈ lw_tbl := tm_1 (List.mem_of_getElem? (i := 217) rfl)
theorem q1_218 : (Cond.declares ({ cls := "java/lang/Exception", name := "<init>", desc := "(Ljava/lang/String;)V" } : MethodName)) ∈ lw_tbl := tm_1 (List.mem_of_getElem? (i := 218) rfl)
theorem q1_219 : (Cond.declares ({ cls := "java/lang/Throwable", name := "<init>", desc := "()V" } : MethodName)) ∈ lw_tbl := tm_1 (List.mem_of_getElem? (i := 219) rfl)
theorem q1_220 : (Cond.declares ({ cls := "java/lang/Throwable", name := "<init>", desc := "(Ljava/lang/String;)V" } : MethodName)) ∈ lw_tbl := tm_1 (List.mem_of_getElem? (i := 220) rfl)
theorem q1_221 : (Cond.selects "java/lang/IndexOutOfBoundsException" ({ cls := "java/lang/Throwable", name := "fillInStackTrace", desc := "(I)Ljava/lang/Throwable;" } : MethodName) ({ cls := "java/lang/Throwable", name := "fillInStackTrace", desc := "(I)Ljava/lang/Throwable;" } : MethodName)) ∈ tb := tb_in (tm_1 (List.mem_of_getElem? (i := 221) rfl)) rfl
theorem q1_222 : (Cond.selects "java/lang/IndexOutOfBoundsException" ({ cls := "java/lang/Throwable", name := "fillInStackTrace", desc := "()Ljava/lang/Throwable;" } : MethodName) ({ cls := "java/lang/Throwable", name := "fillInStackTrace", desc := "()Ljava/lang/Throwable;" } : MethodName)) ∈ tb := tb_in (tm_1 (List.mem_of_getElem? (i := 222) rfl)) rfl
theorem q1_223 : (Cond.lays "java/lang/IndexOutOfBoundsException" "java/lang/Throwable" "cause" "Ljava/lang/Throwable;") ∈ tb := tb_in (tm_1 (List.mem_of_getElem? (i := 223) rfl)) rfl
theorem q1_224 : (Cond.lays "java/lang/Throwable" "java/lang/Throwable" "cause" "Ljava/lang/Throwable;") ∈ tb := tb_in (tm_1 (List.mem_of_getElem? (i := 224) rfl)) rfl
theorem q1_225 : (Cond.lays "java/lang/IndexOutOfBoundsException" "java/lang/Throwable" "stackTrace" "[Ljava/lang/StackTraceElement;") ∈ tb := tb_in (tm_1 (List.mem_of_getElem? (i := 225) rfl)) rfl
theorem q1_226 : (Cond.lays "java/lang/Throwable" "java/lang/Throwable" "stackTrace" "[Ljava/lang/StackTraceElement;") ∈ tb := tb_in (tm_1 (List.mem_of_getElem? (i := 226) rfl)) rfl
theorem q1_227 : (Cond.lays "java/lang/IndexOutOfBoundsException" "java/lang/Throwable" "suppressedExceptions" "Ljava/util/List;") ∈ tb := tb_in (tm_1 (List.mem_of_getElem? (i := 227) rfl)) rfl
theorem q1_228 : (Cond.lays "java/lang/Throwable" "java/lang/Throwable" "suppressedExceptions" "Ljava/util/List;") ∈ tb := tb_in (tm_1 (List.mem_of_getElem? (i := 228) rfl)) rfl
theorem q1_229 : (Cond.lays "java/lang/IndexOutOfBoundsException" "java/lang/Throwable" "detailMessage" "Ljava/lang/String;") ∈ tb := tb_in (tm_1 (List.mem_of_getElem? (i := 229) rfl)) rfl
theorem q1_230 : (Cond.lays "java/lang/Throwable" "java/lang/Throwable" "detailMessage" "Ljava/lang/String;") ∈ tb := tb_in (tm_1 (List.mem_of_getElem? (i := 230) rfl)) rfl
theorem q1_231 : (Cond.lays "java/lang/IndexOutOfBoundsException" "java/lang/Throwable" "backtrace" "Ljava/lang/Object;") ∈ tb := tb_in (tm_1 (List.mem_of_getElem? (i := 231) rfl)) rfl
theorem q1_232 : (Cond.lays "java/lang/Throwable" "java/lang/Throwable" "backtrace" "Ljava/lang/Object;") ∈ tb := tb_in (tm_1 (List.mem_of_getElem? (i := 232) rfl)) rfl
theorem q1_233 : (Cond.fieldLink "java/lang/Throwable" (198 : Nat) "java/lang/Throwable" "backtrace" "Ljava/lang/Object;") ∈ tb := tb_in (tm_1 (List.mem_of_getElem? (i := 233) rfl)) rfl
theorem q1_234 : (Cond.superclass "java/lang/Throwable" "java/lang/Object") ∈ tb := tb_in (tm_1 (List.mem_of_getElem? (i := 234) rfl)) rfl
theorem q1_235 : (Cond.instanceMethod ({ cls := "java/lang/Throwable", name := "<init>", desc := "()V" } : MethodName)) ∈ tb := tb_in (tm_1 (List.mem_of_getElem? (i := 235) rfl)) rfl
theorem q1_236 : (Cond.code ({ cls := "java/lang/Throwable", name := "<init>", desc := "()V" } : MethodName) prog_30_method_1_code (1 : Nat) none) ∈ tb := tb_in (tm_1 (List.mem_of_getElem? (i := 236) rfl)) rfl
theorem q1_237 : (Cond.methodLink "java/lang/Throwable" (1 : Nat) ({ cls := "java/lang/Object", name := "<init>", desc := "()V" } : MethodName)) ∈ tb := tb_in (tm_1 (List.mem_of_getElem? (i := 237) rfl)) rfl
theorem q1_238 : (Cond.fieldLink "java/lang/Throwable" (13 : Nat) "java/lang/Throwable" "UNASSIGNED_STACK" "[Ljava/lang/StackTraceElement;") ∈ tb := tb_in (tm_1 (List.mem_of_getElem? (i := 238) rfl)) rfl
theorem q1_239 : (Cond.laysStatic "java/lang/Throwable" "UNASSIGNED_STACK" "[Ljava/lang/StackTraceElement;") ∈ lw_tbl := tm_1 (List.mem_of_getElem? (i := 239) rfl)
theorem q2_0 : (Cond.fieldLink "java/lang/Throwable" (20 : Nat) "java/lang/Throwable" "SUPPRESSED_SENTINEL" "Ljava/util/List;") ∈ tb := tb_in (tm_2 (List.mem_of_getElem? (i := 0) rfl)) rfl
theorem q2_1 : (Cond.laysStatic "java/lang/Throwable" "SUPPRESSED_SENTINEL" "Ljava/util/List;") ∈ lw_tbl := tm_2 (List.mem_of_getElem? (i := 1) rfl)
theorem q2_2 : (Cond.methodLink "java/lang/Throwable" (27 : Nat) ({ cls := "java/lang/Throwable", name := "fillInStackTrace", desc := "()Ljava/lang/Throwable;" } : MethodName)) ∈ tb := tb_in (tm_2 (List.mem_of_getElem? (i := 2) rfl)) rfl
theorem q2_3 : (Cond.instanceMethod ({ cls := "java/lang/Throwable", name := "fillInStackTrace", desc := "()Ljava/lang/Throwable;" } : MethodName)) ∈ tb := tb_in (tm_2 (List.mem_of_getElem? (i := 3) rfl)) rfl
theorem q2_4 : (Cond.sameMethod "java/lang/Throwable" "java/lang/Throwable" "fillInStackTrace" "()Ljava/lang/Throwable;") ∈ tb := tb_in (tm_2 (List.mem_of_getElem? (i := 4) rfl)) rfl
theorem q2_5 : (Cond.selects "java/lang/IllegalArgumentException" ({ cls := "java/lang/Throwable", name := "fillInStackTrace", desc := "()Ljava/lang/Throwable;" } : MethodName) ({ cls := "java/lang/Throwable", name := "fillInStackTrace", desc := "()Ljava/lang/Throwable;" } : MethodName)) ∈ tb := tb_in (tm_2 (List.mem_of_getElem? (i := 5) rfl)) rfl
theorem q2_6 : (Cond.codeSync ({ cls := "java/lang/Throwable", name := "fillInStackTrace", desc := "()Ljava/lang/Throwable;" } : MethodName) prog_30_method_18_code (1 : Nat) (some (FieldType.object "java/lang/Throwable"))) ∈ tb := tb_in (tm_2 (List.mem_of_getElem? (i := 6) rfl)) rfl
theorem q2_7 : (Cond.methodLink "java/lang/Throwable" (202 : Nat) ({ cls := "java/lang/Throwable", name := "fillInStackTrace", desc := "(I)Ljava/lang/Throwable;" } : MethodName)) ∈ tb := tb_in (tm_2 (List.mem_of_getElem? (i := 7) rfl)) rfl
theorem q2_8 : (Cond.privateMethod ({ cls := "java/lang/Throwable", name := "fillInStackTrace", desc := "(I)Ljava/lang/Throwable;" } : MethodName)) ∈ lw_tbl := tm_2 (List.mem_of_getElem? (i := 8) rfl)
theorem q2_9 : (Cond.instanceMethod ({ cls := "java/lang/Throwable", name := "fillInStackTrace", desc := "(I)Ljava/lang/Throwable;" } : MethodName)) ∈ tb := tb_in (tm_2 (List.mem_of_getElem? (i := 9) rfl)) rfl
theorem q2_10 : (Cond.instantiable "java/lang/Throwable" (6 : Nat)) ∈ tb := tb_in (tm_2 (List.mem_of_getElem? (i := 10) rfl)) rfl
theorem q2_11 : (Cond.native ({ cls := "java/lang/Throwable", name := "fillInStackTrace", desc := "(I)Ljava/lang/Throwable;" } : MethodName)) ∈ tb := tb_in (tm_2 (List.mem_of_getElem? (i := 11) rfl)) rfl
theorem q2_12 : (Cond.stringRef "TrustChain" (76 : Nat) "more than 2,060 octets") ∈ lw_tbl := tm_2 (List.mem_of_getElem? (i := 12) rfl)
theorem q2_13 : (Cond.methodLink "TrustChain" (78 : Nat) ({ cls := "java/lang/IndexOutOfBoundsException", name := "<init>", desc := "(Ljava/lang/String;)V" } : MethodName)) ∈ tb := tb_in (tm_2 (List.mem_of_getElem? (i := 13) rfl)) rfl
theorem q2_14 : (Cond.instanceMethod ({ cls := "java/lang/IndexOutOfBoundsException", name := "<init>", desc := "(Ljava/lang/String;)V" } : MethodName)) ∈ tb := tb_in (tm_2 (List.mem_of_getElem? (i := 14) rfl)) rfl
theorem q2_15 : (Cond.code ({ cls := "java/lang/IndexOutOfBoundsException", name := "<init>", desc := "(Ljava/lang/String;)V" } : MethodName) prog_21_method_2_code (2 : Nat) none) ∈ tb := tb_in (tm_2 (List.mem_of_getElem? (i := 15) rfl)) rfl
theorem q2_16 : (Cond.methodLink "java/lang/IndexOutOfBoundsException" (7 : Nat) ({ cls := "java/lang/RuntimeException", name := "<init>", desc := "(Ljava/lang/String;)V" } : MethodName)) ∈ tb := tb_in (tm_2 (List.mem_of_getElem? (i := 16) rfl)) rfl
theorem q2_17 : (Cond.instanceMethod ({ cls := "java/lang/RuntimeException", name := "<init>", desc := "(Ljava/lang/String;)V" } : MethodName)) ∈ tb := tb_in (tm_2 (List.mem_of_getElem? (i := 17) rfl)) rfl
theorem q2_18 : (Cond.code ({ cls := "java/lang/RuntimeException", name := "<init>", desc := "(Ljava/lang/String;)V" } : MethodName) prog_25_method_2_code (2 : Nat) none) ∈ tb := tb_in (tm_2 (List.mem_of_getElem? (i := 18) rfl)) rfl
theorem q2_19 : (Cond.methodLink "java/lang/RuntimeException" (7 : Nat) ({ cls := "java/lang/Exception", name := "<init>", desc := "(Ljava/lang/String;)V" } : MethodName)) ∈ tb := tb_in (tm_2 (List.mem_of_getElem? (i := 19) rfl)) rfl
theorem q2_20 : (Cond.instanceMethod ({ cls := "java/lang/Exception", name := "<init>", desc := "(Ljava/lang/String;)V" } : MethodName)) ∈ tb := tb_in (tm_2 (List.mem_of_getElem? (i := 20) rfl)) rfl
theorem q2_21 : (Cond.code ({ cls := "java/lang/Exception", name := "<init>", desc := "(Ljava/lang/String;)V" } : MethodName) prog_19_method_2_code (2 : Nat) none) ∈ tb := tb_in (tm_2 (List.mem_of_getElem? (i := 21) rfl)) rfl
theorem q2_22 : (Cond.methodLink "java/lang/Exception" (7 : Nat) ({ cls := "java/lang/Throwable", name := "<init>", desc := "(Ljava/lang/String;)V" } : MethodName)) ∈ tb := tb_in (tm_2 (List.mem_of_getElem? (i := 22) rfl)) rfl
theorem q2_23 : (Cond.instanceMethod ({ cls := "java/lang/Throwable", name := "<init>", desc := "(Ljava/lang/String;)V" } : MethodName)) ∈ tb := tb_in (tm_2 (List.mem_of_getElem? (i := 23) rfl)) rfl
theorem q2_24 : (Cond.code ({ cls := "java/lang/Throwable", name := "<init>", desc := "(Ljava/lang/String;)V" } : MethodName) prog_30_method_2_code (2 : Nat) none) ∈ tb := tb_in (tm_2 (List.mem_of_getElem? (i := 24) rfl)) rfl
theorem q2_25 : (Cond.fieldLink "java/lang/Throwable" (198 : Nat) "java/lang/Throwable" "backtrace" "Ljava/lang/Object;") ∈ tb := tb_in (tm_2 (List.mem_of_getElem? (i := 25) rfl)) rfl
theorem q2_26 : (Cond.fieldLink "java/lang/Throwable" (31 : Nat) "java/lang/Throwable" "detailMessage" "Ljava/lang/String;") ∈ tb := tb_in (tm_2 (List.mem_of_getElem? (i := 26) rfl)) rfl
theorem q2_27 : (Cond.fieldLink "java/lang/Throwable" (7 : Nat) "java/lang/Throwable" "cause" "Ljava/lang/Throwable;") ∈ tb := tb_in (tm_2 (List.mem_of_getElem? (i := 27) rfl)) rfl
theorem q2_28 : (Cond.fieldLink "java/lang/Throwable" (17 : Nat) "java/lang/Throwable" "stackTrace" "[Ljava/lang/StackTraceElement;") ∈ tb := tb_in (tm_2 (List.mem_of_getElem? (i := 28) rfl)) rfl
theorem q2_29 : (Cond.fieldLink "java/lang/Throwable" (24 : Nat) "java/lang/Throwable" "suppressedExceptions" "Ljava/util/List;") ∈ tb := tb_in (tm_2 (List.mem_of_getElem? (i := 29) rfl)) rfl
theorem q2_30 : (Cond.soleField "java/lang/Throwable" "backtrace") ∈ tb := tb_in (tm_2 (List.mem_of_getElem? (i := 30) rfl)) rfl
theorem q2_31 : (Cond.soleField "java/lang/Throwable" "detailMessage") ∈ tb := tb_in (tm_2 (List.mem_of_getElem? (i := 31) rfl)) rfl
theorem q2_32 : (Cond.soleField "java/lang/Throwable" "cause") ∈ tb := tb_in (tm_2 (List.mem_of_getElem? (i := 32) rfl)) rfl
theorem q2_33 : (Cond.soleField "java/lang/Throwable" "stackTrace") ∈ tb := tb_in (tm_2 (List.mem_of_getElem? (i := 33) rfl)) rfl
theorem q2_34 : (Cond.lays "java/lang/IndexOutOfBoundsException" "java/lang/Throwable" "depth" "I") ∈ tb := tb_in (tm_2 (List.mem_of_getElem? (i := 34) rfl)) rfl
theorem q2_35 : (Cond.soleField "java/lang/Throwable" "depth") ∈ tb := tb_in (tm_2 (List.mem_of_getElem? (i := 35) rfl)) rfl
theorem q2_36 : (Cond.soleField "java/lang/Throwable" "suppressedExceptions") ∈ tb := tb_in (tm_2 (List.mem_of_getElem? (i := 36) rfl)) rfl
theorem q2_37 : (Cond.superclass "java/lang/IndexOutOfBoundsException" "java/lang/RuntimeException") ∈ tb := tb_in (tm_2 (List.mem_of_getElem? (i := 37) rfl)) rfl
theorem q2_38 : (Cond.methodLink "TrustChain" (81 : Nat) ({ cls := "TrustChain", name := "takeWord", desc := "(I)V" } : MethodName)) ∈ tb := tb_in (tm_2 (List.mem_of_getElem? (i := 38) rfl)) rfl
theorem q2_39 : (Cond.privateMethod ({ cls := "TrustChain", name := "takeWord", desc := "(I)V" } : MethodName)) ∈ lw_tbl := tm_2 (List.mem_of_getElem? (i := 39) rfl)
theorem q2_40 : (Cond.instanceMethod ({ cls := "TrustChain", name := "takeWord", desc := "(I)V" } : MethodName)) ∈ tb := tb_in (tm_2 (List.mem_of_getElem? (i := 40) rfl)) rfl
theorem q2_41 : (Cond.code ({ cls := "TrustChain", name := "takeWord", desc := "(I)V" } : MethodName) prog_1_method_15_code (3 : Nat) none) ∈ tb := tb_in (tm_2 (List.mem_of_getElem? (i := 41) rfl)) rfl
theorem q2_42 : (Cond.methodLink "TrustChainLaw" (72 : Nat) ({ cls := "TrustChainLaw", name := "certificate", desc := "(LTrustChain;IZ[J)I" } : MethodName)) ∈ tb := tb_in (tm_2 (List.mem_of_getElem? (i := 42) rfl)) rfl
theorem q2_43 : (Cond.static ({ cls := "TrustChainLaw", name := "certificate", desc := "(LTrustChain;IZ[J)I" } : MethodName)) ∈ tb := tb_in (tm_2 (List.mem_of_getElem? (i := 43) rfl)) rfl
theorem q2_44 : (Cond.codeWith ({ cls := "TrustChainLaw", name := "certificate", desc := "(LTrustChain;IZ[J)I" } : MethodName) method_4_code (5 : Nat) (some FieldType.int) [((0 : Nat), (10 : Nat), (13 : Nat), (13 : Nat)), ((0 : Nat), (10 : Nat), (17 : Nat), (19 : Nat))]) ∈ tb := tb_in (tm_2 (List.mem_of_getElem? (i := 44) rfl)) rfl
theorem q2_45 : (Cond.classLink "TrustChainLaw" (19 : Nat) "java/lang/IllegalArgumentException") ∈ tb := tb_in (tm_2 (List.mem_of_getElem? (i := 45) rfl)) rfl
theorem q2_46 : (Cond.methodLink "TrustChainLaw" (15 : Nat) ({ cls := "TrustChain", name := "certificate", desc := "(IZ)I" } : MethodName)) ∈ tb := tb_in (tm_2 (List.mem_of_getElem? (i := 46) rfl)) rfl
theorem q2_47 : (Cond.instanceMethod ({ cls := "TrustChain", name := "certificate", desc := "(IZ)I" } : MethodName)) ∈ tb := tb_in (tm_2 (List.mem_of_getElem? (i := 47) rfl)) rfl
theorem q2_48 : (Cond.selects "TrustChain" ({ cls := "TrustChain", name := "certificate", desc := "(IZ)I" } : MethodName) ({ cls := "TrustChain", name := "certificate", desc := "(IZ)I" } : MethodName)) ∈ tb := tb_in (tm_2 (List.mem_of_getElem? (i := 48) rfl)) rfl
theorem q2_49 : (Cond.code ({ cls := "TrustChain", name := "certificate", desc := "(IZ)I" } : MethodName) prog_1_method_3_code (5 : Nat) (some FieldType.int)) ∈ tb := tb_in (tm_2 (List.mem_of_getElem? (i := 49) rfl)) rfl
theorem q2_50 : (Cond.methodLink "TrustChain" (85 : Nat) ({ cls := "TrustChain", name := "isFed", desc := "(I)Z" } : MethodName)) ∈ tb := tb_in (tm_2 (List.mem_of_getElem? (i := 50) rfl)) rfl
theorem q2_51 : (Cond.privateMethod ({ cls := "TrustChain", name := "isFed", desc := "(I)Z" } : MethodName)) ∈ lw_tbl := tm_2 (List.mem_of_getElem? (i := 51) rfl)
theorem q2_52 : (Cond.instanceMethod ({ cls := "TrustChain", name := "isFed", desc := "(I)Z" } : MethodName)) ∈ tb := tb_in (tm_2 (List.mem_of_getElem? (i := 52) rfl)) rfl
theorem q2_53 : (Cond.code ({ cls := "TrustChain", name := "isFed", desc := "(I)Z" } : MethodName) prog_1_method_17_code (2 : Nat) (some FieldType.boolean)) ∈ tb := tb_in (tm_2 (List.mem_of_getElem? (i := 53) rfl)) rfl
theorem q2_54 : (Cond.methodLink "TrustChain" (89 : Nat) ({ cls := "java/util/ArrayList", name := "size", desc := "()I" } : MethodName)) ∈ tb := tb_in (tm_2 (List.mem_of_getElem? (i := 54) rfl)) rfl
theorem q2_55 : (Cond.instanceMethod ({ cls := "java/util/ArrayList", name := "size", desc := "()I" } : MethodName)) ∈ tb := tb_in (tm_2 (List.mem_of_getElem? (i := 55) rfl)) rfl
theorem q2_56 : (Cond.selects "java/util/ArrayList" ({ cls := "java/util/ArrayList", name := "size", desc := "()I" } : MethodName) ({ cls := "java/util/ArrayList", name := "size", desc := "()I" } : MethodName)) ∈ tb := tb_in (tm_2 (List.mem_of_getElem? (i := 56) rfl)) rfl
theorem q2_57 : (Cond.code ({ cls := "java/util/ArrayList", name := "size", desc := "()I" } : MethodName) prog_33_method_8_code (1 : Nat) (some FieldType.int)) ∈ tb := tb_in (tm_2 (List.mem_of_getElem? (i := 57) rfl)) rfl
theorem q2_58 : (Cond.stringRef "TrustChain" (93 : Nat) "no such text, or no room") ∈ lw_tbl := tm_2 (List.mem_of_getElem? (i := 58) rfl)
theorem q2_59 : (Cond.classLink "TrustChain" (95 : Nat) "TrustChain$CertificateReader") ∈ tb := tb_in (tm_2 (List.mem_of_getElem? (i := 59) rfl)) rfl
theorem q2_60 : (Cond.instantiable "TrustChain$CertificateReader" (10 : Nat)) ∈ tb := tb_in (tm_2 (List.mem_of_getElem? (i := 60) rfl)) rfl
theorem q2_61 : (Cond.methodLink "TrustChain" (97 : Nat) ({ cls := "TrustChain", name := "takeText", desc := "(I)[B" } : MethodName)) ∈ tb := tb_in (tm_2 (List.mem_of_getElem? (i := 61) rfl)) rfl
theorem q2_62 : (Cond.privateMethod ({ cls := "TrustChain", name := "takeText", desc := "(I)[B" } : MethodName)) ∈ lw_tbl := tm_2 (List.mem_of_getElem? (i := 62) rfl)
theorem q2_63 : (Cond.instanceMethod ({ cls := "TrustChain", name := "takeText", desc := "(I)[B" } : MethodName)) ∈ tb := tb_in (tm_2 (List.mem_of_getElem? (i := 63) rfl)) rfl
theorem q2_64 : (Cond.code ({ cls := "TrustChain", name := "takeText", desc := "(I)[B" } : MethodName) prog_1_method_18_code (2 : Nat) (some (FieldType.array FieldType.byte))) ∈ tb := tb_in (tm_2 (List.mem_of_getElem? (i := 64) rfl)) rfl
theorem q2_65 : (Cond.methodLink "TrustChain" (248 : Nat) ({ cls := "java/util/Arrays", name := "copyOf", desc := "([BI)[B" } : MethodName)) ∈ tb := tb_in (tm_2 (List.mem_of_getElem? (i := 65) rfl)) rfl
theorem q2_66 : (Cond.static ({ cls := "java/util/Arrays", name := "copyOf", desc := "([BI)[B" } : MethodName)) ∈ tb := tb_in (tm_2 (List.mem_of_getElem? (i := 66) rfl)) rfl
theorem q2_67 : (Cond.code ({ cls := "java/util/Arrays", name := "copyOf", desc := "([BI)[B" } : MethodName) prog_34_method_121_code (3 : Nat) (some (FieldType.array FieldType.byte))) ∈ tb := tb_in (tm_2 (List.mem_of_getElem? (i := 67) rfl)) rfl
theorem q2_68 : (Cond.methodLink "java/util/Arrays" (310 : Nat) ({ cls := "[B", name := "clone", desc := "()Ljava/lang/Object;" } : MethodName)) ∈ tb := tb_in (tm_2 (List.mem_of_getElem? (i := 68) rfl)) rfl
theorem q2_69 : (Cond.sameMethod "[B" "java/lang/Object" "clone" "()Ljava/lang/Object;") ∈ tb := tb_in (tm_2 (List.mem_of_getElem? (i := 69) rfl)) rfl
theorem q2_70 : (Cond.native ({ cls := "java/lang/Object", name := "clone", desc := "()Ljava/lang/Object;" } : MethodName)) ∈ tb := tb_in (tm_2 (List.mem_of_getElem? (i := 70) rfl)) rfl
theorem q2_71 : (Cond.instanceMethod ({ cls := "java/lang/Object", name := "clone", desc := "()Ljava/lang/Object;" } : MethodName)) ∈ tb := tb_in (tm_2 (List.mem_of_getElem? (i := 71) rfl)) rfl
theorem q2_72 : (Cond.selects "[B" ({ cls := "[B", name := "clone", desc := "()Ljava/lang/Object;" } : MethodName) ({ cls := "java/lang/Object", name := "clone", desc := "()Ljava/lang/Object;" } : MethodName)) ∈ tb := tb_in (tm_2 (List.mem_of_getElem? (i := 72) rfl)) rfl
theorem q2_73 : (Cond.castable "[B" "java/lang/Cloneable") ∈ lw_tbl := tm_2 (List.mem_of_getElem? (i := 73) rfl)
theorem q2_74 : (Cond.classLink "java/util/Arrays" (311 : Nat) "[B") ∈ tb := tb_in (tm_2 (List.mem_of_getElem? (i := 74) rfl)) rfl
theorem q2_75 : (Cond.methodLink "java/util/Arrays" (304 : Nat) ({ cls := "java/lang/Math", name := "min", desc := "(II)I" } : MethodName)) ∈ tb := tb_in (tm_2 (List.mem_of_getElem? (i := 75) rfl)) rfl
theorem q2_76 : (Cond.static ({ cls := "java/lang/Math", name := "min", desc := "(II)I" } : MethodName)) ∈ tb := tb_in (tm_2 (List.mem_of_getElem? (i := 76) rfl)) rfl
theorem q2_77 : (Cond.code ({ cls := "java/lang/Math", name := "min", desc := "(II)I" } : MethodName) prog_24_method_69_code (2 : Nat) (some FieldType.int)) ∈ tb := tb_in (tm_2 (List.mem_of_getElem? (i := 77) rfl)) rfl
theorem q2_78 : (Cond.methodLink "java/util/Arrays" (150 : Nat) ({ cls := "java/lang/System", name := "arraycopy", desc := "(Ljava/lang/Object;ILjava/lang/Object;II)V" } : MethodName)) ∈ tb := tb_in (tm_2 (List.mem_of_getElem? (i := 78) rfl)) rfl
theorem q2_79 : (Cond.static ({ cls := "java/lang/System", name := "arraycopy", desc := "(Ljava/lang/Object;ILjava/lang/Object;II)V" } : MethodName)) ∈ tb := tb_in (tm_2 (List.mem_of_getElem? (i := 79) rfl)) rfl
theorem q2_80 : (Cond.native ({ cls := "java/lang/System", name := "arraycopy", desc := "(Ljava/lang/Object;ILjava/lang/Object;II)V" } : MethodName)) ∈ tb := tb_in (tm_2 (List.mem_of_getElem? (i := 80) rfl)) rfl
theorem q2_81 : (Cond.methodLink "TrustChain" (101 : Nat) ({ cls := "TrustChain$CertificateReader", name := "<init>", desc := "([B)V" } : MethodName)) ∈ tb := tb_in (tm_2 (List.mem_of_getElem? (i := 81) rfl)) rfl
theorem q2_82 : (Cond.instanceMethod ({ cls := "TrustChain$CertificateReader", name := "<init>", desc := "([B)V" } : MethodName)) ∈ tb := tb_in (tm_2 (List.mem_of_getElem? (i := 82) rfl)) rfl
theorem q2_83 : (Cond.code ({ cls := "TrustChain$CertificateReader", name := "<init>", desc := "([B)V" } : MethodName) prog_3_method_1_code (2 : Nat) none) ∈ tb := tb_in (tm_2 (List.mem_of_getElem? (i := 83) rfl)) rfl
theorem q2_84 : (Cond.methodLink "TrustChain$CertificateReader" (3 : Nat) ({ cls := "TrustChain$Reader", name := "<init>", desc := "([B)V" } : MethodName)) ∈ tb := tb_in (tm_2 (List.mem_of_getElem? (i := 84) rfl)) rfl
theorem q2_85 : (Cond.instanceMethod ({ cls := "TrustChain$Reader", name := "<init>", desc := "([B)V" } : MethodName)) ∈ tb := tb_in (tm_2 (List.mem_of_getElem? (i := 85) rfl)) rfl
theorem q2_86 : (Cond.code ({ cls := "TrustChain$Reader", name := "<init>", desc := "([B)V" } : MethodName) prog_8_method_1_code (2 : Nat) none) ∈ tb := tb_in (tm_2 (List.mem_of_getElem? (i := 86) rfl)) rfl
theorem q2_87 : (Cond.methodLink "TrustChain$Reader" (3 : Nat) ({ cls := "java/lang/Object", name := "<init>", desc := "()V" } : MethodName)) ∈ tb := tb_in (tm_2 (List.mem_of_getElem? (i := 87) rfl)) rfl
theorem q2_88 : (Cond.classLink "TrustChain$Reader" (30 : Nat) "java/util/ArrayList") ∈ tb := tb_in (tm_2 (List.mem_of_getElem? (i := 88) rfl)) rfl
theorem q2_89 : (Cond.methodLink "TrustChain$Reader" (32 : Nat) ({ cls := "java/util/ArrayList", name := "<init>", desc := "()V" } : MethodName)) ∈ tb := tb_in (tm_2 (List.mem_of_getElem? (i := 89) rfl)) rfl
theorem q2_90 : (Cond.classLink "TrustChain$Reader" (41 : Nat) "TrustChain$Slice") ∈ tb := tb_in (tm_2 (List.mem_of_getElem? (i := 90) rfl)) rfl
theorem q2_91 : (Cond.instantiable "TrustChain$Slice" (3 : Nat)) ∈ tb := tb_in (tm_2 (List.mem_of_getElem? (i := 91) rfl)) rfl
theorem q2_92 : (Cond.methodLink "TrustChain$Reader" (43 : Nat) ({ cls := "TrustChain$Slice", name := "<init>", desc := "([BII)V" } : MethodName)) ∈ tb := tb_in (tm_2 (List.mem_of_getElem? (i := 92) rfl)) rfl
theorem q2_93 : (Cond.instanceMethod ({ cls := "TrustChain$Slice", name := "<init>", desc := "([BII)V" } : MethodName)) ∈ tb := tb_in (tm_2 (List.mem_of_getElem? (i := 93) rfl)) rfl
theorem q2_94 : (Cond.code ({ cls := "TrustChain$Slice", name := "<init>", desc := "([BII)V" } : MethodName) prog_12_method_1_code (4 : Nat) none) ∈ tb := tb_in (tm_2 (List.mem_of_getElem? (i := 94) rfl)) rfl
theorem q2_95 : (Cond.methodLink "TrustChain$Slice" (3 : Nat) ({ cls := "java/lang/Object", name := "<init>", desc := "()V" } : MethodName)) ∈ tb := tb_in (tm_2 (List.mem_of_getElem? (i := 95) rfl)) rfl
theorem q2_96 : (Cond.fieldLink "TrustChain$Slice" (9 : Nat) "TrustChain$Slice" "text" "[B") ∈ tb := tb_in (tm_2 (List.mem_of_getElem? (i := 96) rfl)) rfl
theorem q2_97 : (Cond.fieldLink "TrustChain$Slice" (15 : Nat) "TrustChain$Slice" "from" "I") ∈ tb := tb_in (tm_2 (List.mem_of_getElem? (i := 97) rfl)) rfl
theorem q2_98 : (Cond.fieldLinkNest "TrustChain$CertificateReader" (150 : Nat) "TrustChain$Slice" "from" "I" "TrustChain") ∈ lw_tbl := tm_2 (List.mem_of_getElem? (i := 98) rfl)
theorem q2_99 : (Cond.fieldLink "TrustChain$Slice" (19 : Nat) "TrustChain$Slice" "to" "I") ∈ tb := tb_in (tm_2 (List.mem_of_getElem? (i := 99) rfl)) rfl
theorem q2_100 : (Cond.fieldLinkNest "TrustChain$CertificateReader" (153 : Nat) "TrustChain$Slice" "to" "I" "TrustChain") ∈ lw_tbl := tm_2 (List.mem_of_getElem? (i := 100) rfl)
theorem q2_101 : (Cond.laysFinal "TrustChain$Slice" "TrustChain$Slice" "text" "[B") ∈ tb := tb_in (tm_2 (List.mem_of_getElem? (i := 101) rfl)) rfl
theorem q2_102 : (Cond.soleField "TrustChain$Slice" "text") ∈ tb := tb_in (tm_2 (List.mem_of_getElem? (i := 102) rfl)) rfl
theorem q2_103 : (Cond.laysFinal "TrustChain$Slice" "TrustChain$Slice" "from" "I") ∈ tb := tb_in (tm_2 (List.mem_of_getElem? (i := 103) rfl)) rfl
theorem q2_104 : (Cond.soleField "TrustChain$Slice" "from") ∈ tb := tb_in (tm_2 (List.mem_of_getElem? (i := 104) rfl)) rfl
theorem q2_105 : (Cond.laysFinal "TrustChain$Slice" "TrustChain$Slice" "to" "I") ∈ tb := tb_in (tm_2 (List.mem_of_getElem? (i := 105) rfl)) rfl
theorem q2_106 : (Cond.soleField "TrustChain$Slice" "to") ∈ tb := tb_in (tm_2 (List.mem_of_getElem? (i := 106) rfl)) rfl
theorem q2_107 : (Cond.superclass "TrustChain$Slice" "java/lang/Object") ∈ tb := tb_in (tm_2 (List.mem_of_getElem? (i := 107) rfl)) rfl
theorem q2_108 : (Cond.classLink "TrustChain$CertificateReader" (9 : Nat) "TrustChain$Certificate") ∈ tb := tb_in (tm_2 (List.mem_of_getElem? (i := 108) rfl)) rfl
theorem q2_109 : (Cond.instantiable "TrustChain$Certificate" (28 : Nat)) ∈ tb := tb_in (tm_2 (List.mem_of_getElem? (i := 109) rfl)) rfl
theorem q2_110 : (Cond.methodLink "TrustChain$CertificateReader" (17 : Nat) ({ cls := "TrustChain$Certificate", name := "<init>", desc := "(LTrustChain$Slice;)V" } : MethodName)) ∈ tb := tb_in (tm_2 (List.mem_of_getElem? (i := 110) rfl)) rfl
theorem q2_111 : (Cond.instanceMethod ({ cls := "TrustChain$Certificate", name := "<init>", desc := "(LTrustChain$Slice;)V" } : MethodName)) ∈ tb := tb_in (tm_2 (List.mem_of_getElem? (i := 111) rfl)) rfl
theorem q2_112 : (Cond.code ({ cls := "TrustChain$Certificate", name := "<init>", desc := "(LTrustChain$Slice;)V" } : MethodName) prog_2_method_1_code (2 : Nat) none) ∈ tb := tb_in (tm_2 (List.mem_of_getElem? (i := 112) rfl)) rfl
theorem q2_113 : (Cond.methodLink "TrustChain$Certificate" (3 : Nat) ({ cls := "TrustChain$Paper", name := "<init>", desc := "(LTrustChain$Slice;)V" } : MethodName)) ∈ tb := tb_in (tm_2 (List.mem_of_getElem? (i := 113) rfl)) rfl
theorem q2_114 : (Cond.instanceMethod ({ cls := "TrustChain$Paper", name := "<init>", desc := "(LTrustChain$Slice;)V" } : MethodName)) ∈ tb := tb_in (tm_2 (List.mem_of_getElem? (i := 114) rfl)) rfl
theorem q2_115 : (Cond.code ({ cls := "TrustChain$Paper", name := "<init>", desc := "(LTrustChain$Slice;)V" } : MethodName) prog_6_method_1_code (2 : Nat) none) ∈ tb := tb_in (tm_2 (List.mem_of_getElem? (i := 115) rfl)) rfl
theorem q2_116 : (Cond.methodLink "TrustChain$Paper" (3 : Nat) ({ cls := "java/lang/Object", name := "<init>", desc := "()V" } : MethodName)) ∈ tb := tb_in (tm_2 (List.mem_of_getElem? (i := 116) rfl)) rfl
theorem q2_117 : (Cond.classLink "TrustChain$Paper" (18 : Nat) "java/util/ArrayList") ∈ tb := tb_in (tm_2 (List.mem_of_getElem? (i := 117) rfl)) rfl
theorem q2_118 : (Cond.methodLink "TrustChain$Paper" (20 : Nat) ({ cls := "java/util/ArrayList", name := "<init>", desc := "()V" } : MethodName)) ∈ tb := tb_in (tm_2 (List.mem_of_getElem? (i := 118) rfl)) rfl
theorem q2_119 : (Cond.classLink "TrustChain$Certificate" (9 : Nat) "TrustChain$NameSet") ∈ tb := tb_in (tm_2 (List.mem_of_getElem? (i := 119) rfl)) rfl
theorem q2_120 : (Cond.instantiable "TrustChain$NameSet" (2 : Nat)) ∈ tb := tb_in (tm_2 (List.mem_of_getElem? (i := 120) rfl)) rfl
theorem q2_121 : (Cond.methodLinkNest "TrustChain$Certificate" (11 : Nat) ({ cls := "TrustChain$NameSet", name := "<init>", desc := "()V" } : MethodName) "TrustChain") ∈ lw_tbl := tm_2 (List.mem_of_getElem? (i := 121) rfl)
theorem q2_122 : (Cond.instanceMethod ({ cls := "TrustChain$NameSet", name := "<init>", desc := "()V" } : MethodName)) ∈ tb := tb_in (tm_2 (List.mem_of_getElem? (i := 122) rfl)) rfl
theorem q2_123 : (Cond.code ({ cls := "TrustChain$NameSet", name := "<init>", desc := "()V" } : MethodName) prog_5_method_1_code (1 : Nat) none) ∈ tb := tb_in (tm_2 (List.mem_of_getElem? (i := 123) rfl)) rfl
theorem q2_124 : (Cond.methodLink "TrustChain$NameSet" (3 : Nat) ({ cls := "java/lang/Object", name := "<init>", desc := "()V" } : MethodName)) ∈ tb := tb_in (tm_2 (List.mem_of_getElem? (i := 124) rfl)) rfl
theorem q2_125 : (Cond.classLink "TrustChain$NameSet" (9 : Nat) "java/util/ArrayList") ∈ tb := tb_in (tm_2 (List.mem_of_getElem? (i := 125) rfl)) rfl
theorem q2_126 : (Cond.methodLink "TrustChain$NameSet" (11 : Nat) ({ cls := "java/util/ArrayList", name := "<init>", desc := "()V" } : MethodName)) ∈ tb := tb_in (tm_2 (List.mem_of_getElem? (i := 126) rfl)) rfl
theorem q2_127 : (Cond.fieldLink "TrustChain$NameSet" (12 : Nat) "TrustChain$NameSet" "dns" "Ljava/util/ArrayList;") ∈ tb := tb_in (tm_2 (List.mem_of_getElem? (i := 127) rfl)) rfl
theorem q2_128 : (Cond.fieldLinkNest "TrustChain$Certificate" (103 : Nat) "TrustChain$NameSet" "dns" "Ljava/util/ArrayList;" "TrustChain") ∈ lw_tbl := tm_2 (List.mem_of_getElem? (i := 128) rfl)
theorem q2_129 : (Cond.fieldLinkNest "TrustChain$PathCheck" (120 : Nat) "TrustChain$NameSet" "dns" "Ljava/util/ArrayList;" "TrustChain") ∈ lw_tbl := tm_2 (List.mem_of_getElem? (i := 129) rfl)
theorem q2_130 : (Cond.fieldLinkNest "TrustChain$CertificateReader" (241 : Nat) "TrustChain$NameSet" "dns" "Ljava/util/ArrayList;" "TrustChain") ∈ lw_tbl := tm_2 (List.mem_of_getElem? (i := 130) rfl)
theorem q2_131 : (Cond.fieldLink "TrustChain$NameSet" (18 : Nat) "TrustChain$NameSet" "directories" "Ljava/util/ArrayList;") ∈ tb := tb_in (tm_2 (List.mem_of_getElem? (i := 131) rfl)) rfl
theorem q2_132 : (Cond.fieldLinkNest "TrustChain$Certificate" (90 : Nat) "TrustChain$NameSet" "directories" "Ljava/util/ArrayList;" "TrustChain") ∈ lw_tbl := tm_2 (List.mem_of_getElem? (i := 132) rfl)
theorem q2_133 : (Cond.fieldLinkNest "TrustChain$PathCheck" (114 : Nat) "TrustChain$NameSet" "directories" "Ljava/util/ArrayList;" "TrustChain") ∈ lw_tbl := tm_2 (List.mem_of_getElem? (i := 133) rfl)
theorem q2_134 : (Cond.fieldLinkNest "TrustChain$CertificateReader" (226 : Nat) "TrustChain$NameSet" "directories" "Ljava/util/ArrayList;" "TrustChain") ∈ lw_tbl := tm_2 (List.mem_of_getElem? (i := 134) rfl)
theorem q2_135 : (Cond.laysFinal "TrustChain$NameSet" "TrustChain$NameSet" "dns" "Ljava/util/ArrayList;") ∈ tb := tb_in (tm_2 (List.mem_of_getElem? (i := 135) rfl)) rfl
theorem q2_136 : (Cond.soleField "TrustChain$NameSet" "dns") ∈ tb := tb_in (tm_2 (List.mem_of_getElem? (i := 136) rfl)) rfl
theorem q2_137 : (Cond.laysFinal "TrustChain$NameSet" "TrustChain$NameSet" "directories" "Ljava/util/ArrayList;") ∈ tb := tb_in (tm_2 (List.mem_of_getElem? (i := 137) rfl)) rfl
theorem q2_138 : (Cond.soleField "TrustChain$NameSet" "directories") ∈ tb := tb_in (tm_2 (List.mem_of_getElem? (i := 138) rfl)) rfl
theorem q2_139 : (Cond.superclass "TrustChain$NameSet" "java/lang/Object") ∈ tb := tb_in (tm_2 (List.mem_of_getElem? (i := 139) rfl)) rfl
theorem q2_140 : (Cond.fieldLink "TrustChain$Certificate" (14 : Nat) "TrustChain$Certificate" "names" "LTrustChain$NameSet;") ∈ tb := tb_in (tm_2 (List.mem_of_getElem? (i := 140) rfl)) rfl
theorem q2_141 : (Cond.fieldLink "TrustChain$PathCheck" (110 : Nat) "TrustChain$Certificate" "names" "LTrustChain$NameSet;") ∈ tb := tb_in (tm_2 (List.mem_of_getElem? (i := 141) rfl)) rfl
theorem q2_142 : (Cond.fieldLink "TrustChain$CertificateReader" (223 : Nat) "TrustChain$Certificate" "names" "LTrustChain$NameSet;") ∈ tb := tb_in (tm_2 (List.mem_of_getElem? (i := 142) rfl)) rfl
theorem q2_143 : (Cond.fieldLink "TrustChain" (233 : Nat) "TrustChain$Certificate" "names" "LTrustChain$NameSet;") ∈ tb := tb_in (tm_2 (List.mem_of_getElem? (i := 143) rfl)) rfl
theorem q2_144 : (Cond.fieldLink "TrustChain$Certificate" (20 : Nat) "TrustChain$Certificate" "permitted" "LTrustChain$NameSet;") ∈ tb := tb_in (tm_2 (List.mem_of_getElem? (i := 144) rfl)) rfl
theorem q2_145 : (Cond.fieldLink "TrustChain$CertificateReader" (182 : Nat) "TrustChain$Certificate" "permitted" "LTrustChain$NameSet;") ∈ tb := tb_in (tm_2 (List.mem_of_getElem? (i := 145) rfl)) rfl
theorem q2_146 : (Cond.fieldLink "TrustChain$Certificate" (23 : Nat) "TrustChain$Certificate" "excluded" "LTrustChain$NameSet;") ∈ tb := tb_in (tm_2 (List.mem_of_getElem? (i := 146) rfl)) rfl
theorem q2_147 : (Cond.fieldLink "TrustChain$CertificateReader" (194 : Nat) "TrustChain$Certificate" "excluded" "LTrustChain$NameSet;") ∈ tb := tb_in (tm_2 (List.mem_of_getElem? (i := 147) rfl)) rfl
theorem q2_148 : (Cond.fieldLink "TrustChain$Certificate" (61 : Nat) "TrustChain$Certificate" "serial" "LTrustChain$Slice;") ∈ tb := tb_in (tm_2 (List.mem_of_getElem? (i := 148) rfl)) rfl
theorem q2_149 : (Cond.fieldLink "TrustChain$CertificateReader" (90 : Nat) "TrustChain$Certificate" "serial" "LTrustChain$Slice;") ∈ tb := tb_in (tm_2 (List.mem_of_getElem? (i := 149) rfl)) rfl
theorem q2_150 : (Cond.fieldLink "TrustChain$PathCheck" (95 : Nat) "TrustChain$Certificate" "serial" "LTrustChain$Slice;") ∈ tb := tb_in (tm_2 (List.mem_of_getElem? (i := 150) rfl)) rfl
theorem q2_151 : (Cond.fieldLink "TrustChain$Certificate" (65 : Nat) "TrustChain$Certificate" "subject" "LTrustChain$Slice;") ∈ tb := tb_in (tm_2 (List.mem_of_getElem? (i := 151) rfl)) rfl
theorem q2_152 : (Cond.fieldLink "TrustChain$CertificateReader" (116 : Nat) "TrustChain$Certificate" "subject" "LTrustChain$Slice;") ∈ tb := tb_in (tm_2 (List.mem_of_getElem? (i := 152) rfl)) rfl
theorem q2_153 : (Cond.fieldLink "TrustChain$PathCheck" (104 : Nat) "TrustChain$Certificate" "subject" "LTrustChain$Slice;") ∈ tb := tb_in (tm_2 (List.mem_of_getElem? (i := 153) rfl)) rfl
theorem q2_154 : (Cond.fieldLink "TrustChain$Certificate" (68 : Nat) "TrustChain$Certificate" "modulus" "LTrustChain$Slice;") ∈ tb := tb_in (tm_2 (List.mem_of_getElem? (i := 154) rfl)) rfl
theorem q2_155 : (Cond.fieldLink "TrustChain$Rsa" (53 : Nat) "TrustChain$Certificate" "modulus" "LTrustChain$Slice;") ∈ tb := tb_in (tm_2 (List.mem_of_getElem? (i := 155) rfl)) rfl
theorem q2_156 : (Cond.fieldLink "TrustChain$CertificateReader" (160 : Nat) "TrustChain$Certificate" "modulus" "LTrustChain$Slice;") ∈ tb := tb_in (tm_2 (List.mem_of_getElem? (i := 156) rfl)) rfl
theorem q2_157 : (Cond.fieldLink "TrustChain$Certificate" (71 : Nat) "TrustChain$Certificate" "ownKey" "LTrustChain$Slice;") ∈ tb := tb_in (tm_2 (List.mem_of_getElem? (i := 157) rfl)) rfl
theorem q2_158 : (Cond.fieldLink "TrustChain$CertificateReader" (170 : Nat) "TrustChain$Certificate" "ownKey" "LTrustChain$Slice;") ∈ tb := tb_in (tm_2 (List.mem_of_getElem? (i := 158) rfl)) rfl
theorem q2_159 : (Cond.fieldLink "TrustChain$Certificate" (74 : Nat) "TrustChain$Certificate" "issuerKey" "LTrustChain$Slice;") ∈ tb := tb_in (tm_2 (List.mem_of_getElem? (i := 159) rfl)) rfl
theorem q2_160 : (Cond.fieldLink "TrustChain$CertificateReader" (200 : Nat) "TrustChain$Certificate" "issuerKey" "LTrustChain$Slice;") ∈ tb := tb_in (tm_2 (List.mem_of_getElem? (i := 160) rfl)) rfl
theorem q2_161 : (Cond.fieldLink "TrustChain$Certificate" (26 : Nat) "TrustChain$Certificate" "subjectParts" "I") ∈ tb := tb_in (tm_2 (List.mem_of_getElem? (i := 161) rfl)) rfl
theorem q2_162 : (Cond.fieldLink "TrustChain$CertificateReader" (122 : Nat) "TrustChain$Certificate" "subjectParts" "I") ∈ tb := tb_in (tm_2 (List.mem_of_getElem? (i := 162) rfl)) rfl
theorem q2_163 : (Cond.fieldLink "TrustChain$PathCheck" (101 : Nat) "TrustChain$Certificate" "subjectParts" "I") ∈ tb := tb_in (tm_2 (List.mem_of_getElem? (i := 163) rfl)) rfl
theorem q2_164 : (Cond.fieldLink "TrustChain$Certificate" (30 : Nat) "TrustChain$Certificate" "modulusBits" "I") ∈ tb := tb_in (tm_2 (List.mem_of_getElem? (i := 164) rfl)) rfl
theorem q2_165 : (Cond.fieldLink "TrustChain$Rsa" (73 : Nat) "TrustChain$Certificate" "modulusBits" "I") ∈ tb := tb_in (tm_2 (List.mem_of_getElem? (i := 165) rfl)) rfl
theorem q2_166 : (Cond.fieldLink "TrustChain$CertificateReader" (163 : Nat) "TrustChain$Certificate" "modulusBits" "I") ∈ tb := tb_in (tm_2 (List.mem_of_getElem? (i := 166) rfl)) rfl
theorem q2_167 : (Cond.fieldLink "TrustChain$Certificate" (33 : Nat) "TrustChain$Certificate" "exponent" "I") ∈ tb := tb_in (tm_2 (List.mem_of_getElem? (i := 167) rfl)) rfl
theorem q2_168 : (Cond.fieldLink "TrustChain$Rsa" (84 : Nat) "TrustChain$Certificate" "exponent" "I") ∈ tb := tb_in (tm_2 (List.mem_of_getElem? (i := 168) rfl)) rfl
theorem q2_169 : (Cond.fieldLink "TrustChain$CertificateReader" (144 : Nat) "TrustChain$Certificate" "exponent" "I") ∈ tb := tb_in (tm_2 (List.mem_of_getElem? (i := 169) rfl)) rfl
theorem q2_170 : (Cond.fieldLink "TrustChain$Certificate" (36 : Nat) "TrustChain$Certificate" "ca" "Z") ∈ tb := tb_in (tm_2 (List.mem_of_getElem? (i := 170) rfl)) rfl
theorem q2_171 : (Cond.fieldLink "TrustChain$PathCheck" (70 : Nat) "TrustChain$Certificate" "ca" "Z") ∈ tb := tb_in (tm_2 (List.mem_of_getElem? (i := 171) rfl)) rfl
theorem q2_172 : (Cond.fieldLink "TrustChain$CertificateReader" (205 : Nat) "TrustChain$Certificate" "ca" "Z") ∈ tb := tb_in (tm_2 (List.mem_of_getElem? (i := 172) rfl)) rfl
theorem q2_173 : (Cond.fieldLink "TrustChain$Certificate" (40 : Nat) "TrustChain$Certificate" "pathLength" "I") ∈ tb := tb_in (tm_2 (List.mem_of_getElem? (i := 173) rfl)) rfl
theorem q2_174 : (Cond.fieldLink "TrustChain$CertificateReader" (210 : Nat) "TrustChain$Certificate" "pathLength" "I") ∈ tb := tb_in (tm_2 (List.mem_of_getElem? (i := 174) rfl)) rfl
theorem q2_175 : (Cond.fieldLink "TrustChain$PathCheck" (126 : Nat) "TrustChain$Certificate" "pathLength" "I") ∈ tb := tb_in (tm_2 (List.mem_of_getElem? (i := 175) rfl)) rfl
theorem q2_176 : (Cond.fieldLink "TrustChain$Certificate" (43 : Nat) "TrustChain$Certificate" "usage" "I") ∈ tb := tb_in (tm_2 (List.mem_of_getElem? (i := 176) rfl)) rfl
theorem q2_177 : (Cond.fieldLink "TrustChain$CertificateReader" (220 : Nat) "TrustChain$Certificate" "usage" "I") ∈ tb := tb_in (tm_2 (List.mem_of_getElem? (i := 177) rfl)) rfl
theorem q2_178 : (Cond.fieldLink "TrustChain$Certificate" (46 : Nat) "TrustChain$Certificate" "extensions" "I") ∈ tb := tb_in (tm_2 (List.mem_of_getElem? (i := 178) rfl)) rfl
theorem q2_179 : (Cond.fieldLink "TrustChain$CertificateReader" (64 : Nat) "TrustChain$Certificate" "extensions" "I") ∈ tb := tb_in (tm_2 (List.mem_of_getElem? (i := 179) rfl)) rfl
theorem q2_180 : (Cond.fieldLink "TrustChain$Certificate" (49 : Nat) "TrustChain$Certificate" "selfIssued" "Z") ∈ tb := tb_in (tm_2 (List.mem_of_getElem? (i := 180) rfl)) rfl
theorem q2_181 : (Cond.fieldLink "TrustChain$CertificateReader" (129 : Nat) "TrustChain$Certificate" "selfIssued" "Z") ∈ tb := tb_in (tm_2 (List.mem_of_getElem? (i := 181) rfl)) rfl
theorem q2_182 : (Cond.fieldLink "TrustChain$PathCheck" (56 : Nat) "TrustChain$Certificate" "selfIssued" "Z") ∈ tb := tb_in (tm_2 (List.mem_of_getElem? (i := 182) rfl)) rfl
theorem q2_183 : (Cond.fieldLink "TrustChain$Certificate" (52 : Nat) "TrustChain$Certificate" "trusted" "Z") ∈ tb := tb_in (tm_2 (List.mem_of_getElem? (i := 183) rfl)) rfl
theorem q2_184 : (Cond.fieldLink "TrustChain$Search" (45 : Nat) "TrustChain$Certificate" "trusted" "Z") ∈ tb := tb_in (tm_2 (List.mem_of_getElem? (i := 184) rfl)) rfl
theorem q2_185 : (Cond.fieldLink "TrustChain" (131 : Nat) "TrustChain$Certificate" "trusted" "Z") ∈ tb := tb_in (tm_2 (List.mem_of_getElem? (i := 185) rfl)) rfl
theorem q2_186 : (Cond.fieldLink "TrustChain$Certificate" (55 : Nat) "TrustChain$Certificate" "number" "I") ∈ tb := tb_in (tm_2 (List.mem_of_getElem? (i := 186) rfl)) rfl
theorem q2_187 : (Cond.fieldLink "TrustChain$Rsa" (38 : Nat) "TrustChain$Certificate" "number" "I") ∈ tb := tb_in (tm_2 (List.mem_of_getElem? (i := 187) rfl)) rfl
theorem q2_188 : (Cond.fieldLink "TrustChain" (135 : Nat) "TrustChain$Certificate" "number" "I") ∈ tb := tb_in (tm_2 (List.mem_of_getElem? (i := 188) rfl)) rfl
theorem q2_189 : (Cond.fieldLink "TrustChain$Search" (78 : Nat) "TrustChain$Certificate" "number" "I") ∈ tb := tb_in (tm_2 (List.mem_of_getElem? (i := 189) rfl)) rfl
theorem q2_190 : (Cond.fieldLink "TrustChain$Certificate" (58 : Nat) "TrustChain$Certificate" "issuers" "I") ∈ tb := tb_in (tm_2 (List.mem_of_getElem? (i := 190) rfl)) rfl
theorem q2_191 : (Cond.fieldLink "TrustChain$Search" (84 : Nat) "TrustChain$Certificate" "issuers" "I") ∈ tb := tb_in (tm_2 (List.mem_of_getElem? (i := 191) rfl)) rfl
theorem q2_192 : (Cond.fieldLink "TrustChain" (258 : Nat) "TrustChain$Certificate" "issuers" "I") ∈ tb := tb_in (tm_2 (List.mem_of_getElem? (i := 192) rfl)) rfl
theorem q2_193 : (Cond.fieldLink "TrustChain$Paper" (9 : Nat) "TrustChain$Paper" "hash" "[I") ∈ tb := tb_in (tm_2 (List.mem_of_getElem? (i := 193) rfl)) rfl
theorem q2_194 : (Cond.fieldLink "TrustChain" (125 : Nat) "TrustChain$Certificate" "hash" "[I") ∈ tb := tb_in (tm_2 (List.mem_of_getElem? (i := 194) rfl)) rfl
theorem q2_195 : (Cond.sameField "TrustChain$Certificate" "TrustChain$Paper" "hash" "[I") ∈ tb := tb_in (tm_2 (List.mem_of_getElem? (i := 195) rfl)) rfl
theorem q2_196 : (Cond.fieldLink "TrustChain$Rsa" (93 : Nat) "TrustChain$Paper" "hash" "[I") ∈ tb := tb_in (tm_2 (List.mem_of_getElem? (i := 196) rfl)) rfl
theorem q2_197 : (Cond.fieldLink "TrustChain" (159 : Nat) "TrustChain$Paper" "hash" "[I") ∈ tb := tb_in (tm_2 (List.mem_of_getElem? (i := 197) rfl)) rfl
theorem q2_198 : (Cond.fieldLink "TrustChain$Paper" (15 : Nat) "TrustChain$Paper" "signers" "[I") ∈ tb := tb_in (tm_2 (List.mem_of_getElem? (i := 198) rfl)) rfl
theorem q2_199 : (Cond.fieldLink "TrustChain$Rsa" (43 : Nat) "TrustChain$Paper" "signers" "[I") ∈ tb := tb_in (tm_2 (List.mem_of_getElem? (i := 199) rfl)) rfl
theorem q2_200 : (Cond.fieldLink "TrustChain$Paper" (21 : Nat) "TrustChain$Paper" "entries" "Ljava/util/ArrayList;") ∈ tb := tb_in (tm_2 (List.mem_of_getElem? (i := 200) rfl)) rfl
theorem q2_201 : (Cond.fieldLink "TrustChain$ListReader" (48 : Nat) "TrustChain$Paper" "entries" "Ljava/util/ArrayList;") ∈ tb := tb_in (tm_2 (List.mem_of_getElem? (i := 201) rfl)) rfl
theorem q2_202 : (Cond.fieldLink "TrustChain" (187 : Nat) "TrustChain$Paper" "entries" "Ljava/util/ArrayList;") ∈ tb := tb_in (tm_2 (List.mem_of_getElem? (i := 202) rfl)) rfl
theorem q2_203 : (Cond.fieldLink "TrustChain$Paper" (36 : Nat) "TrustChain$Paper" "body" "LTrustChain$Slice;") ∈ tb := tb_in (tm_2 (List.mem_of_getElem? (i := 203) rfl)) rfl
theorem q2_204 : (Cond.fieldLink "TrustChain$CertificateReader" (58 : Nat) "TrustChain$Certificate" "body" "LTrustChain$Slice;") ∈ tb := tb_in (tm_2 (List.mem_of_getElem? (i := 204) rfl)) rfl
theorem q2_205 : (Cond.sameField "TrustChain$Certificate" "TrustChain$Paper" "body" "LTrustChain$Slice;") ∈ tb := tb_in (tm_2 (List.mem_of_getElem? (i := 205) rfl)) rfl
theorem q2_206 : (Cond.fieldLink "TrustChain$ListReader" (81 : Nat) "TrustChain$Paper" "body" "LTrustChain$Slice;") ∈ tb := tb_in (tm_2 (List.mem_of_getElem? (i := 206) rfl)) rfl
theorem q2_207 : (Cond.fieldLink "TrustChain" (119 : Nat) "TrustChain$Certificate" "body" "LTrustChain$Slice;") ∈ tb := tb_in (tm_2 (List.mem_of_getElem? (i := 207) rfl)) rfl
theorem q2_208 : (Cond.fieldLink "TrustChain" (156 : Nat) "TrustChain$Paper" "body" "LTrustChain$Slice;") ∈ tb := tb_in (tm_2 (List.mem_of_getElem? (i := 208) rfl)) rfl
theorem q2_209 : (Cond.fieldLink "TrustChain$Paper" (40 : Nat) "TrustChain$Paper" "signature" "LTrustChain$Slice;") ∈ tb := tb_in (tm_2 (List.mem_of_getElem? (i := 209) rfl)) rfl
theorem q2_210 : (Cond.fieldLink "TrustChain$Rsa" (62 : Nat) "TrustChain$Paper" "signature" "LTrustChain$Slice;") ∈ tb := tb_in (tm_2 (List.mem_of_getElem? (i := 210) rfl)) rfl
theorem q2_211 : (Cond.fieldLink "TrustChain$Reader" (138 : Nat) "TrustChain$Paper" "signature" "LTrustChain$Slice;") ∈ tb := tb_in (tm_2 (List.mem_of_getElem? (i := 211) rfl)) rfl
theorem q2_212 : (Cond.fieldLink "TrustChain$Paper" (43 : Nat) "TrustChain$Paper" "issuer" "LTrustChain$Slice;") ∈ tb := tb_in (tm_2 (List.mem_of_getElem? (i := 212) rfl)) rfl
theorem q2_213 : (Cond.fieldLink "TrustChain$Certificate" (83 : Nat) "TrustChain$Certificate" "issuer" "LTrustChain$Slice;") ∈ tb := tb_in (tm_2 (List.mem_of_getElem? (i := 213) rfl)) rfl
theorem q2_214 : (Cond.sameField "TrustChain$Certificate" "TrustChain$Paper" "issuer" "LTrustChain$Slice;") ∈ tb := tb_in (tm_2 (List.mem_of_getElem? (i := 214) rfl)) rfl
theorem q2_215 : (Cond.fieldLink "TrustChain$ListReader" (110 : Nat) "TrustChain$Paper" "issuer" "LTrustChain$Slice;") ∈ tb := tb_in (tm_2 (List.mem_of_getElem? (i := 215) rfl)) rfl
theorem q2_216 : (Cond.fieldLink "TrustChain$CertificateReader" (99 : Nat) "TrustChain$Certificate" "issuer" "LTrustChain$Slice;") ∈ tb := tb_in (tm_2 (List.mem_of_getElem? (i := 216) rfl)) rfl
theorem q2_217 : (Cond.fieldLink "TrustChain$PathCheck" (84 : Nat) "TrustChain$Paper" "issuer" "LTrustChain$Slice;") ∈ tb := tb_in (tm_2 (List.mem_of_getElem? (i := 217) rfl)) rfl
theorem q2_218 : (Cond.fieldLink "TrustChain$PathCheck" (88 : Nat) "TrustChain$Certificate" "issuer" "LTrustChain$Slice;") ∈ tb := tb_in (tm_2 (List.mem_of_getElem? (i := 218) rfl)) rfl
theorem q2_219 : (Cond.fieldLink "TrustChain$Paper" (25 : Nat) "TrustChain$Paper" "first" "J") ∈ tb := tb_in (tm_2 (List.mem_of_getElem? (i := 219) rfl)) rfl
theorem q2_220 : (Cond.fieldLink "TrustChain$ListReader" (113 : Nat) "TrustChain$Paper" "first" "J") ∈ tb := tb_in (tm_2 (List.mem_of_getElem? (i := 220) rfl)) rfl
theorem q2_221 : (Cond.fieldLink "TrustChain$CertificateReader" (106 : Nat) "TrustChain$Certificate" "first" "J") ∈ tb := tb_in (tm_2 (List.mem_of_getElem? (i := 221) rfl)) rfl
theorem q2_222 : (Cond.sameField "TrustChain$Certificate" "TrustChain$Paper" "first" "J") ∈ tb := tb_in (tm_2 (List.mem_of_getElem? (i := 222) rfl)) rfl
theorem q2_223 : (Cond.fieldLink "TrustChain$Certificate" (109 : Nat) "TrustChain$Certificate" "first" "J") ∈ tb := tb_in (tm_2 (List.mem_of_getElem? (i := 223) rfl)) rfl
theorem q2_224 : (Cond.fieldLink "TrustChain" (180 : Nat) "TrustChain$Paper" "first" "J") ∈ tb := tb_in (tm_2 (List.mem_of_getElem? (i := 224) rfl)) rfl
theorem q2_225 : (Cond.fieldLink "TrustChain$Paper" (29 : Nat) "TrustChain$Paper" "last" "J") ∈ tb := tb_in (tm_2 (List.mem_of_getElem? (i := 225) rfl)) rfl
theorem q2_226 : (Cond.fieldLink "TrustChain$ListReader" (117 : Nat) "TrustChain$Paper" "last" "J") ∈ tb := tb_in (tm_2 (List.mem_of_getElem? (i := 226) rfl)) rfl
theorem q2_227 : (Cond.fieldLink "TrustChain$CertificateReader" (110 : Nat) "TrustChain$Certificate" "last" "J") ∈ tb := tb_in (tm_2 (List.mem_of_getElem? (i := 227) rfl)) rfl
theorem q2_228 : (Cond.sameField "TrustChain$Certificate" "TrustChain$Paper" "last" "J") ∈ tb := tb_in (tm_2 (List.mem_of_getElem? (i := 228) rfl)) rfl
theorem q2_229 : (Cond.fieldLink "TrustChain$Certificate" (113 : Nat) "TrustChain$Certificate" "last" "J") ∈ tb := tb_in (tm_2 (List.mem_of_getElem? (i := 229) rfl)) rfl
theorem q2_230 : (Cond.fieldLink "TrustChain" (184 : Nat) "TrustChain$Paper" "last" "J") ∈ tb := tb_in (tm_2 (List.mem_of_getElem? (i := 230) rfl)) rfl
theorem q2_231 : (Cond.fieldLink "TrustChain$Paper" (32 : Nat) "TrustChain$Paper" "matters" "I") ∈ tb := tb_in (tm_2 (List.mem_of_getElem? (i := 231) rfl)) rfl
theorem q2_232 : (Cond.fieldLink "TrustChain$CertificateReader" (68 : Nat) "TrustChain$Certificate" "matters" "I") ∈ tb := tb_in (tm_2 (List.mem_of_getElem? (i := 232) rfl)) rfl
theorem q2_233 : (Cond.sameField "TrustChain$Certificate" "TrustChain$Paper" "matters" "I") ∈ tb := tb_in (tm_2 (List.mem_of_getElem? (i := 233) rfl)) rfl
theorem q2_234 : (Cond.fieldLink "TrustChain$ListReader" (87 : Nat) "TrustChain$Paper" "matters" "I") ∈ tb := tb_in (tm_2 (List.mem_of_getElem? (i := 234) rfl)) rfl
theorem q2_235 : (Cond.fieldLink "TrustChain$PathCheck" (63 : Nat) "TrustChain$Certificate" "matters" "I") ∈ tb := tb_in (tm_2 (List.mem_of_getElem? (i := 235) rfl)) rfl
theorem q2_236 : (Cond.fieldLink "TrustChain$PathCheck" (83 : Nat) "TrustChain$Paper" "matters" "I") ∈ tb := tb_in (tm_2 (List.mem_of_getElem? (i := 236) rfl)) rfl
theorem q2_237 : (Cond.fieldLink "TrustChain$Certificate" (119 : Nat) "TrustChain$Certificate" "matters" "I") ∈ tb := tb_in (tm_2 (List.mem_of_getElem? (i := 237) rfl)) rfl
theorem q2_238 : (Cond.fieldLink "TrustChain" (190 : Nat) "TrustChain$Paper" "matters" "I") ∈ tb := tb_in (tm_2 (List.mem_of_getElem? (i := 238) rfl)) rfl
theorem q2_239 : (Cond.laysFinal "TrustChain$Certificate" "TrustChain$Certificate" "names" "LTrustChain$NameSet;") ∈ tb := tb_in (tm_2 (List.mem_of_getElem? (i := 239) rfl)) rfl
theorem q3_0 : (Cond.soleField "TrustChain$Certificate" "names") ∈ tb := tb_in (tm_3 (List.mem_of_getElem? (i := 0) rfl)) rfl
theorem q3_1 : (Cond.laysFinal "TrustChain$Certificate" "TrustChain$Certificate" "permitted" "LTrustChain$NameSet;") ∈ tb := tb_in (tm_3 (List.mem_of_getElem? (i := 1) rfl)) rfl
theorem q3_2 : (Cond.soleField "TrustChain$Certificate" "permitted") ∈ tb := tb_in (tm_3 (List.mem_of_getElem? (i := 2) rfl)) rfl
theorem q3_3 : (Cond.laysFinal "TrustChain$Certificate" "TrustChain$Certificate" "excluded" "LTrustChain$NameSet;") ∈ tb := tb_in (tm_3 (List.mem_of_getElem? (i := 3) rfl)) rfl
theorem q3_4 : (Cond.soleField "TrustChain$Certificate" "excluded") ∈ tb := tb_in (tm_3 (List.mem_of_getElem? (i := 4) rfl)) rfl
theorem q3_5 : (Cond.lays "TrustChain$Certificate" "TrustChain$Certificate" "serial" "LTrustChain$Slice;") ∈ tb := tb_in (tm_3 (List.mem_of_getElem? (i := 5) rfl)) rfl
theorem q3_6 : (Cond.soleField "TrustChain$Certificate" "serial") ∈ tb := tb_in (tm_3 (List.mem_of_getElem? (i := 6) rfl)) rfl
theorem q3_7 : (Cond.lays "TrustChain$Certificate" "TrustChain$Certificate" "subject" "LTrustChain$Slice;") ∈ tb := tb_in (tm_3 (List.mem_of_getElem? (i := 7) rfl)) rfl
theorem q3_8 : (Cond.soleField "TrustChain$Certificate" "subject") ∈ tb := tb_in (tm_3 (List.mem_of_getElem? (i := 8) rfl)) rfl
theorem q3_9 : (Cond.lays "TrustChain$Certificate" "TrustChain$Certificate" "modulus" "LTrustChain$Slice;") ∈ tb := tb_in (tm_3 (List.mem_of_getElem? (i := 9) rfl)) rfl
theorem q3_10 : (Cond.soleField "TrustChain$Certificate" "modulus") ∈ tb := tb_in (tm_3 (List.mem_of_getElem? (i := 10) rfl)) rfl
theorem q3_11 : (Cond.lays "TrustChain$Certificate" "TrustChain$Certificate" "ownKey" "LTrustChain$Slice;") ∈ tb := tb_in (tm_3 (List.mem_of_getElem? (i := 11) rfl)) rfl
theorem q3_12 : (Cond.soleField "TrustChain$Certificate" "ownKey") ∈ tb := tb_in (tm_3 (List.mem_of_getElem? (i := 12) rfl)) rfl
theorem q3_13 : (Cond.lays "TrustChain$Certificate" "TrustChain$Certificate" "issuerKey" "LTrustChain$Slice;") ∈ tb := tb_in (tm_3 (List.mem_of_getElem? (i := 13) rfl)) rfl
theorem q3_14 : (Cond.soleField "TrustChain$Certificate" "issuerKey") ∈ tb := tb_in (tm_3 (List.mem_of_getElem? (i := 14) rfl)) rfl
theorem q3_15 : (Cond.lays "TrustChain$Certificate" "TrustChain$Certificate" "subjectParts" "I") ∈ tb := tb_in (tm_3 (List.mem_of_getElem? (i := 15) rfl)) rfl
theorem q3_16 : (Cond.soleField "TrustChain$Certificate" "subjectParts") ∈ tb := tb_in (tm_3 (List.mem_of_getElem? (i := 16) rfl)) rfl
theorem q3_17 : (Cond.lays "TrustChain$Certificate" "TrustChain$Certificate" "modulusBits" "I") ∈ tb := tb_in (tm_3 (List.mem_of_getElem? (i := 17) rfl)) rfl
theorem q3_18 : (Cond.soleField "TrustChain$Certificate" "modulusBits") ∈ tb := tb_in (tm_3 (List.mem_of_getElem? (i := 18) rfl)) rfl
theorem q3_19 : (Cond.lays "TrustChain$Certificate" "TrustChain$Certificate" "exponent" "I") ∈ tb := tb_in (tm_3 (List.mem_of_getElem? (i := 19) rfl)) rfl
theorem q3_20 : (Cond.soleField "TrustChain$Certificate" "exponent") ∈ tb := tb_in (tm_3 (List.mem_of_getElem? (i := 20) rfl)) rfl
theorem q3_21 : (Cond.lays "TrustChain$Certificate" "TrustChain$Certificate" "ca" "Z") ∈ tb := tb_in (tm_3 (List.mem_of_getElem? (i := 21) rfl)) rfl
theorem q3_22 : (Cond.soleField "TrustChain$Certificate" "ca") ∈ tb := tb_in (tm_3 (List.mem_of_getElem? (i := 22) rfl)) rfl
theorem q3_23 : (Cond.lays "TrustChain$Certificate" "TrustChain$Certificate" "pathLength" "I") ∈ tb := tb_in (tm_3 (List.mem_of_getElem? (i := 23) rfl)) rfl
theorem q3_24 : (Cond.soleField "TrustChain$Certificate" "pathLength") ∈ tb := tb_in (tm_3 (List.mem_of_getElem? (i := 24) rfl)) rfl
theorem q3_25 : (Cond.lays "TrustChain$Certificate" "TrustChain$Certificate" "usage" "I") ∈ tb := tb_in (tm_3 (List.mem_of_getElem? (i := 25) rfl)) rfl
theorem q3_26 : (Cond.soleField "TrustChain$Certificate" "usage") ∈ tb := tb_in (tm_3 (List.mem_of_getElem? (i := 26) rfl)) rfl
theorem q3_27 : (Cond.lays "TrustChain$Certificate" "TrustChain$Certificate" "extensions" "I") ∈ tb := tb_in (tm_3 (List.mem_of_getElem? (i := 27) rfl)) rfl
theorem q3_28 : (Cond.soleField "TrustChain$Certificate" "extensions") ∈ tb := tb_in (tm_3 (List.mem_of_getElem? (i := 28) rfl)) rfl
theorem q3_29 : (Cond.lays "TrustChain$Certificate" "TrustChain$Certificate" "selfIssued" "Z") ∈ tb := tb_in (tm_3 (List.mem_of_getElem? (i := 29) rfl)) rfl
theorem q3_30 : (Cond.soleField "TrustChain$Certificate" "selfIssued") ∈ tb := tb_in (tm_3 (List.mem_of_getElem? (i := 30) rfl)) rfl
theorem q3_31 : (Cond.lays "TrustChain$Certificate" "TrustChain$Certificate" "trusted" "Z") ∈ tb := tb_in (tm_3 (List.mem_of_getElem? (i := 31) rfl)) rfl
theorem q3_32 : (Cond.soleField "TrustChain$Certificate" "trusted") ∈ tb := tb_in (tm_3 (List.mem_of_getElem? (i := 32) rfl)) rfl
theorem q3_33 : (Cond.lays "TrustChain$Certificate" "TrustChain$Certificate" "number" "I") ∈ tb := tb_in (tm_3 (List.mem_of_getElem? (i := 33) rfl)) rfl
theorem q3_34 : (Cond.soleField "TrustChain$Certificate" "number") ∈ tb := tb_in (tm_3 (List.mem_of_getElem? (i := 34) rfl)) rfl
theorem q3_35 : (Cond.lays "TrustChain$Certificate" "TrustChain$Certificate" "issuers" "I") ∈ tb := tb_in (tm_3 (List.mem_of_getElem? (i := 35) rfl)) rfl
theorem q3_36 : (Cond.soleField "TrustChain$Certificate" "issuers") ∈ tb := tb_in (tm_3 (List.mem_of_getElem? (i := 36) rfl)) rfl
theorem q3_37 : (Cond.laysFinal "TrustChain$Certificate" "TrustChain$Paper" "hash" "[I") ∈ tb := tb_in (tm_3 (List.mem_of_getElem? (i := 37) rfl)) rfl
theorem q3_38 : (Cond.soleField "TrustChain$Paper" "hash") ∈ tb := tb_in (tm_3 (List.mem_of_getElem? (i := 38) rfl)) rfl
theorem q3_39 : (Cond.laysFinal "TrustChain$Certificate" "TrustChain$Paper" "signers" "[I") ∈ tb := tb_in (tm_3 (List.mem_of_getElem? (i := 39) rfl)) rfl
theorem q3_40 : (Cond.soleField "TrustChain$Paper" "signers") ∈ tb := tb_in (tm_3 (List.mem_of_getElem? (i := 40) rfl)) rfl
theorem q3_41 : (Cond.laysFinal "TrustChain$Certificate" "TrustChain$Paper" "entries" "Ljava/util/ArrayList;") ∈ tb := tb_in (tm_3 (List.mem_of_getElem? (i := 41) rfl)) rfl
theorem q3_42 : (Cond.soleField "TrustChain$Paper" "entries") ∈ tb := tb_in (tm_3 (List.mem_of_getElem? (i := 42) rfl)) rfl
theorem q3_43 : (Cond.lays "TrustChain$Certificate" "TrustChain$Paper" "body" "LTrustChain$Slice;") ∈ tb := tb_in (tm_3 (List.mem_of_getElem? (i := 43) rfl)) rfl
theorem q3_44 : (Cond.soleField "TrustChain$Paper" "body") ∈ tb := tb_in (tm_3 (List.mem_of_getElem? (i := 44) rfl)) rfl
theorem q3_45 : (Cond.lays "TrustChain$Certificate" "TrustChain$Paper" "signature" "LTrustChain$Slice;") ∈ tb := tb_in (tm_3 (List.mem_of_getElem? (i := 45) rfl)) rfl
theorem q3_46 : (Cond.soleField "TrustChain$Paper" "signature") ∈ tb := tb_in (tm_3 (List.mem_of_getElem? (i := 46) rfl)) rfl
theorem q3_47 : (Cond.lays "TrustChain$Certificate" "TrustChain$Paper" "issuer" "LTrustChain$Slice;") ∈ tb := tb_in (tm_3 (List.mem_of_getElem? (i := 47) rfl)) rfl
theorem q3_48 : (Cond.soleField "TrustChain$Paper" "issuer") ∈ tb := tb_in (tm_3 (List.mem_of_getElem? (i := 48) rfl)) rfl
theorem q3_49 : (Cond.lays "TrustChain$Certificate" "TrustChain$Paper" "first" "J") ∈ tb := tb_in (tm_3 (List.mem_of_getElem? (i := 49) rfl)) rfl
theorem q3_50 : (Cond.soleField "TrustChain$Paper" "first") ∈ tb := tb_in (tm_3 (List.mem_of_getElem? (i := 50) rfl)) rfl
theorem q3_51 : (Cond.lays "TrustChain$Certificate" "TrustChain$Paper" "last" "J") ∈ tb := tb_in (tm_3 (List.mem_of_getElem? (i := 51) rfl)) rfl
theorem q3_52 : (Cond.soleField "TrustChain$Paper" "last") ∈ tb := tb_in (tm_3 (List.mem_of_getElem? (i := 52) rfl)) rfl
theorem q3_53 : (Cond.lays "TrustChain$Certificate" "TrustChain$Paper" "matters" "I") ∈ tb := tb_in (tm_3 (List.mem_of_getElem? (i := 53) rfl)) rfl
theorem q3_54 : (Cond.soleField "TrustChain$Paper" "matters") ∈ tb := tb_in (tm_3 (List.mem_of_getElem? (i := 54) rfl)) rfl
theorem q3_55 : (Cond.superclass "TrustChain$Certificate" "TrustChain$Paper") ∈ tb := tb_in (tm_3 (List.mem_of_getElem? (i := 55) rfl)) rfl
theorem q3_56 : (Cond.fieldLink "TrustChain$CertificateReader" (20 : Nat) "TrustChain$CertificateReader" "result" "LTrustChain$Certificate;") ∈ tb := tb_in (tm_3 (List.mem_of_getElem? (i := 56) rfl)) rfl
theorem q3_57 : (Cond.fieldLink "TrustChain" (115 : Nat) "TrustChain$CertificateReader" "result" "LTrustChain$Certificate;") ∈ tb := tb_in (tm_3 (List.mem_of_getElem? (i := 57) rfl)) rfl
theorem q3_58 : (Cond.fieldLink "TrustChain$Reader" (37 : Nat) "TrustChain$Reader" "text" "[B") ∈ tb := tb_in (tm_3 (List.mem_of_getElem? (i := 58) rfl)) rfl
theorem q3_59 : (Cond.fieldLink "TrustChain$CertificateReader" (24 : Nat) "TrustChain$CertificateReader" "text" "[B") ∈ tb := tb_in (tm_3 (List.mem_of_getElem? (i := 59) rfl)) rfl
theorem q3_60 : (Cond.sameField "TrustChain$CertificateReader" "TrustChain$Reader" "text" "[B") ∈ tb := tb_in (tm_3 (List.mem_of_getElem? (i := 60) rfl)) rfl
theorem q3_61 : (Cond.fieldLink "TrustChain$ListReader" (28 : Nat) "TrustChain$ListReader" "text" "[B") ∈ tb := tb_in (tm_3 (List.mem_of_getElem? (i := 61) rfl)) rfl
theorem q3_62 : (Cond.sameField "TrustChain$ListReader" "TrustChain$Reader" "text" "[B") ∈ tb := tb_in (tm_3 (List.mem_of_getElem? (i := 62) rfl)) rfl
theorem q3_63 : (Cond.fieldLink "TrustChain$CertificateReader" (11 : Nat) "TrustChain$CertificateReader" "nothing" "LTrustChain$Slice;") ∈ tb := tb_in (tm_3 (List.mem_of_getElem? (i := 63) rfl)) rfl
theorem q3_64 : (Cond.sameField "TrustChain$CertificateReader" "TrustChain$Reader" "nothing" "LTrustChain$Slice;") ∈ tb := tb_in (tm_3 (List.mem_of_getElem? (i := 64) rfl)) rfl
theorem q3_65 : (Cond.fieldLink "TrustChain$ListReader" (17 : Nat) "TrustChain$ListReader" "nothing" "LTrustChain$Slice;") ∈ tb := tb_in (tm_3 (List.mem_of_getElem? (i := 65) rfl)) rfl
theorem q3_66 : (Cond.sameField "TrustChain$ListReader" "TrustChain$Reader" "nothing" "LTrustChain$Slice;") ∈ tb := tb_in (tm_3 (List.mem_of_getElem? (i := 66) rfl)) rfl
theorem q3_67 : (Cond.fieldLink "TrustChain$Reader" (46 : Nat) "TrustChain$Reader" "nothing" "LTrustChain$Slice;") ∈ tb := tb_in (tm_3 (List.mem_of_getElem? (i := 67) rfl)) rfl
theorem q3_68 : (Cond.fieldLink "TrustChain$Reader" (9 : Nat) "TrustChain$Reader" "place" "I") ∈ tb := tb_in (tm_3 (List.mem_of_getElem? (i := 68) rfl)) rfl
theorem q3_69 : (Cond.fieldLink "TrustChain$CertificateReader" (32 : Nat) "TrustChain$CertificateReader" "place" "I") ∈ tb := tb_in (tm_3 (List.mem_of_getElem? (i := 69) rfl)) rfl
theorem q3_70 : (Cond.sameField "TrustChain$CertificateReader" "TrustChain$Reader" "place" "I") ∈ tb := tb_in (tm_3 (List.mem_of_getElem? (i := 70) rfl)) rfl
theorem q3_71 : (Cond.fieldLink "TrustChain$ListReader" (36 : Nat) "TrustChain$ListReader" "place" "I") ∈ tb := tb_in (tm_3 (List.mem_of_getElem? (i := 71) rfl)) rfl
theorem q3_72 : (Cond.sameField "TrustChain$ListReader" "TrustChain$Reader" "place" "I") ∈ tb := tb_in (tm_3 (List.mem_of_getElem? (i := 72) rfl)) rfl
theorem q3_73 : (Cond.fieldLink "TrustChain$Reader" (15 : Nat) "TrustChain$Reader" "start" "I") ∈ tb := tb_in (tm_3 (List.mem_of_getElem? (i := 73) rfl)) rfl
theorem q3_74 : (Cond.fieldLink "TrustChain$Reader" (18 : Nat) "TrustChain$Reader" "wrongAt" "I") ∈ tb := tb_in (tm_3 (List.mem_of_getElem? (i := 74) rfl)) rfl
theorem q3_75 : (Cond.fieldLink "TrustChain" (107 : Nat) "TrustChain$CertificateReader" "wrongAt" "I") ∈ tb := tb_in (tm_3 (List.mem_of_getElem? (i := 75) rfl)) rfl
theorem q3_76 : (Cond.sameField "TrustChain$CertificateReader" "TrustChain$Reader" "wrongAt" "I") ∈ tb := tb_in (tm_3 (List.mem_of_getElem? (i := 76) rfl)) rfl
theorem q3_77 : (Cond.fieldLink "TrustChain" (152 : Nat) "TrustChain$ListReader" "wrongAt" "I") ∈ tb := tb_in (tm_3 (List.mem_of_getElem? (i := 77) rfl)) rfl
theorem q3_78 : (Cond.sameField "TrustChain$ListReader" "TrustChain$Reader" "wrongAt" "I") ∈ tb := tb_in (tm_3 (List.mem_of_getElem? (i := 78) rfl)) rfl
theorem q3_79 : (Cond.fieldLink "TrustChain$Reader" (21 : Nat) "TrustChain$Reader" "parts" "I") ∈ tb := tb_in (tm_3 (List.mem_of_getElem? (i := 79) rfl)) rfl
theorem q3_80 : (Cond.fieldLink "TrustChain$CertificateReader" (119 : Nat) "TrustChain$CertificateReader" "parts" "I") ∈ tb := tb_in (tm_3 (List.mem_of_getElem? (i := 80) rfl)) rfl
theorem q3_81 : (Cond.sameField "TrustChain$CertificateReader" "TrustChain$Reader" "parts" "I") ∈ tb := tb_in (tm_3 (List.mem_of_getElem? (i := 81) rfl)) rfl
theorem q3_82 : (Cond.fieldLink "TrustChain$Reader" (24 : Nat) "TrustChain$Reader" "matters" "I") ∈ tb := tb_in (tm_3 (List.mem_of_getElem? (i := 82) rfl)) rfl
theorem q3_83 : (Cond.fieldLink "TrustChain$CertificateReader" (65 : Nat) "TrustChain$CertificateReader" "matters" "I") ∈ tb := tb_in (tm_3 (List.mem_of_getElem? (i := 83) rfl)) rfl
theorem q3_84 : (Cond.sameField "TrustChain$CertificateReader" "TrustChain$Reader" "matters" "I") ∈ tb := tb_in (tm_3 (List.mem_of_getElem? (i := 84) rfl)) rfl
theorem q3_85 : (Cond.fieldLink "TrustChain$ListReader" (84 : Nat) "TrustChain$ListReader" "matters" "I") ∈ tb := tb_in (tm_3 (List.mem_of_getElem? (i := 85) rfl)) rfl
theorem q3_86 : (Cond.sameField "TrustChain$ListReader" "TrustChain$Reader" "matters" "I") ∈ tb := tb_in (tm_3 (List.mem_of_getElem? (i := 86) rfl)) rfl
theorem q3_87 : (Cond.fieldLink "TrustChain$Reader" (27 : Nat) "TrustChain$Reader" "extensions" "I") ∈ tb := tb_in (tm_3 (List.mem_of_getElem? (i := 87) rfl)) rfl
theorem q3_88 : (Cond.fieldLink "TrustChain$CertificateReader" (61 : Nat) "TrustChain$CertificateReader" "extensions" "I") ∈ tb := tb_in (tm_3 (List.mem_of_getElem? (i := 88) rfl)) rfl
theorem q3_89 : (Cond.sameField "TrustChain$CertificateReader" "TrustChain$Reader" "extensions" "I") ∈ tb := tb_in (tm_3 (List.mem_of_getElem? (i := 89) rfl)) rfl
theorem q3_90 : (Cond.fieldLink "TrustChain$Reader" (33 : Nat) "TrustChain$Reader" "kinds" "Ljava/util/ArrayList;") ∈ tb := tb_in (tm_3 (List.mem_of_getElem? (i := 90) rfl)) rfl
theorem q3_91 : (Cond.laysFinal "TrustChain$CertificateReader" "TrustChain$CertificateReader" "result" "LTrustChain$Certificate;") ∈ tb := tb_in (tm_3 (List.mem_of_getElem? (i := 91) rfl)) rfl
theorem q3_92 : (Cond.soleField "TrustChain$CertificateReader" "result") ∈ tb := tb_in (tm_3 (List.mem_of_getElem? (i := 92) rfl)) rfl
theorem q3_93 : (Cond.laysFinal "TrustChain$CertificateReader" "TrustChain$Reader" "text" "[B") ∈ tb := tb_in (tm_3 (List.mem_of_getElem? (i := 93) rfl)) rfl
theorem q3_94 : (Cond.soleField "TrustChain$Reader" "text") ∈ tb := tb_in (tm_3 (List.mem_of_getElem? (i := 94) rfl)) rfl
theorem q3_95 : (Cond.laysFinal "TrustChain$CertificateReader" "TrustChain$Reader" "nothing" "LTrustChain$Slice;") ∈ tb := tb_in (tm_3 (List.mem_of_getElem? (i := 95) rfl)) rfl
theorem q3_96 : (Cond.soleField "TrustChain$Reader" "nothing") ∈ tb := tb_in (tm_3 (List.mem_of_getElem? (i := 96) rfl)) rfl
theorem q3_97 : (Cond.lays "TrustChain$CertificateReader" "TrustChain$Reader" "place" "I") ∈ tb := tb_in (tm_3 (List.mem_of_getElem? (i := 97) rfl)) rfl
theorem q3_98 : (Cond.soleField "TrustChain$Reader" "place") ∈ tb := tb_in (tm_3 (List.mem_of_getElem? (i := 98) rfl)) rfl
theorem q3_99 : (Cond.lays "TrustChain$CertificateReader" "TrustChain$Reader" "start" "I") ∈ tb := tb_in (tm_3 (List.mem_of_getElem? (i := 99) rfl)) rfl
theorem q3_100 : (Cond.soleField "TrustChain$Reader" "start") ∈ tb := tb_in (tm_3 (List.mem_of_getElem? (i := 100) rfl)) rfl
theorem q3_101 : (Cond.lays "TrustChain$CertificateReader" "TrustChain$Reader" "wrongAt" "I") ∈ tb := tb_in (tm_3 (List.mem_of_getElem? (i := 101) rfl)) rfl
theorem q3_102 : (Cond.soleField "TrustChain$Reader" "wrongAt") ∈ tb := tb_in (tm_3 (List.mem_of_getElem? (i := 102) rfl)) rfl
theorem q3_103 : (Cond.lays "TrustChain$CertificateReader" "TrustChain$Reader" "parts" "I") ∈ tb := tb_in (tm_3 (List.mem_of_getElem? (i := 103) rfl)) rfl
theorem q3_104 : (Cond.soleField "TrustChain$Reader" "parts") ∈ tb := tb_in (tm_3 (List.mem_of_getElem? (i := 104) rfl)) rfl
theorem q3_105 : (Cond.lays "TrustChain$CertificateReader" "TrustChain$Reader" "matters" "I") ∈ tb := tb_in (tm_3 (List.mem_of_getElem? (i := 105) rfl)) rfl
theorem q3_106 : (Cond.soleField "TrustChain$Reader" "matters") ∈ tb := tb_in (tm_3 (List.mem_of_getElem? (i := 106) rfl)) rfl
theorem q3_107 : (Cond.lays "TrustChain$CertificateReader" "TrustChain$Reader" "extensions" "I") ∈ tb := tb_in (tm_3 (List.mem_of_getElem? (i := 107) rfl)) rfl
theorem q3_108 : (Cond.soleField "TrustChain$Reader" "extensions") ∈ tb := tb_in (tm_3 (List.mem_of_getElem? (i := 108) rfl)) rfl
theorem q3_109 : (Cond.laysFinal "TrustChain$CertificateReader" "TrustChain$Reader" "kinds" "Ljava/util/ArrayList;") ∈ tb := tb_in (tm_3 (List.mem_of_getElem? (i := 109) rfl)) rfl
theorem q3_110 : (Cond.soleField "TrustChain$Reader" "kinds") ∈ tb := tb_in (tm_3 (List.mem_of_getElem? (i := 110) rfl)) rfl
theorem q3_111 : (Cond.superclass "TrustChain$CertificateReader" "TrustChain$Reader") ∈ tb := tb_in (tm_3 (List.mem_of_getElem? (i := 111) rfl)) rfl
theorem q3_112 : (Cond.methodLink "TrustChain" (104 : Nat) ({ cls := "TrustChain$CertificateReader", name := "readCertificate", desc := "()V" } : MethodName)) ∈ tb := tb_in (tm_3 (List.mem_of_getElem? (i := 112) rfl)) rfl
theorem q3_113 : (Cond.instanceMethod ({ cls := "TrustChain$CertificateReader", name := "readCertificate", desc := "()V" } : MethodName)) ∈ tb := tb_in (tm_3 (List.mem_of_getElem? (i := 113) rfl)) rfl
theorem q3_114 : (Cond.selects "TrustChain$CertificateReader" ({ cls := "TrustChain$CertificateReader", name := "readCertificate", desc := "()V" } : MethodName) ({ cls := "TrustChain$CertificateReader", name := "readCertificate", desc := "()V" } : MethodName)) ∈ tb := tb_in (tm_3 (List.mem_of_getElem? (i := 114) rfl)) rfl
theorem q3_115 : (Cond.code ({ cls := "TrustChain$CertificateReader", name := "readCertificate", desc := "()V" } : MethodName) prog_3_method_2_code (5 : Nat) none) ∈ tb := tb_in (tm_3 (List.mem_of_getElem? (i := 115) rfl)) rfl
theorem q3_116 : (Cond.methodLink "TrustChain$CertificateReader" (28 : Nat) ({ cls := "TrustChain$CertificateReader", name := "open", desc := "(II)I" } : MethodName)) ∈ tb := tb_in (tm_3 (List.mem_of_getElem? (i := 116) rfl)) rfl
theorem q3_117 : (Cond.sameMethod "TrustChain$CertificateReader" "TrustChain$Reader" "open" "(II)I") ∈ tb := tb_in (tm_3 (List.mem_of_getElem? (i := 117) rfl)) rfl
theorem q3_118 : (Cond.declares ({ cls := "TrustChain$Reader", name := "open", desc := "(II)I" } : MethodName)) ∈ lw_tbl := tm_3 (List.mem_of_getElem? (i := 118) rfl)
theorem q3_119 : (Cond.selects "TrustChain$CertificateReader" ({ cls := "TrustChain$CertificateReader", name := "open", desc := "(II)I" } : MethodName) ({ cls := "TrustChain$Reader", name := "open", desc := "(II)I" } : MethodName)) ∈ tb := tb_in (tm_3 (List.mem_of_getElem? (i := 119) rfl)) rfl
theorem q3_120 : (Cond.instanceMethod ({ cls := "TrustChain$Reader", name := "open", desc := "(II)I" } : MethodName)) ∈ tb := tb_in (tm_3 (List.mem_of_getElem? (i := 120) rfl)) rfl
theorem q3_121 : (Cond.code ({ cls := "TrustChain$Reader", name := "open", desc := "(II)I" } : MethodName) prog_8_method_8_code (6 : Nat) (some FieldType.int)) ∈ tb := tb_in (tm_3 (List.mem_of_getElem? (i := 121) rfl)) rfl
theorem q3_122 : (Cond.methodLink "TrustChain$Reader" (54 : Nat) ({ cls := "TrustChain$Reader", name := "octet", desc := "(I)I" } : MethodName)) ∈ tb := tb_in (tm_3 (List.mem_of_getElem? (i := 122) rfl)) rfl
theorem q3_123 : (Cond.instanceMethod ({ cls := "TrustChain$Reader", name := "octet", desc := "(I)I" } : MethodName)) ∈ tb := tb_in (tm_3 (List.mem_of_getElem? (i := 123) rfl)) rfl
theorem q3_124 : (Cond.sameMethod "TrustChain$Reader" "TrustChain$Reader" "octet" "(I)I") ∈ tb := tb_in (tm_3 (List.mem_of_getElem? (i := 124) rfl)) rfl
theorem q3_125 : (Cond.selects "TrustChain$CertificateReader" ({ cls := "TrustChain$Reader", name := "octet", desc := "(I)I" } : MethodName) ({ cls := "TrustChain$Reader", name := "octet", desc := "(I)I" } : MethodName)) ∈ tb := tb_in (tm_3 (List.mem_of_getElem? (i := 125) rfl)) rfl
theorem q3_126 : (Cond.selects "TrustChain$ListReader" ({ cls := "TrustChain$Reader", name := "octet", desc := "(I)I" } : MethodName) ({ cls := "TrustChain$Reader", name := "octet", desc := "(I)I" } : MethodName)) ∈ tb := tb_in (tm_3 (List.mem_of_getElem? (i := 126) rfl)) rfl
theorem q3_127 : (Cond.code ({ cls := "TrustChain$Reader", name := "octet", desc := "(I)I" } : MethodName) prog_8_method_3_code (2 : Nat) (some FieldType.int)) ∈ tb := tb_in (tm_3 (List.mem_of_getElem? (i := 127) rfl)) rfl
theorem q3_128 : (Cond.methodLink "TrustChain$CertificateReader" (36 : Nat) ({ cls := "TrustChain$CertificateReader", name := "readHead", desc := "(I)V" } : MethodName)) ∈ tb := tb_in (tm_3 (List.mem_of_getElem? (i := 128) rfl)) rfl
theorem q3_129 : (Cond.privateMethod ({ cls := "TrustChain$CertificateReader", name := "readHead", desc := "(I)V" } : MethodName)) ∈ lw_tbl := tm_3 (List.mem_of_getElem? (i := 129) rfl)
theorem q3_130 : (Cond.instanceMethod ({ cls := "TrustChain$CertificateReader", name := "readHead", desc := "(I)V" } : MethodName)) ∈ tb := tb_in (tm_3 (List.mem_of_getElem? (i := 130) rfl)) rfl
theorem q3_131 : (Cond.code ({ cls := "TrustChain$CertificateReader", name := "readHead", desc := "(I)V" } : MethodName) prog_3_method_3_code (4 : Nat) none) ∈ tb := tb_in (tm_3 (List.mem_of_getElem? (i := 131) rfl)) rfl
theorem q3_132 : (Cond.methodLink "TrustChain$CertificateReader" (73 : Nat) ({ cls := "TrustChain$CertificateReader", name := "number", desc := "(II)LTrustChain$Slice;" } : MethodName)) ∈ tb := tb_in (tm_3 (List.mem_of_getElem? (i := 132) rfl)) rfl
theorem q3_133 : (Cond.sameMethod "TrustChain$CertificateReader" "TrustChain$Reader" "number" "(II)LTrustChain$Slice;") ∈ tb := tb_in (tm_3 (List.mem_of_getElem? (i := 133) rfl)) rfl
theorem q3_134 : (Cond.declares ({ cls := "TrustChain$Reader", name := "number", desc := "(II)LTrustChain$Slice;" } : MethodName)) ∈ lw_tbl := tm_3 (List.mem_of_getElem? (i := 134) rfl)
theorem q3_135 : (Cond.selects "TrustChain$CertificateReader" ({ cls := "TrustChain$CertificateReader", name := "number", desc := "(II)LTrustChain$Slice;" } : MethodName) ({ cls := "TrustChain$Reader", name := "number", desc := "(II)LTrustChain$Slice;" } : MethodName)) ∈ tb := tb_in (tm_3 (List.mem_of_getElem? (i := 135) rfl)) rfl
theorem q3_136 : (Cond.instanceMethod ({ cls := "TrustChain$Reader", name := "number", desc := "(II)LTrustChain$Slice;" } : MethodName)) ∈ tb := tb_in (tm_3 (List.mem_of_getElem? (i := 136) rfl)) rfl
theorem q3_137 : (Cond.code ({ cls := "TrustChain$Reader", name := "number", desc := "(II)LTrustChain$Slice;" } : MethodName) prog_8_method_11_code (7 : Nat) (some (FieldType.object "TrustChain$Slice"))) ∈ tb := tb_in (tm_3 (List.mem_of_getElem? (i := 137) rfl)) rfl
theorem q3_138 : (Cond.methodLink "TrustChain$Reader" (58 : Nat) ({ cls := "TrustChain$Reader", name := "open", desc := "(II)I" } : MethodName)) ∈ tb := tb_in (tm_3 (List.mem_of_getElem? (i := 138) rfl)) rfl
theorem q3_139 : (Cond.methodLink "TrustChain$Reader" (62 : Nat) ({ cls := "TrustChain$Reader", name := "leave", desc := "(IZ)V" } : MethodName)) ∈ tb := tb_in (tm_3 (List.mem_of_getElem? (i := 139) rfl)) rfl
theorem q3_140 : (Cond.instanceMethod ({ cls := "TrustChain$Reader", name := "leave", desc := "(IZ)V" } : MethodName)) ∈ tb := tb_in (tm_3 (List.mem_of_getElem? (i := 140) rfl)) rfl
theorem q3_141 : (Cond.sameMethod "TrustChain$Reader" "TrustChain$Reader" "leave" "(IZ)V") ∈ tb := tb_in (tm_3 (List.mem_of_getElem? (i := 141) rfl)) rfl
theorem q3_142 : (Cond.selects "TrustChain$CertificateReader" ({ cls := "TrustChain$Reader", name := "leave", desc := "(IZ)V" } : MethodName) ({ cls := "TrustChain$Reader", name := "leave", desc := "(IZ)V" } : MethodName)) ∈ tb := tb_in (tm_3 (List.mem_of_getElem? (i := 142) rfl)) rfl
theorem q3_143 : (Cond.selects "TrustChain$ListReader" ({ cls := "TrustChain$Reader", name := "leave", desc := "(IZ)V" } : MethodName) ({ cls := "TrustChain$Reader", name := "leave", desc := "(IZ)V" } : MethodName)) ∈ tb := tb_in (tm_3 (List.mem_of_getElem? (i := 143) rfl)) rfl
theorem q3_144 : (Cond.code ({ cls := "TrustChain$Reader", name := "leave", desc := "(IZ)V" } : MethodName) prog_8_method_10_code (3 : Nat) none) ∈ tb := tb_in (tm_3 (List.mem_of_getElem? (i := 144) rfl)) rfl
theorem q3_145 : (Cond.methodLink "TrustChain$CertificateReader" (77 : Nat) ({ cls := "TrustChain$Slice", name := "number", desc := "()J" } : MethodName)) ∈ tb := tb_in (tm_3 (List.mem_of_getElem? (i := 145) rfl)) rfl
theorem q3_146 : (Cond.instanceMethod ({ cls := "TrustChain$Slice", name := "number", desc := "()J" } : MethodName)) ∈ tb := tb_in (tm_3 (List.mem_of_getElem? (i := 146) rfl)) rfl
theorem q3_147 : (Cond.selects "TrustChain$Slice" ({ cls := "TrustChain$Slice", name := "number", desc := "()J" } : MethodName) ({ cls := "TrustChain$Slice", name := "number", desc := "()J" } : MethodName)) ∈ tb := tb_in (tm_3 (List.mem_of_getElem? (i := 147) rfl)) rfl
theorem q3_148 : (Cond.code ({ cls := "TrustChain$Slice", name := "number", desc := "()J" } : MethodName) prog_12_method_8_code (4 : Nat) (some FieldType.long)) ∈ tb := tb_in (tm_3 (List.mem_of_getElem? (i := 148) rfl)) rfl
theorem q3_149 : (Cond.methodLink "TrustChain$Slice" (22 : Nat) ({ cls := "TrustChain$Slice", name := "length", desc := "()I" } : MethodName)) ∈ tb := tb_in (tm_3 (List.mem_of_getElem? (i := 149) rfl)) rfl
theorem q3_150 : (Cond.instanceMethod ({ cls := "TrustChain$Slice", name := "length", desc := "()I" } : MethodName)) ∈ tb := tb_in (tm_3 (List.mem_of_getElem? (i := 150) rfl)) rfl
theorem q3_151 : (Cond.selects "TrustChain$Slice" ({ cls := "TrustChain$Slice", name := "length", desc := "()I" } : MethodName) ({ cls := "TrustChain$Slice", name := "length", desc := "()I" } : MethodName)) ∈ tb := tb_in (tm_3 (List.mem_of_getElem? (i := 151) rfl)) rfl
theorem q3_152 : (Cond.code ({ cls := "TrustChain$Slice", name := "length", desc := "()I" } : MethodName) prog_12_method_2_code (1 : Nat) (some FieldType.int)) ∈ tb := tb_in (tm_3 (List.mem_of_getElem? (i := 152) rfl)) rfl
theorem q3_153 : (Cond.constantLong "TrustChain$Slice" (37 : Nat) (-1 : Int64)) ∈ tb := tb_in (tm_3 (List.mem_of_getElem? (i := 153) rfl)) rfl
theorem q3_154 : (Cond.methodLink "TrustChain$Slice" (30 : Nat) ({ cls := "TrustChain$Slice", name := "at", desc := "(I)I" } : MethodName)) ∈ tb := tb_in (tm_3 (List.mem_of_getElem? (i := 154) rfl)) rfl
theorem q3_155 : (Cond.instanceMethod ({ cls := "TrustChain$Slice", name := "at", desc := "(I)I" } : MethodName)) ∈ tb := tb_in (tm_3 (List.mem_of_getElem? (i := 155) rfl)) rfl
theorem q3_156 : (Cond.selects "TrustChain$Slice" ({ cls := "TrustChain$Slice", name := "at", desc := "(I)I" } : MethodName) ({ cls := "TrustChain$Slice", name := "at", desc := "(I)I" } : MethodName)) ∈ tb := tb_in (tm_3 (List.mem_of_getElem? (i := 156) rfl)) rfl
theorem q3_157 : (Cond.code ({ cls := "TrustChain$Slice", name := "at", desc := "(I)I" } : MethodName) prog_12_method_3_code (3 : Nat) (some FieldType.int)) ∈ tb := tb_in (tm_3 (List.mem_of_getElem? (i := 157) rfl)) rfl
theorem q3_158 : (Cond.constantLong "TrustChain$CertificateReader" (80 : Nat) (2 : Int64)) ∈ tb := tb_in (tm_3 (List.mem_of_getElem? (i := 158) rfl)) rfl
theorem q3_159 : (Cond.methodLink "TrustChain$CertificateReader" (82 : Nat) ({ cls := "TrustChain$CertificateReader", name := "require", desc := "(Z)V" } : MethodName)) ∈ tb := tb_in (tm_3 (List.mem_of_getElem? (i := 159) rfl)) rfl
theorem q3_160 : (Cond.sameMethod "TrustChain$CertificateReader" "TrustChain$Reader" "require" "(Z)V") ∈ tb := tb_in (tm_3 (List.mem_of_getElem? (i := 160) rfl)) rfl
theorem q3_161 : (Cond.declares ({ cls := "TrustChain$Reader", name := "require", desc := "(Z)V" } : MethodName)) ∈ lw_tbl := tm_3 (List.mem_of_getElem? (i := 161) rfl)
theorem q3_162 : (Cond.selects "TrustChain$CertificateReader" ({ cls := "TrustChain$CertificateReader", name := "require", desc := "(Z)V" } : MethodName) ({ cls := "TrustChain$Reader", name := "require", desc := "(Z)V" } : MethodName)) ∈ tb := tb_in (tm_3 (List.mem_of_getElem? (i := 162) rfl)) rfl
theorem q3_163 : (Cond.instanceMethod ({ cls := "TrustChain$Reader", name := "require", desc := "(Z)V" } : MethodName)) ∈ tb := tb_in (tm_3 (List.mem_of_getElem? (i := 163) rfl)) rfl
theorem q3_164 : (Cond.code ({ cls := "TrustChain$Reader", name := "require", desc := "(Z)V" } : MethodName) prog_8_method_7_code (2 : Nat) none) ∈ tb := tb_in (tm_3 (List.mem_of_getElem? (i := 164) rfl)) rfl
theorem q3_165 : (Cond.methodLink "TrustChain$CertificateReader" (50 : Nat) ({ cls := "TrustChain$CertificateReader", name := "finish", desc := "(I)V" } : MethodName)) ∈ tb := tb_in (tm_3 (List.mem_of_getElem? (i := 165) rfl)) rfl
theorem q3_166 : (Cond.sameMethod "TrustChain$CertificateReader" "TrustChain$Reader" "finish" "(I)V") ∈ tb := tb_in (tm_3 (List.mem_of_getElem? (i := 166) rfl)) rfl
theorem q3_167 : (Cond.declares ({ cls := "TrustChain$Reader", name := "finish", desc := "(I)V" } : MethodName)) ∈ lw_tbl := tm_3 (List.mem_of_getElem? (i := 167) rfl)
theorem q3_168 : (Cond.selects "TrustChain$CertificateReader" ({ cls := "TrustChain$CertificateReader", name := "finish", desc := "(I)V" } : MethodName) ({ cls := "TrustChain$Reader", name := "finish", desc := "(I)V" } : MethodName)) ∈ tb := tb_in (tm_3 (List.mem_of_getElem? (i := 168) rfl)) rfl
theorem q3_169 : (Cond.instanceMethod ({ cls := "TrustChain$Reader", name := "finish", desc := "(I)V" } : MethodName)) ∈ tb := tb_in (tm_3 (List.mem_of_getElem? (i := 169) rfl)) rfl
theorem q3_170 : (Cond.code ({ cls := "TrustChain$Reader", name := "finish", desc := "(I)V" } : MethodName) prog_8_method_9_code (2 : Nat) none) ∈ tb := tb_in (tm_3 (List.mem_of_getElem? (i := 170) rfl)) rfl
theorem q3_171 : (Cond.methodLink "TrustChain$CertificateReader" (86 : Nat) ({ cls := "TrustChain$CertificateReader", name := "serial", desc := "(I)LTrustChain$Slice;" } : MethodName)) ∈ tb := tb_in (tm_3 (List.mem_of_getElem? (i := 171) rfl)) rfl
theorem q3_172 : (Cond.sameMethod "TrustChain$CertificateReader" "TrustChain$Reader" "serial" "(I)LTrustChain$Slice;") ∈ tb := tb_in (tm_3 (List.mem_of_getElem? (i := 172) rfl)) rfl
theorem q3_173 : (Cond.declares ({ cls := "TrustChain$Reader", name := "serial", desc := "(I)LTrustChain$Slice;" } : MethodName)) ∈ lw_tbl := tm_3 (List.mem_of_getElem? (i := 173) rfl)
theorem q3_174 : (Cond.selects "TrustChain$CertificateReader" ({ cls := "TrustChain$CertificateReader", name := "serial", desc := "(I)LTrustChain$Slice;" } : MethodName) ({ cls := "TrustChain$Reader", name := "serial", desc := "(I)LTrustChain$Slice;" } : MethodName)) ∈ tb := tb_in (tm_3 (List.mem_of_getElem? (i := 174) rfl)) rfl
theorem q3_175 : (Cond.instanceMethod ({ cls := "TrustChain$Reader", name := "serial", desc := "(I)LTrustChain$Slice;" } : MethodName)) ∈ tb := tb_in (tm_3 (List.mem_of_getElem? (i := 175) rfl)) rfl
theorem q3_176 : (Cond.code ({ cls := "TrustChain$Reader", name := "serial", desc := "(I)LTrustChain$Slice;" } : MethodName) prog_8_method_12_code (4 : Nat) (some (FieldType.object "TrustChain$Slice"))) ∈ tb := tb_in (tm_3 (List.mem_of_getElem? (i := 176) rfl)) rfl
theorem q3_177 : (Cond.methodLink "TrustChain$Reader" (66 : Nat) ({ cls := "TrustChain$Reader", name := "number", desc := "(II)LTrustChain$Slice;" } : MethodName)) ∈ tb := tb_in (tm_3 (List.mem_of_getElem? (i := 177) rfl)) rfl
theorem q3_178 : (Cond.methodLink "TrustChain$Reader" (70 : Nat) ({ cls := "TrustChain$Slice", name := "at", desc := "(I)I" } : MethodName)) ∈ tb := tb_in (tm_3 (List.mem_of_getElem? (i := 178) rfl)) rfl
theorem q3_179 : (Cond.methodLink "TrustChain$Reader" (73 : Nat) ({ cls := "TrustChain$Slice", name := "length", desc := "()I" } : MethodName)) ∈ tb := tb_in (tm_3 (List.mem_of_getElem? (i := 179) rfl)) rfl
theorem q3_180 : (Cond.methodLink "TrustChain$Reader" (77 : Nat) ({ cls := "TrustChain$Reader", name := "require", desc := "(Z)V" } : MethodName)) ∈ tb := tb_in (tm_3 (List.mem_of_getElem? (i := 180) rfl)) rfl
theorem q3_181 : (Cond.methodLink "TrustChain$CertificateReader" (92 : Nat) ({ cls := "TrustChain$CertificateReader", name := "algorithm", desc := "(II)V" } : MethodName)) ∈ tb := tb_in (tm_3 (List.mem_of_getElem? (i := 181) rfl)) rfl
theorem q3_182 : (Cond.sameMethod "TrustChain$CertificateReader" "TrustChain$Reader" "algorithm" "(II)V") ∈ tb := tb_in (tm_3 (List.mem_of_getElem? (i := 182) rfl)) rfl
theorem q3_183 : (Cond.declares ({ cls := "TrustChain$Reader", name := "algorithm", desc := "(II)V" } : MethodName)) ∈ lw_tbl := tm_3 (List.mem_of_getElem? (i := 183) rfl)
theorem q3_184 : (Cond.selects "TrustChain$CertificateReader" ({ cls := "TrustChain$CertificateReader", name := "algorithm", desc := "(II)V" } : MethodName) ({ cls := "TrustChain$Reader", name := "algorithm", desc := "(II)V" } : MethodName)) ∈ tb := tb_in (tm_3 (List.mem_of_getElem? (i := 184) rfl)) rfl
theorem q3_185 : (Cond.instanceMethod ({ cls := "TrustChain$Reader", name := "algorithm", desc := "(II)V" } : MethodName)) ∈ tb := tb_in (tm_3 (List.mem_of_getElem? (i := 185) rfl)) rfl
theorem q3_186 : (Cond.code ({ cls := "TrustChain$Reader", name := "algorithm", desc := "(II)V" } : MethodName) prog_8_method_16_code (7 : Nat) none) ∈ tb := tb_in (tm_3 (List.mem_of_getElem? (i := 186) rfl)) rfl
theorem q3_187 : (Cond.fieldLink "TrustChain$Reader" (81 : Nat) "TrustChain$Reader" "PKCS1" "[I") ∈ tb := tb_in (tm_3 (List.mem_of_getElem? (i := 187) rfl)) rfl
theorem q3_188 : (Cond.laysStatic "TrustChain$Reader" "PKCS1" "[I") ∈ lw_tbl := tm_3 (List.mem_of_getElem? (i := 188) rfl)
theorem q3_189 : (Cond.methodLink "TrustChain$Reader" (85 : Nat) ({ cls := "TrustChain$Reader", name := "finish", desc := "(I)V" } : MethodName)) ∈ tb := tb_in (tm_3 (List.mem_of_getElem? (i := 189) rfl)) rfl
theorem q3_190 : (Cond.methodLink "TrustChain$CertificateReader" (96 : Nat) ({ cls := "TrustChain$CertificateReader", name := "fullName", desc := "(I)LTrustChain$Slice;" } : MethodName)) ∈ tb := tb_in (tm_3 (List.mem_of_getElem? (i := 190) rfl)) rfl
theorem q3_191 : (Cond.sameMethod "TrustChain$CertificateReader" "TrustChain$Reader" "fullName" "(I)LTrustChain$Slice;") ∈ tb := tb_in (tm_3 (List.mem_of_getElem? (i := 191) rfl)) rfl
theorem q3_192 : (Cond.declares ({ cls := "TrustChain$Reader", name := "fullName", desc := "(I)LTrustChain$Slice;" } : MethodName)) ∈ lw_tbl := tm_3 (List.mem_of_getElem? (i := 192) rfl)
theorem q3_193 : (Cond.selects "TrustChain$CertificateReader" ({ cls := "TrustChain$CertificateReader", name := "fullName", desc := "(I)LTrustChain$Slice;" } : MethodName) ({ cls := "TrustChain$Reader", name := "fullName", desc := "(I)LTrustChain$Slice;" } : MethodName)) ∈ tb := tb_in (tm_3 (List.mem_of_getElem? (i := 193) rfl)) rfl
theorem q3_194 : (Cond.instanceMethod ({ cls := "TrustChain$Reader", name := "fullName", desc := "(I)LTrustChain$Slice;" } : MethodName)) ∈ tb := tb_in (tm_3 (List.mem_of_getElem? (i := 194) rfl)) rfl
theorem q3_195 : (Cond.code ({ cls := "TrustChain$Reader", name := "fullName", desc := "(I)LTrustChain$Slice;" } : MethodName) prog_8_method_18_code (4 : Nat) (some (FieldType.object "TrustChain$Slice"))) ∈ tb := tb_in (tm_3 (List.mem_of_getElem? (i := 195) rfl)) rfl
theorem q3_196 : (Cond.methodLink "TrustChain$Reader" (103 : Nat) ({ cls := "TrustChain$Reader", name := "name", desc := "(I)LTrustChain$Slice;" } : MethodName)) ∈ tb := tb_in (tm_3 (List.mem_of_getElem? (i := 196) rfl)) rfl
theorem q3_197 : (Cond.instanceMethod ({ cls := "TrustChain$Reader", name := "name", desc := "(I)LTrustChain$Slice;" } : MethodName)) ∈ tb := tb_in (tm_3 (List.mem_of_getElem? (i := 197) rfl)) rfl
theorem q3_198 : (Cond.sameMethod "TrustChain$Reader" "TrustChain$Reader" "name" "(I)LTrustChain$Slice;") ∈ tb := tb_in (tm_3 (List.mem_of_getElem? (i := 198) rfl)) rfl
theorem q3_199 : (Cond.selects "TrustChain$CertificateReader" ({ cls := "TrustChain$Reader", name := "name", desc := "(I)LTrustChain$Slice;" } : MethodName) ({ cls := "TrustChain$Reader", name := "name", desc := "(I)LTrustChain$Slice;" } : MethodName)) ∈ tb := tb_in (tm_3 (List.mem_of_getElem? (i := 199) rfl)) rfl
theorem q3_200 : (Cond.selects "TrustChain$ListReader" ({ cls := "TrustChain$Reader", name := "name", desc := "(I)LTrustChain$Slice;" } : MethodName) ({ cls := "TrustChain$Reader", name := "name", desc := "(I)LTrustChain$Slice;" } : MethodName)) ∈ tb := tb_in (tm_3 (List.mem_of_getElem? (i := 200) rfl)) rfl
theorem q3_201 : (Cond.code ({ cls := "TrustChain$Reader", name := "name", desc := "(I)LTrustChain$Slice;" } : MethodName) prog_8_method_17_code (11 : Nat) (some (FieldType.object "TrustChain$Slice"))) ∈ tb := tb_in (tm_3 (List.mem_of_getElem? (i := 201) rfl)) rfl
theorem q3_202 : (Cond.methodLink "TrustChain$Reader" (50 : Nat) ({ cls := "TrustChain$Reader", name := "more", desc := "(I)Z" } : MethodName)) ∈ tb := tb_in (tm_3 (List.mem_of_getElem? (i := 202) rfl)) rfl
theorem q3_203 : (Cond.instanceMethod ({ cls := "TrustChain$Reader", name := "more", desc := "(I)Z" } : MethodName)) ∈ tb := tb_in (tm_3 (List.mem_of_getElem? (i := 203) rfl)) rfl
theorem q3_204 : (Cond.sameMethod "TrustChain$Reader" "TrustChain$Reader" "more" "(I)Z") ∈ tb := tb_in (tm_3 (List.mem_of_getElem? (i := 204) rfl)) rfl
theorem q3_205 : (Cond.selects "TrustChain$CertificateReader" ({ cls := "TrustChain$Reader", name := "more", desc := "(I)Z" } : MethodName) ({ cls := "TrustChain$Reader", name := "more", desc := "(I)Z" } : MethodName)) ∈ tb := tb_in (tm_3 (List.mem_of_getElem? (i := 205) rfl)) rfl
theorem q3_206 : (Cond.selects "TrustChain$ListReader" ({ cls := "TrustChain$Reader", name := "more", desc := "(I)Z" } : MethodName) ({ cls := "TrustChain$Reader", name := "more", desc := "(I)Z" } : MethodName)) ∈ tb := tb_in (tm_3 (List.mem_of_getElem? (i := 206) rfl)) rfl
theorem q3_207 : (Cond.code ({ cls := "TrustChain$Reader", name := "more", desc := "(I)Z" } : MethodName) prog_8_method_4_code (2 : Nat) (some FieldType.boolean)) ∈ tb := tb_in (tm_3 (List.mem_of_getElem? (i := 207) rfl)) rfl
theorem q3_208 : (Cond.methodLink "TrustChain$Reader" (89 : Nat) ({ cls := "TrustChain$Reader", name := "isOid", desc := "(II)Z" } : MethodName)) ∈ tb := tb_in (tm_3 (List.mem_of_getElem? (i := 208) rfl)) rfl
theorem q3_209 : (Cond.privateMethod ({ cls := "TrustChain$Reader", name := "isOid", desc := "(II)Z" } : MethodName)) ∈ lw_tbl := tm_3 (List.mem_of_getElem? (i := 209) rfl)
theorem q3_210 : (Cond.instanceMethod ({ cls := "TrustChain$Reader", name := "isOid", desc := "(II)Z" } : MethodName)) ∈ tb := tb_in (tm_3 (List.mem_of_getElem? (i := 210) rfl)) rfl
theorem q3_211 : (Cond.code ({ cls := "TrustChain$Reader", name := "isOid", desc := "(II)Z" } : MethodName) prog_8_method_28_code (5 : Nat) (some FieldType.boolean)) ∈ tb := tb_in (tm_3 (List.mem_of_getElem? (i := 211) rfl)) rfl
theorem q3_212 : (Cond.methodLink "TrustChain$Reader" (93 : Nat) ({ cls := "TrustChain$Reader", name := "nextIs", desc := "(II)Z" } : MethodName)) ∈ tb := tb_in (tm_3 (List.mem_of_getElem? (i := 212) rfl)) rfl
theorem q3_213 : (Cond.instanceMethod ({ cls := "TrustChain$Reader", name := "nextIs", desc := "(II)Z" } : MethodName)) ∈ tb := tb_in (tm_3 (List.mem_of_getElem? (i := 213) rfl)) rfl
theorem q3_214 : (Cond.sameMethod "TrustChain$Reader" "TrustChain$Reader" "nextIs" "(II)Z") ∈ tb := tb_in (tm_3 (List.mem_of_getElem? (i := 214) rfl)) rfl
theorem q3_215 : (Cond.selects "TrustChain$CertificateReader" ({ cls := "TrustChain$Reader", name := "nextIs", desc := "(II)Z" } : MethodName) ({ cls := "TrustChain$Reader", name := "nextIs", desc := "(II)Z" } : MethodName)) ∈ tb := tb_in (tm_3 (List.mem_of_getElem? (i := 215) rfl)) rfl
theorem q3_216 : (Cond.selects "TrustChain$ListReader" ({ cls := "TrustChain$Reader", name := "nextIs", desc := "(II)Z" } : MethodName) ({ cls := "TrustChain$Reader", name := "nextIs", desc := "(II)Z" } : MethodName)) ∈ tb := tb_in (tm_3 (List.mem_of_getElem? (i := 216) rfl)) rfl
theorem q3_217 : (Cond.code ({ cls := "TrustChain$Reader", name := "nextIs", desc := "(II)Z" } : MethodName) prog_8_method_5_code (3 : Nat) (some FieldType.boolean)) ∈ tb := tb_in (tm_3 (List.mem_of_getElem? (i := 217) rfl)) rfl
theorem q3_218 : (Cond.methodLink "TrustChain$Reader" (96 : Nat) ({ cls := "TrustChain$Reader", name := "isUtf8", desc := "(II)Z" } : MethodName)) ∈ tb := tb_in (tm_3 (List.mem_of_getElem? (i := 218) rfl)) rfl
theorem q3_219 : (Cond.privateMethod ({ cls := "TrustChain$Reader", name := "isUtf8", desc := "(II)Z" } : MethodName)) ∈ lw_tbl := tm_3 (List.mem_of_getElem? (i := 219) rfl)
theorem q3_220 : (Cond.instanceMethod ({ cls := "TrustChain$Reader", name := "isUtf8", desc := "(II)Z" } : MethodName)) ∈ tb := tb_in (tm_3 (List.mem_of_getElem? (i := 220) rfl)) rfl
theorem q3_221 : (Cond.code ({ cls := "TrustChain$Reader", name := "isUtf8", desc := "(II)Z" } : MethodName) prog_8_method_31_code (10 : Nat) (some FieldType.boolean)) ∈ tb := tb_in (tm_3 (List.mem_of_getElem? (i := 221) rfl)) rfl
theorem q3_222 : (Cond.constant "TrustChain$Reader" (184 : Nat) (55296 : Int32)) ∈ tb := tb_in (tm_3 (List.mem_of_getElem? (i := 222) rfl)) rfl
theorem q3_223 : (Cond.constant "TrustChain$Reader" (185 : Nat) (57343 : Int32)) ∈ tb := tb_in (tm_3 (List.mem_of_getElem? (i := 223) rfl)) rfl
theorem q3_224 : (Cond.constant "TrustChain$Reader" (186 : Nat) (1114111 : Int32)) ∈ tb := tb_in (tm_3 (List.mem_of_getElem? (i := 224) rfl)) rfl
theorem q3_225 : (Cond.constant "TrustChain$Reader" (187 : Nat) (65536 : Int32)) ∈ tb := tb_in (tm_3 (List.mem_of_getElem? (i := 225) rfl)) rfl
theorem q3_226 : (Cond.methodLink "TrustChain$Reader" (99 : Nat) ({ cls := "TrustChain$Reader", name := "isSimple", desc := "(III)Z" } : MethodName)) ∈ tb := tb_in (tm_3 (List.mem_of_getElem? (i := 226) rfl)) rfl
theorem q3_227 : (Cond.privateMethod ({ cls := "TrustChain$Reader", name := "isSimple", desc := "(III)Z" } : MethodName)) ∈ lw_tbl := tm_3 (List.mem_of_getElem? (i := 227) rfl)
theorem q3_228 : (Cond.instanceMethod ({ cls := "TrustChain$Reader", name := "isSimple", desc := "(III)Z" } : MethodName)) ∈ tb := tb_in (tm_3 (List.mem_of_getElem? (i := 228) rfl)) rfl
theorem q3_229 : (Cond.code ({ cls := "TrustChain$Reader", name := "isSimple", desc := "(III)Z" } : MethodName) prog_8_method_29_code (5 : Nat) (some FieldType.boolean)) ∈ tb := tb_in (tm_3 (List.mem_of_getElem? (i := 229) rfl)) rfl
theorem q3_230 : (Cond.methodLink "TrustChain$Reader" (174 : Nat) ({ cls := "TrustChain$Reader", name := "isPrintable", desc := "(I)Z" } : MethodName)) ∈ tb := tb_in (tm_3 (List.mem_of_getElem? (i := 230) rfl)) rfl
theorem q3_231 : (Cond.static ({ cls := "TrustChain$Reader", name := "isPrintable", desc := "(I)Z" } : MethodName)) ∈ tb := tb_in (tm_3 (List.mem_of_getElem? (i := 231) rfl)) rfl
theorem q3_232 : (Cond.code ({ cls := "TrustChain$Reader", name := "isPrintable", desc := "(I)Z" } : MethodName) prog_8_method_30_code (3 : Nat) (some FieldType.boolean)) ∈ tb := tb_in (tm_3 (List.mem_of_getElem? (i := 232) rfl)) rfl
theorem q3_233 : (Cond.stringRef "TrustChain$Reader" (177 : Nat) " '()+,-./:=?") ∈ lw_tbl := tm_3 (List.mem_of_getElem? (i := 233) rfl)
theorem q3_234 : (Cond.methodLink "TrustChain$Reader" (179 : Nat) ({ cls := "java/lang/String", name := "indexOf", desc := "(I)I" } : MethodName)) ∈ tb := tb_in (tm_3 (List.mem_of_getElem? (i := 234) rfl)) rfl
theorem q3_235 : (Cond.instanceMethod ({ cls := "java/lang/String", name := "indexOf", desc := "(I)I" } : MethodName)) ∈ tb := tb_in (tm_3 (List.mem_of_getElem? (i := 235) rfl)) rfl
theorem q3_236 : (Cond.selects "java/lang/String" ({ cls := "java/lang/String", name := "indexOf", desc := "(I)I" } : MethodName) ({ cls := "java/lang/String", name := "indexOf", desc := "(I)I" } : MethodName)) ∈ tb := tb_in (tm_3 (List.mem_of_getElem? (i := 236) rfl)) rfl
theorem q3_237 : (Cond.code ({ cls := "java/lang/String", name := "indexOf", desc := "(I)I" } : MethodName) prog_26_method_79_code (2 : Nat) (some FieldType.int)) ∈ tb := tb_in (tm_3 (List.mem_of_getElem? (i := 237) rfl)) rfl
theorem q3_238 : (Cond.methodLink "java/lang/String" (633 : Nat) ({ cls := "java/lang/String", name := "indexOf", desc := "(II)I" } : MethodName)) ∈ tb := tb_in (tm_3 (List.mem_of_getElem? (i := 238) rfl)) rfl
theorem q3_239 : (Cond.instanceMethod ({ cls := "java/lang/String", name := "indexOf", desc := "(II)I" } : MethodName)) ∈ tb := tb_in (tm_3 (List.mem_of_getElem? (i := 239) rfl)) rfl
theorem q4_0 : (Cond.selects "java/lang/String" ({ cls := "java/lang/String", name := "indexOf", desc := "(II)I" } : MethodName) ({ cls := "java/lang/String", name := "indexOf", desc := "(II)I" } : MethodName)) ∈ tb := tb_in (tm_4 (List.mem_of_getElem? (i := 0) rfl)) rfl
theorem q4_1 : (Cond.code ({ cls := "java/lang/String", name := "indexOf", desc := "(II)I" } : MethodName) prog_26_method_80_code (3 : Nat) (some FieldType.int)) ∈ tb := tb_in (tm_4 (List.mem_of_getElem? (i := 1) rfl)) rfl
theorem q4_2 : (Cond.methodLink "java/lang/String" (492 : Nat) ({ cls := "java/lang/String", name := "isLatin1", desc := "()Z" } : MethodName)) ∈ tb := tb_in (tm_4 (List.mem_of_getElem? (i := 2) rfl)) rfl
theorem q4_3 : (Cond.instanceMethod ({ cls := "java/lang/String", name := "isLatin1", desc := "()Z" } : MethodName)) ∈ tb := tb_in (tm_4 (List.mem_of_getElem? (i := 3) rfl)) rfl
theorem q4_4 : (Cond.selects "java/lang/String" ({ cls := "java/lang/String", name := "isLatin1", desc := "()Z" } : MethodName) ({ cls := "java/lang/String", name := "isLatin1", desc := "()Z" } : MethodName)) ∈ tb := tb_in (tm_4 (List.mem_of_getElem? (i := 4) rfl)) rfl
theorem q4_5 : (Cond.code ({ cls := "java/lang/String", name := "isLatin1", desc := "()Z" } : MethodName) prog_26_method_154_code (1 : Nat) (some FieldType.boolean)) ∈ tb := tb_in (tm_4 (List.mem_of_getElem? (i := 5) rfl)) rfl
theorem q4_6 : (Cond.fieldLink "java/lang/String" (38 : Nat) "java/lang/String" "COMPACT_STRINGS" "Z") ∈ tb := tb_in (tm_4 (List.mem_of_getElem? (i := 6) rfl)) rfl
theorem q4_7 : (Cond.laysStatic "java/lang/String" "COMPACT_STRINGS" "Z") ∈ lw_tbl := tm_4 (List.mem_of_getElem? (i := 7) rfl)
theorem q4_8 : (Cond.methodLink "java/lang/String" (505 : Nat) ({ cls := "java/lang/String", name := "length", desc := "()I" } : MethodName)) ∈ tb := tb_in (tm_4 (List.mem_of_getElem? (i := 8) rfl)) rfl
theorem q4_9 : (Cond.instanceMethod ({ cls := "java/lang/String", name := "length", desc := "()I" } : MethodName)) ∈ tb := tb_in (tm_4 (List.mem_of_getElem? (i := 9) rfl)) rfl
theorem q4_10 : (Cond.selects "java/lang/String" ({ cls := "java/lang/String", name := "length", desc := "()I" } : MethodName) ({ cls := "java/lang/String", name := "length", desc := "()I" } : MethodName)) ∈ tb := tb_in (tm_4 (List.mem_of_getElem? (i := 10) rfl)) rfl
theorem q4_11 : (Cond.code ({ cls := "java/lang/String", name := "length", desc := "()I" } : MethodName) prog_26_method_54_code (1 : Nat) (some FieldType.int)) ∈ tb := tb_in (tm_4 (List.mem_of_getElem? (i := 11) rfl)) rfl
theorem q4_12 : (Cond.methodLink "java/lang/String" (335 : Nat) ({ cls := "java/lang/String", name := "coder", desc := "()B" } : MethodName)) ∈ tb := tb_in (tm_4 (List.mem_of_getElem? (i := 12) rfl)) rfl
theorem q4_13 : (Cond.instanceMethod ({ cls := "java/lang/String", name := "coder", desc := "()B" } : MethodName)) ∈ tb := tb_in (tm_4 (List.mem_of_getElem? (i := 13) rfl)) rfl
theorem q4_14 : (Cond.selects "java/lang/String" ({ cls := "java/lang/String", name := "coder", desc := "()B" } : MethodName) ({ cls := "java/lang/String", name := "coder", desc := "()B" } : MethodName)) ∈ tb := tb_in (tm_4 (List.mem_of_getElem? (i := 14) rfl)) rfl
theorem q4_15 : (Cond.code ({ cls := "java/lang/String", name := "coder", desc := "()B" } : MethodName) prog_26_method_152_code (1 : Nat) (some FieldType.byte)) ∈ tb := tb_in (tm_4 (List.mem_of_getElem? (i := 15) rfl)) rfl
theorem q4_16 : (Cond.methodLink "java/lang/String" (637 : Nat) ({ cls := "java/lang/StringLatin1", name := "indexOf", desc := "([BIII)I" } : MethodName)) ∈ tb := tb_in (tm_4 (List.mem_of_getElem? (i := 16) rfl)) rfl
theorem q4_17 : (Cond.static ({ cls := "java/lang/StringLatin1", name := "indexOf", desc := "([BIII)I" } : MethodName)) ∈ tb := tb_in (tm_4 (List.mem_of_getElem? (i := 17) rfl)) rfl
theorem q4_18 : (Cond.code ({ cls := "java/lang/StringLatin1", name := "indexOf", desc := "([BIII)I" } : MethodName) prog_27_method_22_code (4 : Nat) (some FieldType.int)) ∈ tb := tb_in (tm_4 (List.mem_of_getElem? (i := 18) rfl)) rfl
theorem q4_19 : (Cond.methodLink "java/lang/StringLatin1" (88 : Nat) ({ cls := "java/lang/StringLatin1", name := "canEncode", desc := "(I)Z" } : MethodName)) ∈ tb := tb_in (tm_4 (List.mem_of_getElem? (i := 19) rfl)) rfl
theorem q4_20 : (Cond.static ({ cls := "java/lang/StringLatin1", name := "canEncode", desc := "(I)Z" } : MethodName)) ∈ tb := tb_in (tm_4 (List.mem_of_getElem? (i := 20) rfl)) rfl
theorem q4_21 : (Cond.code ({ cls := "java/lang/StringLatin1", name := "canEncode", desc := "(I)Z" } : MethodName) prog_27_method_4_code (1 : Nat) (some FieldType.boolean)) ∈ tb := tb_in (tm_4 (List.mem_of_getElem? (i := 21) rfl)) rfl
theorem q4_22 : (Cond.methodLink "java/lang/StringLatin1" (92 : Nat) ({ cls := "java/lang/Math", name := "max", desc := "(II)I" } : MethodName)) ∈ tb := tb_in (tm_4 (List.mem_of_getElem? (i := 22) rfl)) rfl
theorem q4_23 : (Cond.static ({ cls := "java/lang/Math", name := "max", desc := "(II)I" } : MethodName)) ∈ tb := tb_in (tm_4 (List.mem_of_getElem? (i := 23) rfl)) rfl
theorem q4_24 : (Cond.code ({ cls := "java/lang/Math", name := "max", desc := "(II)I" } : MethodName) prog_24_method_65_code (2 : Nat) (some FieldType.int)) ∈ tb := tb_in (tm_4 (List.mem_of_getElem? (i := 24) rfl)) rfl
theorem q4_25 : (Cond.methodLink "java/lang/StringLatin1" (38 : Nat) ({ cls := "java/lang/Math", name := "min", desc := "(II)I" } : MethodName)) ∈ tb := tb_in (tm_4 (List.mem_of_getElem? (i := 25) rfl)) rfl
theorem q4_26 : (Cond.methodLink "java/lang/StringLatin1" (95 : Nat) ({ cls := "java/lang/StringLatin1", name := "indexOfChar", desc := "([BIII)I" } : MethodName)) ∈ tb := tb_in (tm_4 (List.mem_of_getElem? (i := 26) rfl)) rfl
theorem q4_27 : (Cond.static ({ cls := "java/lang/StringLatin1", name := "indexOfChar", desc := "([BIII)I" } : MethodName)) ∈ tb := tb_in (tm_4 (List.mem_of_getElem? (i := 27) rfl)) rfl
theorem q4_28 : (Cond.code ({ cls := "java/lang/StringLatin1", name := "indexOfChar", desc := "([BIII)I" } : MethodName) prog_27_method_23_code (6 : Nat) (some FieldType.int)) ∈ tb := tb_in (tm_4 (List.mem_of_getElem? (i := 28) rfl)) rfl
theorem q4_29 : (Cond.methodLink "java/lang/String" (640 : Nat) ({ cls := "java/lang/StringUTF16", name := "indexOf", desc := "([BIII)I" } : MethodName)) ∈ tb := tb_in (tm_4 (List.mem_of_getElem? (i := 29) rfl)) rfl
theorem q4_30 : (Cond.static ({ cls := "java/lang/StringUTF16", name := "indexOf", desc := "([BIII)I" } : MethodName)) ∈ tb := tb_in (tm_4 (List.mem_of_getElem? (i := 30) rfl)) rfl
theorem q4_31 : (Cond.code ({ cls := "java/lang/StringUTF16", name := "indexOf", desc := "([BIII)I" } : MethodName) prog_28_method_40_code (4 : Nat) (some FieldType.int)) ∈ tb := tb_in (tm_4 (List.mem_of_getElem? (i := 31) rfl)) rfl
theorem q4_32 : (Cond.methodLink "java/lang/StringUTF16" (224 : Nat) ({ cls := "java/lang/Math", name := "max", desc := "(II)I" } : MethodName)) ∈ tb := tb_in (tm_4 (List.mem_of_getElem? (i := 32) rfl)) rfl
theorem q4_33 : (Cond.methodLink "java/lang/StringUTF16" (183 : Nat) ({ cls := "java/lang/Math", name := "min", desc := "(II)I" } : MethodName)) ∈ tb := tb_in (tm_4 (List.mem_of_getElem? (i := 33) rfl)) rfl
theorem q4_34 : (Cond.constant "java/lang/StringUTF16" (227 : Nat) (65536 : Int32)) ∈ tb := tb_in (tm_4 (List.mem_of_getElem? (i := 34) rfl)) rfl
theorem q4_35 : (Cond.methodLink "java/lang/StringUTF16" (228 : Nat) ({ cls := "java/lang/StringUTF16", name := "indexOfChar", desc := "([BIII)I" } : MethodName)) ∈ tb := tb_in (tm_4 (List.mem_of_getElem? (i := 35) rfl)) rfl
theorem q4_36 : (Cond.static ({ cls := "java/lang/StringUTF16", name := "indexOfChar", desc := "([BIII)I" } : MethodName)) ∈ tb := tb_in (tm_4 (List.mem_of_getElem? (i := 36) rfl)) rfl
theorem q4_37 : (Cond.code ({ cls := "java/lang/StringUTF16", name := "indexOfChar", desc := "([BIII)I" } : MethodName) prog_28_method_47_code (4 : Nat) (some FieldType.int)) ∈ tb := tb_in (tm_4 (List.mem_of_getElem? (i := 37) rfl)) rfl
theorem q4_38 : (Cond.methodLink "java/lang/StringUTF16" (96 : Nat) ({ cls := "java/lang/StringUTF16", name := "checkBoundsBeginEnd", desc := "(II[B)V" } : MethodName)) ∈ tb := tb_in (tm_4 (List.mem_of_getElem? (i := 38) rfl)) rfl
theorem q4_39 : (Cond.static ({ cls := "java/lang/StringUTF16", name := "checkBoundsBeginEnd", desc := "(II[B)V" } : MethodName)) ∈ tb := tb_in (tm_4 (List.mem_of_getElem? (i := 39) rfl)) rfl
theorem q4_40 : (Cond.code ({ cls := "java/lang/StringUTF16", name := "checkBoundsBeginEnd", desc := "(II[B)V" } : MethodName) prog_28_method_93_code (3 : Nat) none) ∈ tb := tb_in (tm_4 (List.mem_of_getElem? (i := 40) rfl)) rfl
theorem q4_41 : (Cond.methodLink "java/lang/StringUTF16" (48 : Nat) ({ cls := "java/lang/StringUTF16", name := "length", desc := "([B)I" } : MethodName)) ∈ tb := tb_in (tm_4 (List.mem_of_getElem? (i := 41) rfl)) rfl
theorem q4_42 : (Cond.static ({ cls := "java/lang/StringUTF16", name := "length", desc := "([B)I" } : MethodName)) ∈ tb := tb_in (tm_4 (List.mem_of_getElem? (i := 42) rfl)) rfl
theorem q4_43 : (Cond.code ({ cls := "java/lang/StringUTF16", name := "length", desc := "([B)I" } : MethodName) prog_28_method_6_code (1 : Nat) (some FieldType.int)) ∈ tb := tb_in (tm_4 (List.mem_of_getElem? (i := 43) rfl)) rfl
theorem q4_44 : (Cond.methodLink "java/lang/StringUTF16" (241 : Nat) ({ cls := "java/lang/String", name := "checkBoundsBeginEnd", desc := "(III)V" } : MethodName)) ∈ tb := tb_in (tm_4 (List.mem_of_getElem? (i := 44) rfl)) rfl
theorem q4_45 : (Cond.static ({ cls := "java/lang/String", name := "checkBoundsBeginEnd", desc := "(III)V" } : MethodName)) ∈ tb := tb_in (tm_4 (List.mem_of_getElem? (i := 45) rfl)) rfl
theorem q4_46 : (Cond.code ({ cls := "java/lang/String", name := "checkBoundsBeginEnd", desc := "(III)V" } : MethodName) prog_26_method_158_code (3 : Nat) none) ∈ tb := tb_in (tm_4 (List.mem_of_getElem? (i := 46) rfl)) rfl
theorem q4_47 : (Cond.fieldLink "java/lang/String" (1053 : Nat) "jdk/internal/util/Preconditions" "SIOOBE_FORMATTER" "Ljava/util/function/BiFunction;") ∈ tb := tb_in (tm_4 (List.mem_of_getElem? (i := 47) rfl)) rfl
theorem q4_48 : (Cond.laysStatic "jdk/internal/util/Preconditions" "SIOOBE_FORMATTER" "Ljava/util/function/BiFunction;") ∈ lw_tbl := tm_4 (List.mem_of_getElem? (i := 48) rfl)
theorem q4_49 : (Cond.methodLink "java/lang/String" (1062 : Nat) ({ cls := "jdk/internal/util/Preconditions", name := "checkFromToIndex", desc := "(IIILjava/util/function/BiFunction;)I" } : MethodName)) ∈ tb := tb_in (tm_4 (List.mem_of_getElem? (i := 49) rfl)) rfl
theorem q4_50 : (Cond.static ({ cls := "jdk/internal/util/Preconditions", name := "checkFromToIndex", desc := "(IIILjava/util/function/BiFunction;)I" } : MethodName)) ∈ tb := tb_in (tm_4 (List.mem_of_getElem? (i := 50) rfl)) rfl
theorem q4_51 : (Cond.code ({ cls := "jdk/internal/util/Preconditions", name := "checkFromToIndex", desc := "(IIILjava/util/function/BiFunction;)I" } : MethodName) prog_41_method_12_code (4 : Nat) (some FieldType.int)) ∈ tb := tb_in (tm_4 (List.mem_of_getElem? (i := 51) rfl)) rfl
theorem q4_52 : (Cond.methodLink "java/lang/StringUTF16" (244 : Nat) ({ cls := "java/lang/StringUTF16", name := "indexOfCharUnsafe", desc := "([BIII)I" } : MethodName)) ∈ tb := tb_in (tm_4 (List.mem_of_getElem? (i := 52) rfl)) rfl
theorem q4_53 : (Cond.static ({ cls := "java/lang/StringUTF16", name := "indexOfCharUnsafe", desc := "([BIII)I" } : MethodName)) ∈ tb := tb_in (tm_4 (List.mem_of_getElem? (i := 53) rfl)) rfl
theorem q4_54 : (Cond.code ({ cls := "java/lang/StringUTF16", name := "indexOfCharUnsafe", desc := "([BIII)I" } : MethodName) prog_28_method_48_code (5 : Nat) (some FieldType.int)) ∈ tb := tb_in (tm_4 (List.mem_of_getElem? (i := 54) rfl)) rfl
theorem q4_55 : (Cond.methodLink "java/lang/StringUTF16" (71 : Nat) ({ cls := "java/lang/StringUTF16", name := "getChar", desc := "([BI)C" } : MethodName)) ∈ tb := tb_in (tm_4 (List.mem_of_getElem? (i := 55) rfl)) rfl
theorem q4_56 : (Cond.static ({ cls := "java/lang/StringUTF16", name := "getChar", desc := "([BI)C" } : MethodName)) ∈ tb := tb_in (tm_4 (List.mem_of_getElem? (i := 56) rfl)) rfl
theorem q4_57 : (Cond.code ({ cls := "java/lang/StringUTF16", name := "getChar", desc := "([BI)C" } : MethodName) prog_28_method_5_code (2 : Nat) (some FieldType.char)) ∈ tb := tb_in (tm_4 (List.mem_of_getElem? (i := 57) rfl)) rfl
theorem q4_58 : (Cond.fieldLink "java/lang/StringUTF16" (44 : Nat) "java/lang/StringUTF16" "$assertionsDisabled" "Z") ∈ tb := tb_in (tm_4 (List.mem_of_getElem? (i := 58) rfl)) rfl
theorem q4_59 : (Cond.laysStatic "java/lang/StringUTF16" "$assertionsDisabled" "Z") ∈ lw_tbl := tm_4 (List.mem_of_getElem? (i := 59) rfl)
theorem q4_60 : (Cond.fieldLink "java/lang/StringUTF16" (59 : Nat) "java/lang/StringUTF16" "HI_BYTE_SHIFT" "I") ∈ tb := tb_in (tm_4 (List.mem_of_getElem? (i := 60) rfl)) rfl
theorem q4_61 : (Cond.laysStatic "java/lang/StringUTF16" "HI_BYTE_SHIFT" "I") ∈ lw_tbl := tm_4 (List.mem_of_getElem? (i := 61) rfl)
theorem q4_62 : (Cond.fieldLink "java/lang/StringUTF16" (63 : Nat) "java/lang/StringUTF16" "LO_BYTE_SHIFT" "I") ∈ tb := tb_in (tm_4 (List.mem_of_getElem? (i := 62) rfl)) rfl
theorem q4_63 : (Cond.laysStatic "java/lang/StringUTF16" "LO_BYTE_SHIFT" "I") ∈ lw_tbl := tm_4 (List.mem_of_getElem? (i := 63) rfl)
theorem q4_64 : (Cond.methodLink "java/lang/StringUTF16" (232 : Nat) ({ cls := "java/lang/StringUTF16", name := "indexOfSupplementary", desc := "([BIII)I" } : MethodName)) ∈ tb := tb_in (tm_4 (List.mem_of_getElem? (i := 64) rfl)) rfl
theorem q4_65 : (Cond.static ({ cls := "java/lang/StringUTF16", name := "indexOfSupplementary", desc := "([BIII)I" } : MethodName)) ∈ tb := tb_in (tm_4 (List.mem_of_getElem? (i := 65) rfl)) rfl
theorem q4_66 : (Cond.code ({ cls := "java/lang/StringUTF16", name := "indexOfSupplementary", desc := "([BIII)I" } : MethodName) prog_28_method_49_code (7 : Nat) (some FieldType.int)) ∈ tb := tb_in (tm_4 (List.mem_of_getElem? (i := 66) rfl)) rfl
theorem q4_67 : (Cond.methodLink "java/lang/StringUTF16" (164 : Nat) ({ cls := "java/lang/Character", name := "isValidCodePoint", desc := "(I)Z" } : MethodName)) ∈ tb := tb_in (tm_4 (List.mem_of_getElem? (i := 67) rfl)) rfl
theorem q4_68 : (Cond.static ({ cls := "java/lang/Character", name := "isValidCodePoint", desc := "(I)Z" } : MethodName)) ∈ tb := tb_in (tm_4 (List.mem_of_getElem? (i := 68) rfl)) rfl
theorem q4_69 : (Cond.code ({ cls := "java/lang/Character", name := "isValidCodePoint", desc := "(I)Z" } : MethodName) prog_17_method_11_code (2 : Nat) (some FieldType.boolean)) ∈ tb := tb_in (tm_4 (List.mem_of_getElem? (i := 69) rfl)) rfl
theorem q4_70 : (Cond.methodLink "java/lang/StringUTF16" (157 : Nat) ({ cls := "java/lang/Character", name := "highSurrogate", desc := "(I)C" } : MethodName)) ∈ tb := tb_in (tm_4 (List.mem_of_getElem? (i := 70) rfl)) rfl
theorem q4_71 : (Cond.static ({ cls := "java/lang/Character", name := "highSurrogate", desc := "(I)C" } : MethodName)) ∈ tb := tb_in (tm_4 (List.mem_of_getElem? (i := 71) rfl)) rfl
theorem q4_72 : (Cond.code ({ cls := "java/lang/Character", name := "highSurrogate", desc := "(I)C" } : MethodName) prog_17_method_28_code (1 : Nat) (some FieldType.char)) ∈ tb := tb_in (tm_4 (List.mem_of_getElem? (i := 72) rfl)) rfl
theorem q4_73 : (Cond.constant "java/lang/Character" (110 : Nat) (55232 : Int32)) ∈ tb := tb_in (tm_4 (List.mem_of_getElem? (i := 73) rfl)) rfl
theorem q4_74 : (Cond.methodLink "java/lang/StringUTF16" (161 : Nat) ({ cls := "java/lang/Character", name := "lowSurrogate", desc := "(I)C" } : MethodName)) ∈ tb := tb_in (tm_4 (List.mem_of_getElem? (i := 74) rfl)) rfl
theorem q4_75 : (Cond.static ({ cls := "java/lang/Character", name := "lowSurrogate", desc := "(I)C" } : MethodName)) ∈ tb := tb_in (tm_4 (List.mem_of_getElem? (i := 75) rfl)) rfl
theorem q4_76 : (Cond.code ({ cls := "java/lang/Character", name := "lowSurrogate", desc := "(I)C" } : MethodName) prog_17_method_29_code (1 : Nat) (some FieldType.char)) ∈ tb := tb_in (tm_4 (List.mem_of_getElem? (i := 76) rfl)) rfl
theorem q4_77 : (Cond.constant "java/lang/Character" (76 : Nat) (56320 : Int32)) ∈ tb := tb_in (tm_4 (List.mem_of_getElem? (i := 77) rfl)) rfl
theorem q4_78 : (Cond.methodLink "TrustChain$Reader" (107 : Nat) ({ cls := "TrustChain$Reader", name := "refuse", desc := "(I)V" } : MethodName)) ∈ tb := tb_in (tm_4 (List.mem_of_getElem? (i := 78) rfl)) rfl
theorem q4_79 : (Cond.instanceMethod ({ cls := "TrustChain$Reader", name := "refuse", desc := "(I)V" } : MethodName)) ∈ tb := tb_in (tm_4 (List.mem_of_getElem? (i := 79) rfl)) rfl
theorem q4_80 : (Cond.sameMethod "TrustChain$Reader" "TrustChain$Reader" "refuse" "(I)V") ∈ tb := tb_in (tm_4 (List.mem_of_getElem? (i := 80) rfl)) rfl
theorem q4_81 : (Cond.selects "TrustChain$CertificateReader" ({ cls := "TrustChain$Reader", name := "refuse", desc := "(I)V" } : MethodName) ({ cls := "TrustChain$Reader", name := "refuse", desc := "(I)V" } : MethodName)) ∈ tb := tb_in (tm_4 (List.mem_of_getElem? (i := 81) rfl)) rfl
theorem q4_82 : (Cond.selects "TrustChain$ListReader" ({ cls := "TrustChain$Reader", name := "refuse", desc := "(I)V" } : MethodName) ({ cls := "TrustChain$Reader", name := "refuse", desc := "(I)V" } : MethodName)) ∈ tb := tb_in (tm_4 (List.mem_of_getElem? (i := 82) rfl)) rfl
theorem q4_83 : (Cond.code ({ cls := "TrustChain$Reader", name := "refuse", desc := "(I)V" } : MethodName) prog_8_method_6_code (2 : Nat) none) ∈ tb := tb_in (tm_4 (List.mem_of_getElem? (i := 83) rfl)) rfl
theorem q4_84 : (Cond.methodLink "TrustChain$CertificateReader" (102 : Nat) ({ cls := "TrustChain$CertificateReader", name := "time", desc := "(I)J" } : MethodName)) ∈ tb := tb_in (tm_4 (List.mem_of_getElem? (i := 84) rfl)) rfl
theorem q4_85 : (Cond.sameMethod "TrustChain$CertificateReader" "TrustChain$Reader" "time" "(I)J") ∈ tb := tb_in (tm_4 (List.mem_of_getElem? (i := 85) rfl)) rfl
theorem q4_86 : (Cond.declares ({ cls := "TrustChain$Reader", name := "time", desc := "(I)J" } : MethodName)) ∈ lw_tbl := tm_4 (List.mem_of_getElem? (i := 86) rfl)
theorem q4_87 : (Cond.selects "TrustChain$CertificateReader" ({ cls := "TrustChain$CertificateReader", name := "time", desc := "(I)J" } : MethodName) ({ cls := "TrustChain$Reader", name := "time", desc := "(I)J" } : MethodName)) ∈ tb := tb_in (tm_4 (List.mem_of_getElem? (i := 87) rfl)) rfl
theorem q4_88 : (Cond.instanceMethod ({ cls := "TrustChain$Reader", name := "time", desc := "(I)J" } : MethodName)) ∈ tb := tb_in (tm_4 (List.mem_of_getElem? (i := 88) rfl)) rfl
theorem q4_89 : (Cond.code ({ cls := "TrustChain$Reader", name := "time", desc := "(I)J" } : MethodName) prog_8_method_22_code (13 : Nat) (some FieldType.long)) ∈ tb := tb_in (tm_4 (List.mem_of_getElem? (i := 89) rfl)) rfl
theorem q4_90 : (Cond.methodLink "TrustChain$Reader" (147 : Nat) ({ cls := "TrustChain$Reader", name := "digits", desc := "(I)I" } : MethodName)) ∈ tb := tb_in (tm_4 (List.mem_of_getElem? (i := 90) rfl)) rfl
theorem q4_91 : (Cond.privateMethod ({ cls := "TrustChain$Reader", name := "digits", desc := "(I)I" } : MethodName)) ∈ lw_tbl := tm_4 (List.mem_of_getElem? (i := 91) rfl)
theorem q4_92 : (Cond.instanceMethod ({ cls := "TrustChain$Reader", name := "digits", desc := "(I)I" } : MethodName)) ∈ tb := tb_in (tm_4 (List.mem_of_getElem? (i := 92) rfl)) rfl
theorem q4_93 : (Cond.code ({ cls := "TrustChain$Reader", name := "digits", desc := "(I)I" } : MethodName) prog_8_method_23_code (2 : Nat) (some FieldType.int)) ∈ tb := tb_in (tm_4 (List.mem_of_getElem? (i := 93) rfl)) rfl
theorem q4_94 : (Cond.methodLink "TrustChain$Reader" (150 : Nat) ({ cls := "TrustChain$Reader", name := "areDigits", desc := "(II)Z" } : MethodName)) ∈ tb := tb_in (tm_4 (List.mem_of_getElem? (i := 94) rfl)) rfl
theorem q4_95 : (Cond.privateMethod ({ cls := "TrustChain$Reader", name := "areDigits", desc := "(II)Z" } : MethodName)) ∈ lw_tbl := tm_4 (List.mem_of_getElem? (i := 95) rfl)
theorem q4_96 : (Cond.instanceMethod ({ cls := "TrustChain$Reader", name := "areDigits", desc := "(II)Z" } : MethodName)) ∈ tb := tb_in (tm_4 (List.mem_of_getElem? (i := 96) rfl)) rfl
theorem q4_97 : (Cond.code ({ cls := "TrustChain$Reader", name := "areDigits", desc := "(II)Z" } : MethodName) prog_8_method_24_code (4 : Nat) (some FieldType.boolean)) ∈ tb := tb_in (tm_4 (List.mem_of_getElem? (i := 97) rfl)) rfl
theorem q4_98 : (Cond.methodLink "TrustChain$Reader" (153 : Nat) ({ cls := "TrustChain$Reader", name := "isDay", desc := "(III)Z" } : MethodName)) ∈ tb := tb_in (tm_4 (List.mem_of_getElem? (i := 98) rfl)) rfl
theorem q4_99 : (Cond.static ({ cls := "TrustChain$Reader", name := "isDay", desc := "(III)Z" } : MethodName)) ∈ tb := tb_in (tm_4 (List.mem_of_getElem? (i := 99) rfl)) rfl
theorem q4_100 : (Cond.code ({ cls := "TrustChain$Reader", name := "isDay", desc := "(III)Z" } : MethodName) prog_8_method_26_code (4 : Nat) (some FieldType.boolean)) ∈ tb := tb_in (tm_4 (List.mem_of_getElem? (i := 100) rfl)) rfl
theorem q4_101 : (Cond.fieldLink "TrustChain$Reader" (164 : Nat) "TrustChain$Reader" "MONTH_STARTS" "[I") ∈ tb := tb_in (tm_4 (List.mem_of_getElem? (i := 101) rfl)) rfl
theorem q4_102 : (Cond.laysStatic "TrustChain$Reader" "MONTH_STARTS" "[I") ∈ lw_tbl := tm_4 (List.mem_of_getElem? (i := 102) rfl)
theorem q4_103 : (Cond.methodLink "TrustChain$Reader" (167 : Nat) ({ cls := "TrustChain$Reader", name := "isLeap", desc := "(I)Z" } : MethodName)) ∈ tb := tb_in (tm_4 (List.mem_of_getElem? (i := 103) rfl)) rfl
theorem q4_104 : (Cond.static ({ cls := "TrustChain$Reader", name := "isLeap", desc := "(I)Z" } : MethodName)) ∈ tb := tb_in (tm_4 (List.mem_of_getElem? (i := 104) rfl)) rfl
theorem q4_105 : (Cond.code ({ cls := "TrustChain$Reader", name := "isLeap", desc := "(I)Z" } : MethodName) prog_8_method_25_code (1 : Nat) (some FieldType.boolean)) ∈ tb := tb_in (tm_4 (List.mem_of_getElem? (i := 105) rfl)) rfl
theorem q4_106 : (Cond.methodLink "TrustChain$Reader" (156 : Nat) ({ cls := "TrustChain$Reader", name := "daysTo", desc := "(III)J" } : MethodName)) ∈ tb := tb_in (tm_4 (List.mem_of_getElem? (i := 106) rfl)) rfl
theorem q4_107 : (Cond.static ({ cls := "TrustChain$Reader", name := "daysTo", desc := "(III)J" } : MethodName)) ∈ tb := tb_in (tm_4 (List.mem_of_getElem? (i := 107) rfl)) rfl
theorem q4_108 : (Cond.code ({ cls := "TrustChain$Reader", name := "daysTo", desc := "(III)J" } : MethodName) prog_8_method_27_code (5 : Nat) (some FieldType.long)) ∈ tb := tb_in (tm_4 (List.mem_of_getElem? (i := 108) rfl)) rfl
theorem q4_109 : (Cond.constantLong "TrustChain$Reader" (170 : Nat) (365 : Int64)) ∈ tb := tb_in (tm_4 (List.mem_of_getElem? (i := 109) rfl)) rfl
theorem q4_110 : (Cond.constantLong "TrustChain$Reader" (172 : Nat) (719527 : Int64)) ∈ tb := tb_in (tm_4 (List.mem_of_getElem? (i := 110) rfl)) rfl
theorem q4_111 : (Cond.constantLong "TrustChain$Reader" (160 : Nat) (24 : Int64)) ∈ tb := tb_in (tm_4 (List.mem_of_getElem? (i := 111) rfl)) rfl
theorem q4_112 : (Cond.constantLong "TrustChain$Reader" (162 : Nat) (60 : Int64)) ∈ tb := tb_in (tm_4 (List.mem_of_getElem? (i := 112) rfl)) rfl
theorem q4_113 : (Cond.methodLink "TrustChain$CertificateReader" (113 : Nat) ({ cls := "TrustChain$CertificateReader", name := "name", desc := "(I)LTrustChain$Slice;" } : MethodName)) ∈ tb := tb_in (tm_4 (List.mem_of_getElem? (i := 113) rfl)) rfl
theorem q4_114 : (Cond.sameMethod "TrustChain$CertificateReader" "TrustChain$Reader" "name" "(I)LTrustChain$Slice;") ∈ tb := tb_in (tm_4 (List.mem_of_getElem? (i := 114) rfl)) rfl
theorem q4_115 : (Cond.declares ({ cls := "TrustChain$Reader", name := "name", desc := "(I)LTrustChain$Slice;" } : MethodName)) ∈ lw_tbl := tm_4 (List.mem_of_getElem? (i := 115) rfl)
theorem q4_116 : (Cond.selects "TrustChain$CertificateReader" ({ cls := "TrustChain$CertificateReader", name := "name", desc := "(I)LTrustChain$Slice;" } : MethodName) ({ cls := "TrustChain$Reader", name := "name", desc := "(I)LTrustChain$Slice;" } : MethodName)) ∈ tb := tb_in (tm_4 (List.mem_of_getElem? (i := 116) rfl)) rfl
theorem q4_117 : (Cond.methodLink "TrustChain$CertificateReader" (125 : Nat) ({ cls := "TrustChain$Slice", name := "same", desc := "(LTrustChain$Slice;)Z" } : MethodName)) ∈ tb := tb_in (tm_4 (List.mem_of_getElem? (i := 117) rfl)) rfl
theorem q4_118 : (Cond.instanceMethod ({ cls := "TrustChain$Slice", name := "same", desc := "(LTrustChain$Slice;)Z" } : MethodName)) ∈ tb := tb_in (tm_4 (List.mem_of_getElem? (i := 118) rfl)) rfl
theorem q4_119 : (Cond.selects "TrustChain$Slice" ({ cls := "TrustChain$Slice", name := "same", desc := "(LTrustChain$Slice;)Z" } : MethodName) ({ cls := "TrustChain$Slice", name := "same", desc := "(LTrustChain$Slice;)Z" } : MethodName)) ∈ tb := tb_in (tm_4 (List.mem_of_getElem? (i := 119) rfl)) rfl
theorem q4_120 : (Cond.code ({ cls := "TrustChain$Slice", name := "same", desc := "(LTrustChain$Slice;)Z" } : MethodName) prog_12_method_4_code (2 : Nat) (some FieldType.boolean)) ∈ tb := tb_in (tm_4 (List.mem_of_getElem? (i := 120) rfl)) rfl
theorem q4_121 : (Cond.methodLink "TrustChain$Slice" (26 : Nat) ({ cls := "TrustChain$Slice", name := "beginsWith", desc := "(LTrustChain$Slice;)Z" } : MethodName)) ∈ tb := tb_in (tm_4 (List.mem_of_getElem? (i := 121) rfl)) rfl
theorem q4_122 : (Cond.instanceMethod ({ cls := "TrustChain$Slice", name := "beginsWith", desc := "(LTrustChain$Slice;)Z" } : MethodName)) ∈ tb := tb_in (tm_4 (List.mem_of_getElem? (i := 122) rfl)) rfl
theorem q4_123 : (Cond.selects "TrustChain$Slice" ({ cls := "TrustChain$Slice", name := "beginsWith", desc := "(LTrustChain$Slice;)Z" } : MethodName) ({ cls := "TrustChain$Slice", name := "beginsWith", desc := "(LTrustChain$Slice;)Z" } : MethodName)) ∈ tb := tb_in (tm_4 (List.mem_of_getElem? (i := 123) rfl)) rfl
theorem q4_124 : (Cond.code ({ cls := "TrustChain$Slice", name := "beginsWith", desc := "(LTrustChain$Slice;)Z" } : MethodName) prog_12_method_5_code (3 : Nat) (some FieldType.boolean)) ∈ tb := tb_in (tm_4 (List.mem_of_getElem? (i := 124) rfl)) rfl
theorem q4_125 : (Cond.methodLink "TrustChain$CertificateReader" (40 : Nat) ({ cls := "TrustChain$CertificateReader", name := "readKey", desc := "(I)V" } : MethodName)) ∈ tb := tb_in (tm_4 (List.mem_of_getElem? (i := 125) rfl)) rfl
theorem q4_126 : (Cond.privateMethod ({ cls := "TrustChain$CertificateReader", name := "readKey", desc := "(I)V" } : MethodName)) ∈ lw_tbl := tm_4 (List.mem_of_getElem? (i := 126) rfl)
theorem q4_127 : (Cond.instanceMethod ({ cls := "TrustChain$CertificateReader", name := "readKey", desc := "(I)V" } : MethodName)) ∈ tb := tb_in (tm_4 (List.mem_of_getElem? (i := 127) rfl)) rfl
theorem q4_128 : (Cond.code ({ cls := "TrustChain$CertificateReader", name := "readKey", desc := "(I)V" } : MethodName) prog_3_method_4_code (7 : Nat) none) ∈ tb := tb_in (tm_4 (List.mem_of_getElem? (i := 128) rfl)) rfl
theorem q4_129 : (Cond.methodLink "TrustChain$CertificateReader" (133 : Nat) ({ cls := "TrustChain$CertificateReader", name := "openBits", desc := "(I)I" } : MethodName)) ∈ tb := tb_in (tm_4 (List.mem_of_getElem? (i := 129) rfl)) rfl
theorem q4_130 : (Cond.sameMethod "TrustChain$CertificateReader" "TrustChain$Reader" "openBits" "(I)I") ∈ tb := tb_in (tm_4 (List.mem_of_getElem? (i := 130) rfl)) rfl
theorem q4_131 : (Cond.declares ({ cls := "TrustChain$Reader", name := "openBits", desc := "(I)I" } : MethodName)) ∈ lw_tbl := tm_4 (List.mem_of_getElem? (i := 131) rfl)
theorem q4_132 : (Cond.selects "TrustChain$CertificateReader" ({ cls := "TrustChain$CertificateReader", name := "openBits", desc := "(I)I" } : MethodName) ({ cls := "TrustChain$Reader", name := "openBits", desc := "(I)I" } : MethodName)) ∈ tb := tb_in (tm_4 (List.mem_of_getElem? (i := 132) rfl)) rfl
theorem q4_133 : (Cond.instanceMethod ({ cls := "TrustChain$Reader", name := "openBits", desc := "(I)I" } : MethodName)) ∈ tb := tb_in (tm_4 (List.mem_of_getElem? (i := 133) rfl)) rfl
theorem q4_134 : (Cond.code ({ cls := "TrustChain$Reader", name := "openBits", desc := "(I)I" } : MethodName) prog_8_method_14_code (3 : Nat) (some FieldType.int)) ∈ tb := tb_in (tm_4 (List.mem_of_getElem? (i := 134) rfl)) rfl
theorem q4_135 : (Cond.methodLink "TrustChain$CertificateReader" (137 : Nat) ({ cls := "TrustChain$CertificateReader", name := "readModulus", desc := "(I)V" } : MethodName)) ∈ tb := tb_in (tm_4 (List.mem_of_getElem? (i := 135) rfl)) rfl
theorem q4_136 : (Cond.privateMethod ({ cls := "TrustChain$CertificateReader", name := "readModulus", desc := "(I)V" } : MethodName)) ∈ lw_tbl := tm_4 (List.mem_of_getElem? (i := 136) rfl)
theorem q4_137 : (Cond.instanceMethod ({ cls := "TrustChain$CertificateReader", name := "readModulus", desc := "(I)V" } : MethodName)) ∈ tb := tb_in (tm_4 (List.mem_of_getElem? (i := 137) rfl)) rfl
theorem q4_138 : (Cond.code ({ cls := "TrustChain$CertificateReader", name := "readModulus", desc := "(I)V" } : MethodName) prog_3_method_5_code (6 : Nat) none) ∈ tb := tb_in (tm_4 (List.mem_of_getElem? (i := 138) rfl)) rfl
theorem q4_139 : (Cond.methodLink "TrustChain$CertificateReader" (147 : Nat) ({ cls := "TrustChain$Slice", name := "at", desc := "(I)I" } : MethodName)) ∈ tb := tb_in (tm_4 (List.mem_of_getElem? (i := 139) rfl)) rfl
theorem q4_140 : (Cond.classLink "TrustChain$CertificateReader" (53 : Nat) "TrustChain$Slice") ∈ tb := tb_in (tm_4 (List.mem_of_getElem? (i := 140) rfl)) rfl
theorem q4_141 : (Cond.methodLink "TrustChain$CertificateReader" (55 : Nat) ({ cls := "TrustChain$Slice", name := "<init>", desc := "([BII)V" } : MethodName)) ∈ tb := tb_in (tm_4 (List.mem_of_getElem? (i := 141) rfl)) rfl
theorem q4_142 : (Cond.methodLink "TrustChain$CertificateReader" (156 : Nat) ({ cls := "TrustChain$Slice", name := "length", desc := "()I" } : MethodName)) ∈ tb := tb_in (tm_4 (List.mem_of_getElem? (i := 142) rfl)) rfl
theorem q4_143 : (Cond.constantLong "TrustChain$CertificateReader" (140 : Nat) (3 : Int64)) ∈ tb := tb_in (tm_4 (List.mem_of_getElem? (i := 143) rfl)) rfl
theorem q4_144 : (Cond.constantLong "TrustChain$CertificateReader" (142 : Nat) (2147483647 : Int64)) ∈ tb := tb_in (tm_4 (List.mem_of_getElem? (i := 144) rfl)) rfl
theorem q4_145 : (Cond.methodLink "TrustChain$CertificateReader" (43 : Nat) ({ cls := "TrustChain$CertificateReader", name := "nextIs", desc := "(II)Z" } : MethodName)) ∈ tb := tb_in (tm_4 (List.mem_of_getElem? (i := 145) rfl)) rfl
theorem q4_146 : (Cond.sameMethod "TrustChain$CertificateReader" "TrustChain$Reader" "nextIs" "(II)Z") ∈ tb := tb_in (tm_4 (List.mem_of_getElem? (i := 146) rfl)) rfl
theorem q4_147 : (Cond.declares ({ cls := "TrustChain$Reader", name := "nextIs", desc := "(II)Z" } : MethodName)) ∈ lw_tbl := tm_4 (List.mem_of_getElem? (i := 147) rfl)
theorem q4_148 : (Cond.selects "TrustChain$CertificateReader" ({ cls := "TrustChain$CertificateReader", name := "nextIs", desc := "(II)Z" } : MethodName) ({ cls := "TrustChain$Reader", name := "nextIs", desc := "(II)Z" } : MethodName)) ∈ tb := tb_in (tm_4 (List.mem_of_getElem? (i := 148) rfl)) rfl
theorem q4_149 : (Cond.methodLink "TrustChain$CertificateReader" (47 : Nat) ({ cls := "TrustChain$CertificateReader", name := "readExtensions", desc := "(I)V" } : MethodName)) ∈ tb := tb_in (tm_4 (List.mem_of_getElem? (i := 149) rfl)) rfl
theorem q4_150 : (Cond.sameMethod "TrustChain$CertificateReader" "TrustChain$Reader" "readExtensions" "(I)V") ∈ tb := tb_in (tm_4 (List.mem_of_getElem? (i := 150) rfl)) rfl
theorem q4_151 : (Cond.declares ({ cls := "TrustChain$Reader", name := "readExtensions", desc := "(I)V" } : MethodName)) ∈ lw_tbl := tm_4 (List.mem_of_getElem? (i := 151) rfl)
theorem q4_152 : (Cond.selects "TrustChain$CertificateReader" ({ cls := "TrustChain$CertificateReader", name := "readExtensions", desc := "(I)V" } : MethodName) ({ cls := "TrustChain$Reader", name := "readExtensions", desc := "(I)V" } : MethodName)) ∈ tb := tb_in (tm_4 (List.mem_of_getElem? (i := 152) rfl)) rfl
theorem q4_153 : (Cond.instanceMethod ({ cls := "TrustChain$Reader", name := "readExtensions", desc := "(I)V" } : MethodName)) ∈ tb := tb_in (tm_4 (List.mem_of_getElem? (i := 153) rfl)) rfl
theorem q4_154 : (Cond.code ({ cls := "TrustChain$Reader", name := "readExtensions", desc := "(I)V" } : MethodName) prog_8_method_19_code (10 : Nat) none) ∈ tb := tb_in (tm_4 (List.mem_of_getElem? (i := 154) rfl)) rfl
theorem q4_155 : (Cond.methodLink "TrustChain$Reader" (110 : Nat) ({ cls := "java/util/ArrayList", name := "clear", desc := "()V" } : MethodName)) ∈ tb := tb_in (tm_4 (List.mem_of_getElem? (i := 155) rfl)) rfl
theorem q4_156 : (Cond.instanceMethod ({ cls := "java/util/ArrayList", name := "clear", desc := "()V" } : MethodName)) ∈ tb := tb_in (tm_4 (List.mem_of_getElem? (i := 156) rfl)) rfl
theorem q4_157 : (Cond.selects "java/util/ArrayList" ({ cls := "java/util/ArrayList", name := "clear", desc := "()V" } : MethodName) ({ cls := "java/util/ArrayList", name := "clear", desc := "()V" } : MethodName)) ∈ tb := tb_in (tm_4 (List.mem_of_getElem? (i := 157) rfl)) rfl
theorem q4_158 : (Cond.code ({ cls := "java/util/ArrayList", name := "clear", desc := "()V" } : MethodName) prog_33_method_40_code (4 : Nat) none) ∈ tb := tb_in (tm_4 (List.mem_of_getElem? (i := 158) rfl)) rfl
theorem q4_159 : (Cond.methodLink "TrustChain$Reader" (113 : Nat) ({ cls := "TrustChain$Reader", name := "flag", desc := "(I)V" } : MethodName)) ∈ tb := tb_in (tm_4 (List.mem_of_getElem? (i := 159) rfl)) rfl
theorem q4_160 : (Cond.instanceMethod ({ cls := "TrustChain$Reader", name := "flag", desc := "(I)V" } : MethodName)) ∈ tb := tb_in (tm_4 (List.mem_of_getElem? (i := 160) rfl)) rfl
theorem q4_161 : (Cond.sameMethod "TrustChain$Reader" "TrustChain$Reader" "flag" "(I)V") ∈ tb := tb_in (tm_4 (List.mem_of_getElem? (i := 161) rfl)) rfl
theorem q4_162 : (Cond.selects "TrustChain$CertificateReader" ({ cls := "TrustChain$Reader", name := "flag", desc := "(I)V" } : MethodName) ({ cls := "TrustChain$Reader", name := "flag", desc := "(I)V" } : MethodName)) ∈ tb := tb_in (tm_4 (List.mem_of_getElem? (i := 162) rfl)) rfl
theorem q4_163 : (Cond.selects "TrustChain$ListReader" ({ cls := "TrustChain$Reader", name := "flag", desc := "(I)V" } : MethodName) ({ cls := "TrustChain$Reader", name := "flag", desc := "(I)V" } : MethodName)) ∈ tb := tb_in (tm_4 (List.mem_of_getElem? (i := 163) rfl)) rfl
theorem q4_164 : (Cond.code ({ cls := "TrustChain$Reader", name := "flag", desc := "(I)V" } : MethodName) prog_8_method_13_code (3 : Nat) none) ∈ tb := tb_in (tm_4 (List.mem_of_getElem? (i := 164) rfl)) rfl
theorem q4_165 : (Cond.methodLink "TrustChain$Reader" (116 : Nat) ({ cls := "TrustChain$Reader", name := "kindNumber", desc := "(LTrustChain$Slice;)I" } : MethodName)) ∈ tb := tb_in (tm_4 (List.mem_of_getElem? (i := 165) rfl)) rfl
theorem q4_166 : (Cond.static ({ cls := "TrustChain$Reader", name := "kindNumber", desc := "(LTrustChain$Slice;)I" } : MethodName)) ∈ tb := tb_in (tm_4 (List.mem_of_getElem? (i := 166) rfl)) rfl
theorem q4_167 : (Cond.code ({ cls := "TrustChain$Reader", name := "kindNumber", desc := "(LTrustChain$Slice;)I" } : MethodName) prog_8_method_33_code (1 : Nat) (some FieldType.int)) ∈ tb := tb_in (tm_4 (List.mem_of_getElem? (i := 167) rfl)) rfl
theorem q4_168 : (Cond.methodLink "TrustChain$Reader" (120 : Nat) ({ cls := "TrustChain$Reader", name := "readKnown", desc := "(II)Z" } : MethodName)) ∈ tb := tb_in (tm_4 (List.mem_of_getElem? (i := 168) rfl)) rfl
theorem q4_169 : (Cond.declares ({ cls := "TrustChain$Reader", name := "readKnown", desc := "(II)Z" } : MethodName)) ∈ lw_tbl := tm_4 (List.mem_of_getElem? (i := 169) rfl)
theorem q4_170 : (Cond.sameMethod "TrustChain$Reader" "TrustChain$Reader" "readKnown" "(II)Z") ∈ tb := tb_in (tm_4 (List.mem_of_getElem? (i := 170) rfl)) rfl
theorem q4_171 : (Cond.selects "TrustChain$CertificateReader" ({ cls := "TrustChain$Reader", name := "readKnown", desc := "(II)Z" } : MethodName) ({ cls := "TrustChain$CertificateReader", name := "readKnown", desc := "(II)Z" } : MethodName)) ∈ tb := tb_in (tm_4 (List.mem_of_getElem? (i := 171) rfl)) rfl
theorem q4_172 : (Cond.instanceMethod ({ cls := "TrustChain$CertificateReader", name := "readKnown", desc := "(II)Z" } : MethodName)) ∈ tb := tb_in (tm_4 (List.mem_of_getElem? (i := 172) rfl)) rfl
theorem q4_173 : (Cond.code ({ cls := "TrustChain$CertificateReader", name := "readKnown", desc := "(II)Z" } : MethodName) prog_3_method_6_code (5 : Nat) (some FieldType.boolean)) ∈ tb := tb_in (tm_4 (List.mem_of_getElem? (i := 173) rfl)) rfl
theorem q4_174 : (Cond.methodLink "TrustChain$CertificateReader" (166 : Nat) ({ cls := "TrustChain$CertificateReader", name := "plain", desc := "(III)LTrustChain$Slice;" } : MethodName)) ∈ tb := tb_in (tm_4 (List.mem_of_getElem? (i := 174) rfl)) rfl
theorem q4_175 : (Cond.sameMethod "TrustChain$CertificateReader" "TrustChain$Reader" "plain" "(III)LTrustChain$Slice;") ∈ tb := tb_in (tm_4 (List.mem_of_getElem? (i := 175) rfl)) rfl
theorem q4_176 : (Cond.declares ({ cls := "TrustChain$Reader", name := "plain", desc := "(III)LTrustChain$Slice;" } : MethodName)) ∈ lw_tbl := tm_4 (List.mem_of_getElem? (i := 176) rfl)
theorem q4_177 : (Cond.selects "TrustChain$CertificateReader" ({ cls := "TrustChain$CertificateReader", name := "plain", desc := "(III)LTrustChain$Slice;" } : MethodName) ({ cls := "TrustChain$Reader", name := "plain", desc := "(III)LTrustChain$Slice;" } : MethodName)) ∈ tb := tb_in (tm_4 (List.mem_of_getElem? (i := 177) rfl)) rfl
theorem q4_178 : (Cond.instanceMethod ({ cls := "TrustChain$Reader", name := "plain", desc := "(III)LTrustChain$Slice;" } : MethodName)) ∈ tb := tb_in (tm_4 (List.mem_of_getElem? (i := 178) rfl)) rfl
theorem q4_179 : (Cond.code ({ cls := "TrustChain$Reader", name := "plain", desc := "(III)LTrustChain$Slice;" } : MethodName) prog_8_method_15_code (6 : Nat) (some (FieldType.object "TrustChain$Slice"))) ∈ tb := tb_in (tm_4 (List.mem_of_getElem? (i := 179) rfl)) rfl
theorem q4_180 : (Cond.methodLink "TrustChain$CertificateReader" (173 : Nat) ({ cls := "TrustChain$CertificateReader", name := "readUsage", desc := "(I)V" } : MethodName)) ∈ tb := tb_in (tm_4 (List.mem_of_getElem? (i := 180) rfl)) rfl
theorem q4_181 : (Cond.privateMethod ({ cls := "TrustChain$CertificateReader", name := "readUsage", desc := "(I)V" } : MethodName)) ∈ lw_tbl := tm_4 (List.mem_of_getElem? (i := 181) rfl)
theorem q4_182 : (Cond.instanceMethod ({ cls := "TrustChain$CertificateReader", name := "readUsage", desc := "(I)V" } : MethodName)) ∈ tb := tb_in (tm_4 (List.mem_of_getElem? (i := 182) rfl)) rfl
theorem q4_183 : (Cond.code ({ cls := "TrustChain$CertificateReader", name := "readUsage", desc := "(I)V" } : MethodName) prog_3_method_8_code (10 : Nat) none) ∈ tb := tb_in (tm_4 (List.mem_of_getElem? (i := 183) rfl)) rfl
theorem q4_184 : (Cond.methodLink "TrustChain$CertificateReader" (213 : Nat) ({ cls := "TrustChain$CertificateReader", name := "octet", desc := "(I)I" } : MethodName)) ∈ tb := tb_in (tm_4 (List.mem_of_getElem? (i := 184) rfl)) rfl
theorem q4_185 : (Cond.sameMethod "TrustChain$CertificateReader" "TrustChain$Reader" "octet" "(I)I") ∈ tb := tb_in (tm_4 (List.mem_of_getElem? (i := 185) rfl)) rfl
theorem q4_186 : (Cond.declares ({ cls := "TrustChain$Reader", name := "octet", desc := "(I)I" } : MethodName)) ∈ lw_tbl := tm_4 (List.mem_of_getElem? (i := 186) rfl)
theorem q4_187 : (Cond.selects "TrustChain$CertificateReader" ({ cls := "TrustChain$CertificateReader", name := "octet", desc := "(I)I" } : MethodName) ({ cls := "TrustChain$Reader", name := "octet", desc := "(I)I" } : MethodName)) ∈ tb := tb_in (tm_4 (List.mem_of_getElem? (i := 187) rfl)) rfl
theorem q4_188 : (Cond.methodLink "TrustChain$CertificateReader" (216 : Nat) ({ cls := "TrustChain$CertificateReader", name := "leave", desc := "(IZ)V" } : MethodName)) ∈ tb := tb_in (tm_4 (List.mem_of_getElem? (i := 188) rfl)) rfl
theorem q4_189 : (Cond.sameMethod "TrustChain$CertificateReader" "TrustChain$Reader" "leave" "(IZ)V") ∈ tb := tb_in (tm_4 (List.mem_of_getElem? (i := 189) rfl)) rfl
theorem q4_190 : (Cond.declares ({ cls := "TrustChain$Reader", name := "leave", desc := "(IZ)V" } : MethodName)) ∈ lw_tbl := tm_4 (List.mem_of_getElem? (i := 190) rfl)
theorem q4_191 : (Cond.selects "TrustChain$CertificateReader" ({ cls := "TrustChain$CertificateReader", name := "leave", desc := "(IZ)V" } : MethodName) ({ cls := "TrustChain$Reader", name := "leave", desc := "(IZ)V" } : MethodName)) ∈ tb := tb_in (tm_4 (List.mem_of_getElem? (i := 191) rfl)) rfl
theorem q4_192 : (Cond.methodLink "TrustChain$CertificateReader" (176 : Nat) ({ cls := "TrustChain$CertificateReader", name := "readNames", desc := "(I)V" } : MethodName)) ∈ tb := tb_in (tm_4 (List.mem_of_getElem? (i := 192) rfl)) rfl
theorem q4_193 : (Cond.privateMethod ({ cls := "TrustChain$CertificateReader", name := "readNames", desc := "(I)V" } : MethodName)) ∈ lw_tbl := tm_4 (List.mem_of_getElem? (i := 193) rfl)
theorem q4_194 : (Cond.instanceMethod ({ cls := "TrustChain$CertificateReader", name := "readNames", desc := "(I)V" } : MethodName)) ∈ tb := tb_in (tm_4 (List.mem_of_getElem? (i := 194) rfl)) rfl
theorem q4_195 : (Cond.code ({ cls := "TrustChain$CertificateReader", name := "readNames", desc := "(I)V" } : MethodName) prog_3_method_9_code (5 : Nat) none) ∈ tb := tb_in (tm_4 (List.mem_of_getElem? (i := 195) rfl)) rfl
theorem q4_196 : (Cond.methodLink "TrustChain$CertificateReader" (190 : Nat) ({ cls := "TrustChain$CertificateReader", name := "more", desc := "(I)Z" } : MethodName)) ∈ tb := tb_in (tm_4 (List.mem_of_getElem? (i := 196) rfl)) rfl
theorem q4_197 : (Cond.sameMethod "TrustChain$CertificateReader" "TrustChain$Reader" "more" "(I)Z") ∈ tb := tb_in (tm_4 (List.mem_of_getElem? (i := 197) rfl)) rfl
theorem q4_198 : (Cond.declares ({ cls := "TrustChain$Reader", name := "more", desc := "(I)Z" } : MethodName)) ∈ lw_tbl := tm_4 (List.mem_of_getElem? (i := 198) rfl)
theorem q4_199 : (Cond.selects "TrustChain$CertificateReader" ({ cls := "TrustChain$CertificateReader", name := "more", desc := "(I)Z" } : MethodName) ({ cls := "TrustChain$Reader", name := "more", desc := "(I)Z" } : MethodName)) ∈ tb := tb_in (tm_4 (List.mem_of_getElem? (i := 199) rfl)) rfl
theorem q4_200 : (Cond.methodLink "TrustChain$CertificateReader" (232 : Nat) ({ cls := "java/util/ArrayList", name := "add", desc := "(Ljava/lang/Object;)Z" } : MethodName)) ∈ tb := tb_in (tm_4 (List.mem_of_getElem? (i := 200) rfl)) rfl
theorem q4_201 : (Cond.instanceMethod ({ cls := "java/util/ArrayList", name := "add", desc := "(Ljava/lang/Object;)Z" } : MethodName)) ∈ tb := tb_in (tm_4 (List.mem_of_getElem? (i := 201) rfl)) rfl
theorem q4_202 : (Cond.selects "java/util/ArrayList" ({ cls := "java/util/ArrayList", name := "add", desc := "(Ljava/lang/Object;)Z" } : MethodName) ({ cls := "java/util/ArrayList", name := "add", desc := "(Ljava/lang/Object;)Z" } : MethodName)) ∈ tb := tb_in (tm_4 (List.mem_of_getElem? (i := 202) rfl)) rfl
theorem q4_203 : (Cond.code ({ cls := "java/util/ArrayList", name := "add", desc := "(Ljava/lang/Object;)Z" } : MethodName) prog_33_method_25_code (2 : Nat) (some FieldType.boolean)) ∈ tb := tb_in (tm_4 (List.mem_of_getElem? (i := 203) rfl)) rfl
theorem q4_204 : (Cond.methodLink "java/util/ArrayList" (131 : Nat) ({ cls := "java/util/ArrayList", name := "add", desc := "(Ljava/lang/Object;[Ljava/lang/Object;I)V" } : MethodName)) ∈ tb := tb_in (tm_4 (List.mem_of_getElem? (i := 204) rfl)) rfl
theorem q4_205 : (Cond.privateMethod ({ cls := "java/util/ArrayList", name := "add", desc := "(Ljava/lang/Object;[Ljava/lang/Object;I)V" } : MethodName)) ∈ lw_tbl := tm_4 (List.mem_of_getElem? (i := 205) rfl)
theorem q4_206 : (Cond.instanceMethod ({ cls := "java/util/ArrayList", name := "add", desc := "(Ljava/lang/Object;[Ljava/lang/Object;I)V" } : MethodName)) ∈ tb := tb_in (tm_4 (List.mem_of_getElem? (i := 206) rfl)) rfl
theorem q4_207 : (Cond.code ({ cls := "java/util/ArrayList", name := "add", desc := "(Ljava/lang/Object;[Ljava/lang/Object;I)V" } : MethodName) prog_33_method_24_code (4 : Nat) none) ∈ tb := tb_in (tm_4 (List.mem_of_getElem? (i := 207) rfl)) rfl
theorem q4_208 : (Cond.methodLink "java/util/ArrayList" (129 : Nat) ({ cls := "java/util/ArrayList", name := "grow", desc := "()[Ljava/lang/Object;" } : MethodName)) ∈ tb := tb_in (tm_4 (List.mem_of_getElem? (i := 208) rfl)) rfl
theorem q4_209 : (Cond.privateMethod ({ cls := "java/util/ArrayList", name := "grow", desc := "()[Ljava/lang/Object;" } : MethodName)) ∈ lw_tbl := tm_4 (List.mem_of_getElem? (i := 209) rfl)
theorem q4_210 : (Cond.instanceMethod ({ cls := "java/util/ArrayList", name := "grow", desc := "()[Ljava/lang/Object;" } : MethodName)) ∈ tb := tb_in (tm_4 (List.mem_of_getElem? (i := 210) rfl)) rfl
theorem q4_211 : (Cond.code ({ cls := "java/util/ArrayList", name := "grow", desc := "()[Ljava/lang/Object;" } : MethodName) prog_33_method_7_code (1 : Nat) (some (FieldType.array (FieldType.object "java/lang/Object")))) ∈ tb := tb_in (tm_4 (List.mem_of_getElem? (i := 211) rfl)) rfl
theorem q4_212 : (Cond.methodLink "java/util/ArrayList" (69 : Nat) ({ cls := "java/util/ArrayList", name := "grow", desc := "(I)[Ljava/lang/Object;" } : MethodName)) ∈ tb := tb_in (tm_4 (List.mem_of_getElem? (i := 212) rfl)) rfl
theorem q4_213 : (Cond.privateMethod ({ cls := "java/util/ArrayList", name := "grow", desc := "(I)[Ljava/lang/Object;" } : MethodName)) ∈ lw_tbl := tm_4 (List.mem_of_getElem? (i := 213) rfl)
theorem q4_214 : (Cond.instanceMethod ({ cls := "java/util/ArrayList", name := "grow", desc := "(I)[Ljava/lang/Object;" } : MethodName)) ∈ tb := tb_in (tm_4 (List.mem_of_getElem? (i := 214) rfl)) rfl
theorem q4_215 : (Cond.code ({ cls := "java/util/ArrayList", name := "grow", desc := "(I)[Ljava/lang/Object;" } : MethodName) prog_33_method_6_code (4 : Nat) (some (FieldType.array (FieldType.object "java/lang/Object")))) ∈ tb := tb_in (tm_4 (List.mem_of_getElem? (i := 215) rfl)) rfl
theorem q4_216 : (Cond.methodLink "java/util/ArrayList" (73 : Nat) ({ cls := "jdk/internal/util/ArraysSupport", name := "newLength", desc := "(III)I" } : MethodName)) ∈ tb := tb_in (tm_4 (List.mem_of_getElem? (i := 216) rfl)) rfl
theorem q4_217 : (Cond.static ({ cls := "jdk/internal/util/ArraysSupport", name := "newLength", desc := "(III)I" } : MethodName)) ∈ tb := tb_in (tm_4 (List.mem_of_getElem? (i := 217) rfl)) rfl
theorem q4_218 : (Cond.code ({ cls := "jdk/internal/util/ArraysSupport", name := "newLength", desc := "(III)I" } : MethodName) prog_40_method_27_code (4 : Nat) (some FieldType.int)) ∈ tb := tb_in (tm_4 (List.mem_of_getElem? (i := 218) rfl)) rfl
theorem q4_219 : (Cond.methodLink "jdk/internal/util/ArraysSupport" (194 : Nat) ({ cls := "java/lang/Math", name := "max", desc := "(II)I" } : MethodName)) ∈ tb := tb_in (tm_4 (List.mem_of_getElem? (i := 219) rfl)) rfl
theorem q4_220 : (Cond.constant "jdk/internal/util/ArraysSupport" (200 : Nat) (2147483639 : Int32)) ∈ tb := tb_in (tm_4 (List.mem_of_getElem? (i := 220) rfl)) rfl
theorem q4_221 : (Cond.methodLink "jdk/internal/util/ArraysSupport" (201 : Nat) ({ cls := "jdk/internal/util/ArraysSupport", name := "hugeLength", desc := "(II)I" } : MethodName)) ∈ tb := tb_in (tm_4 (List.mem_of_getElem? (i := 221) rfl)) rfl
theorem q4_222 : (Cond.static ({ cls := "jdk/internal/util/ArraysSupport", name := "hugeLength", desc := "(II)I" } : MethodName)) ∈ tb := tb_in (tm_4 (List.mem_of_getElem? (i := 222) rfl)) rfl
theorem q4_223 : (Cond.code ({ cls := "jdk/internal/util/ArraysSupport", name := "hugeLength", desc := "(II)I" } : MethodName) prog_40_method_28_code (3 : Nat) (some FieldType.int)) ∈ tb := tb_in (tm_4 (List.mem_of_getElem? (i := 223) rfl)) rfl
theorem q4_224 : (Cond.methodLink "java/util/ArrayList" (66 : Nat) ({ cls := "java/util/Arrays", name := "copyOf", desc := "([Ljava/lang/Object;I)[Ljava/lang/Object;" } : MethodName)) ∈ tb := tb_in (tm_4 (List.mem_of_getElem? (i := 224) rfl)) rfl
theorem q4_225 : (Cond.static ({ cls := "java/util/Arrays", name := "copyOf", desc := "([Ljava/lang/Object;I)[Ljava/lang/Object;" } : MethodName)) ∈ tb := tb_in (tm_4 (List.mem_of_getElem? (i := 225) rfl)) rfl
theorem q4_226 : (Cond.code ({ cls := "java/util/Arrays", name := "copyOf", desc := "([Ljava/lang/Object;I)[Ljava/lang/Object;" } : MethodName) prog_34_method_119_code (2 : Nat) (some (FieldType.array (FieldType.object "java/lang/Object")))) ∈ tb := tb_in (tm_4 (List.mem_of_getElem? (i := 226) rfl)) rfl
theorem q4_227 : (Cond.methodLink "java/util/Arrays" (86 : Nat) ({ cls := "java/lang/Object", name := "getClass", desc := "()Ljava/lang/Class;" } : MethodName)) ∈ tb := tb_in (tm_4 (List.mem_of_getElem? (i := 227) rfl)) rfl
theorem q4_228 : (Cond.instanceMethod ({ cls := "java/lang/Object", name := "getClass", desc := "()Ljava/lang/Class;" } : MethodName)) ∈ tb := tb_in (tm_4 (List.mem_of_getElem? (i := 228) rfl)) rfl
theorem q4_229 : (Cond.sameMethod "java/lang/Object" "java/lang/Object" "getClass" "()Ljava/lang/Class;") ∈ tb := tb_in (tm_4 (List.mem_of_getElem? (i := 229) rfl)) rfl
theorem q4_230 : (Cond.selects "TrustChain" ({ cls := "java/lang/Object", name := "getClass", desc := "()Ljava/lang/Class;" } : MethodName) ({ cls := "java/lang/Object", name := "getClass", desc := "()Ljava/lang/Class;" } : MethodName)) ∈ tb := tb_in (tm_4 (List.mem_of_getElem? (i := 230) rfl)) rfl
theorem q4_231 : (Cond.selects "TrustChain$Certificate" ({ cls := "java/lang/Object", name := "getClass", desc := "()Ljava/lang/Class;" } : MethodName) ({ cls := "java/lang/Object", name := "getClass", desc := "()Ljava/lang/Class;" } : MethodName)) ∈ tb := tb_in (tm_4 (List.mem_of_getElem? (i := 231) rfl)) rfl
theorem q4_232 : (Cond.selects "TrustChain$CertificateReader" ({ cls := "java/lang/Object", name := "getClass", desc := "()Ljava/lang/Class;" } : MethodName) ({ cls := "java/lang/Object", name := "getClass", desc := "()Ljava/lang/Class;" } : MethodName)) ∈ tb := tb_in (tm_4 (List.mem_of_getElem? (i := 232) rfl)) rfl
theorem q4_233 : (Cond.selects "TrustChain$ListReader" ({ cls := "java/lang/Object", name := "getClass", desc := "()Ljava/lang/Class;" } : MethodName) ({ cls := "java/lang/Object", name := "getClass", desc := "()Ljava/lang/Class;" } : MethodName)) ∈ tb := tb_in (tm_4 (List.mem_of_getElem? (i := 233) rfl)) rfl
theorem q4_234 : (Cond.selects "TrustChain$NameSet" ({ cls := "java/lang/Object", name := "getClass", desc := "()Ljava/lang/Class;" } : MethodName) ({ cls := "java/lang/Object", name := "getClass", desc := "()Ljava/lang/Class;" } : MethodName)) ∈ tb := tb_in (tm_4 (List.mem_of_getElem? (i := 234) rfl)) rfl
theorem q4_235 : (Cond.selects "TrustChain$Paper" ({ cls := "java/lang/Object", name := "getClass", desc := "()Ljava/lang/Class;" } : MethodName) ({ cls := "java/lang/Object", name := "getClass", desc := "()Ljava/lang/Class;" } : MethodName)) ∈ tb := tb_in (tm_4 (List.mem_of_getElem? (i := 235) rfl)) rfl
theorem q4_236 : (Cond.selects "TrustChain$PathCheck" ({ cls := "java/lang/Object", name := "getClass", desc := "()Ljava/lang/Class;" } : MethodName) ({ cls := "java/lang/Object", name := "getClass", desc := "()Ljava/lang/Class;" } : MethodName)) ∈ tb := tb_in (tm_4 (List.mem_of_getElem? (i := 236) rfl)) rfl
theorem q4_237 : (Cond.selects "TrustChain$Rsa" ({ cls := "java/lang/Object", name := "getClass", desc := "()Ljava/lang/Class;" } : MethodName) ({ cls := "java/lang/Object", name := "getClass", desc := "()Ljava/lang/Class;" } : MethodName)) ∈ tb := tb_in (tm_4 (List.mem_of_getElem? (i := 237) rfl)) rfl
theorem q4_238 : (Cond.selects "TrustChain$Search" ({ cls := "java/lang/Object", name := "getClass", desc := "()Ljava/lang/Class;" } : MethodName) ({ cls := "java/lang/Object", name := "getClass", desc := "()Ljava/lang/Class;" } : MethodName)) ∈ tb := tb_in (tm_4 (List.mem_of_getElem? (i := 238) rfl)) rfl
theorem q4_239 : (Cond.selects "TrustChain$Sha256" ({ cls := "java/lang/Object", name := "getClass", desc := "()Ljava/lang/Class;" } : MethodName) ({ cls := "java/lang/Object", name := "getClass", desc := "()Ljava/lang/Class;" } : MethodName)) ∈ tb := tb_in (tm_4 (List.mem_of_getElem? (i := 239) rfl)) rfl
theorem q5_0 : (Cond.selects "TrustChain$Slice" ({ cls := "java/lang/Object", name := "getClass", desc := "()Ljava/lang/Class;" } : MethodName) ({ cls := "java/lang/Object", name := "getClass", desc := "()Ljava/lang/Class;" } : MethodName)) ∈ tb := tb_in (tm_5 (List.mem_of_getElem? (i := 0) rfl)) rfl
theorem q5_1 : (Cond.selects "TrustChainModel" ({ cls := "java/lang/Object", name := "getClass", desc := "()Ljava/lang/Class;" } : MethodName) ({ cls := "java/lang/Object", name := "getClass", desc := "()Ljava/lang/Class;" } : MethodName)) ∈ tb := tb_in (tm_5 (List.mem_of_getElem? (i := 1) rfl)) rfl
theorem q5_2 : (Cond.selects "TrustChainModel$Text" ({ cls := "java/lang/Object", name := "getClass", desc := "()Ljava/lang/Class;" } : MethodName) ({ cls := "java/lang/Object", name := "getClass", desc := "()Ljava/lang/Class;" } : MethodName)) ∈ tb := tb_in (tm_5 (List.mem_of_getElem? (i := 2) rfl)) rfl
theorem q5_3 : (Cond.selects "java/lang/IllegalArgumentException" ({ cls := "java/lang/Object", name := "getClass", desc := "()Ljava/lang/Class;" } : MethodName) ({ cls := "java/lang/Object", name := "getClass", desc := "()Ljava/lang/Class;" } : MethodName)) ∈ tb := tb_in (tm_5 (List.mem_of_getElem? (i := 3) rfl)) rfl
theorem q5_4 : (Cond.selects "java/lang/IndexOutOfBoundsException" ({ cls := "java/lang/Object", name := "getClass", desc := "()Ljava/lang/Class;" } : MethodName) ({ cls := "java/lang/Object", name := "getClass", desc := "()Ljava/lang/Class;" } : MethodName)) ∈ tb := tb_in (tm_5 (List.mem_of_getElem? (i := 4) rfl)) rfl
theorem q5_5 : (Cond.selects "java/util/ArrayList" ({ cls := "java/lang/Object", name := "getClass", desc := "()Ljava/lang/Class;" } : MethodName) ({ cls := "java/lang/Object", name := "getClass", desc := "()Ljava/lang/Class;" } : MethodName)) ∈ tb := tb_in (tm_5 (List.mem_of_getElem? (i := 5) rfl)) rfl
theorem q5_6 : (Cond.native ({ cls := "java/lang/Object", name := "getClass", desc := "()Ljava/lang/Class;" } : MethodName)) ∈ tb := tb_in (tm_5 (List.mem_of_getElem? (i := 6) rfl)) rfl
theorem q5_7 : (Cond.methodLink "java/util/Arrays" (300 : Nat) ({ cls := "java/util/Arrays", name := "copyOf", desc := "([Ljava/lang/Object;ILjava/lang/Class;)[Ljava/lang/Object;" } : MethodName)) ∈ tb := tb_in (tm_5 (List.mem_of_getElem? (i := 7) rfl)) rfl
theorem q5_8 : (Cond.static ({ cls := "java/util/Arrays", name := "copyOf", desc := "([Ljava/lang/Object;ILjava/lang/Class;)[Ljava/lang/Object;" } : MethodName)) ∈ tb := tb_in (tm_5 (List.mem_of_getElem? (i := 8) rfl)) rfl
theorem q5_9 : (Cond.code ({ cls := "java/util/Arrays", name := "copyOf", desc := "([Ljava/lang/Object;ILjava/lang/Class;)[Ljava/lang/Object;" } : MethodName) prog_34_method_120_code (4 : Nat) (some (FieldType.array (FieldType.object "java/lang/Object")))) ∈ tb := tb_in (tm_5 (List.mem_of_getElem? (i := 9) rfl)) rfl
theorem q5_10 : (Cond.classLink "java/util/Arrays" (110 : Nat) "[Ljava/lang/Object;") ∈ tb := tb_in (tm_5 (List.mem_of_getElem? (i := 10) rfl)) rfl
theorem q5_11 : (Cond.arrayOver (FieldType.object "java/lang/Object")) ∈ lw_tbl := tm_5 (List.mem_of_getElem? (i := 11) rfl)
theorem q5_12 : (Cond.classLink "java/util/Arrays" (2 : Nat) "java/lang/Object") ∈ tb := tb_in (tm_5 (List.mem_of_getElem? (i := 12) rfl)) rfl
theorem q5_13 : (Cond.methodLink "java/util/ArrayList" (79 : Nat) ({ cls := "java/lang/Math", name := "max", desc := "(II)I" } : MethodName)) ∈ tb := tb_in (tm_5 (List.mem_of_getElem? (i := 13) rfl)) rfl
theorem q5_14 : (Cond.classLink "java/util/ArrayList" (7 : Nat) "java/lang/Object") ∈ tb := tb_in (tm_5 (List.mem_of_getElem? (i := 14) rfl)) rfl
theorem q5_15 : (Cond.methodLink "TrustChain$CertificateReader" (238 : Nat) ({ cls := "TrustChain$CertificateReader", name := "isVisible", desc := "(LTrustChain$Slice;)Z" } : MethodName)) ∈ tb := tb_in (tm_5 (List.mem_of_getElem? (i := 15) rfl)) rfl
theorem q5_16 : (Cond.static ({ cls := "TrustChain$CertificateReader", name := "isVisible", desc := "(LTrustChain$Slice;)Z" } : MethodName)) ∈ tb := tb_in (tm_5 (List.mem_of_getElem? (i := 16) rfl)) rfl
theorem q5_17 : (Cond.code ({ cls := "TrustChain$CertificateReader", name := "isVisible", desc := "(LTrustChain$Slice;)Z" } : MethodName) prog_3_method_11_code (2 : Nat) (some FieldType.boolean)) ∈ tb := tb_in (tm_5 (List.mem_of_getElem? (i := 17) rfl)) rfl
theorem q5_18 : (Cond.methodLink "TrustChain$CertificateReader" (179 : Nat) ({ cls := "TrustChain$CertificateReader", name := "readBasic", desc := "(I)V" } : MethodName)) ∈ tb := tb_in (tm_5 (List.mem_of_getElem? (i := 18) rfl)) rfl
theorem q5_19 : (Cond.privateMethod ({ cls := "TrustChain$CertificateReader", name := "readBasic", desc := "(I)V" } : MethodName)) ∈ lw_tbl := tm_5 (List.mem_of_getElem? (i := 19) rfl)
theorem q5_20 : (Cond.instanceMethod ({ cls := "TrustChain$CertificateReader", name := "readBasic", desc := "(I)V" } : MethodName)) ∈ tb := tb_in (tm_5 (List.mem_of_getElem? (i := 20) rfl)) rfl
theorem q5_21 : (Cond.code ({ cls := "TrustChain$CertificateReader", name := "readBasic", desc := "(I)V" } : MethodName) prog_3_method_7_code (6 : Nat) none) ∈ tb := tb_in (tm_5 (List.mem_of_getElem? (i := 21) rfl)) rfl
theorem q5_22 : (Cond.methodLink "TrustChain$CertificateReader" (202 : Nat) ({ cls := "TrustChain$CertificateReader", name := "flag", desc := "(I)V" } : MethodName)) ∈ tb := tb_in (tm_5 (List.mem_of_getElem? (i := 22) rfl)) rfl
theorem q5_23 : (Cond.sameMethod "TrustChain$CertificateReader" "TrustChain$Reader" "flag" "(I)V") ∈ tb := tb_in (tm_5 (List.mem_of_getElem? (i := 23) rfl)) rfl
theorem q5_24 : (Cond.declares ({ cls := "TrustChain$Reader", name := "flag", desc := "(I)V" } : MethodName)) ∈ lw_tbl := tm_5 (List.mem_of_getElem? (i := 24) rfl)
theorem q5_25 : (Cond.selects "TrustChain$CertificateReader" ({ cls := "TrustChain$CertificateReader", name := "flag", desc := "(I)V" } : MethodName) ({ cls := "TrustChain$Reader", name := "flag", desc := "(I)V" } : MethodName)) ∈ tb := tb_in (tm_5 (List.mem_of_getElem? (i := 25) rfl)) rfl
theorem q5_26 : (Cond.constantLong "TrustChain$CertificateReader" (208 : Nat) (255 : Int64)) ∈ tb := tb_in (tm_5 (List.mem_of_getElem? (i := 26) rfl)) rfl
theorem q5_27 : (Cond.methodLink "TrustChain$CertificateReader" (186 : Nat) ({ cls := "TrustChain$CertificateReader", name := "readTrees", desc := "(ILTrustChain$NameSet;I)V" } : MethodName)) ∈ tb := tb_in (tm_5 (List.mem_of_getElem? (i := 27) rfl)) rfl
theorem q5_28 : (Cond.privateMethod ({ cls := "TrustChain$CertificateReader", name := "readTrees", desc := "(ILTrustChain$NameSet;I)V" } : MethodName)) ∈ lw_tbl := tm_5 (List.mem_of_getElem? (i := 28) rfl)
theorem q5_29 : (Cond.instanceMethod ({ cls := "TrustChain$CertificateReader", name := "readTrees", desc := "(ILTrustChain$NameSet;I)V" } : MethodName)) ∈ tb := tb_in (tm_5 (List.mem_of_getElem? (i := 29) rfl)) rfl
theorem q5_30 : (Cond.code ({ cls := "TrustChain$CertificateReader", name := "readTrees", desc := "(ILTrustChain$NameSet;I)V" } : MethodName) prog_3_method_10_code (8 : Nat) none) ∈ tb := tb_in (tm_5 (List.mem_of_getElem? (i := 30) rfl)) rfl
theorem q5_31 : (Cond.methodLink "TrustChain$CertificateReader" (197 : Nat) ({ cls := "TrustChain$CertificateReader", name := "issuerKey", desc := "(I)LTrustChain$Slice;" } : MethodName)) ∈ tb := tb_in (tm_5 (List.mem_of_getElem? (i := 31) rfl)) rfl
theorem q5_32 : (Cond.sameMethod "TrustChain$CertificateReader" "TrustChain$Reader" "issuerKey" "(I)LTrustChain$Slice;") ∈ tb := tb_in (tm_5 (List.mem_of_getElem? (i := 32) rfl)) rfl
theorem q5_33 : (Cond.declares ({ cls := "TrustChain$Reader", name := "issuerKey", desc := "(I)LTrustChain$Slice;" } : MethodName)) ∈ lw_tbl := tm_5 (List.mem_of_getElem? (i := 33) rfl)
theorem q5_34 : (Cond.selects "TrustChain$CertificateReader" ({ cls := "TrustChain$CertificateReader", name := "issuerKey", desc := "(I)LTrustChain$Slice;" } : MethodName) ({ cls := "TrustChain$Reader", name := "issuerKey", desc := "(I)LTrustChain$Slice;" } : MethodName)) ∈ tb := tb_in (tm_5 (List.mem_of_getElem? (i := 34) rfl)) rfl
theorem q5_35 : (Cond.instanceMethod ({ cls := "TrustChain$Reader", name := "issuerKey", desc := "(I)LTrustChain$Slice;" } : MethodName)) ∈ tb := tb_in (tm_5 (List.mem_of_getElem? (i := 35) rfl)) rfl
theorem q5_36 : (Cond.code ({ cls := "TrustChain$Reader", name := "issuerKey", desc := "(I)LTrustChain$Slice;" } : MethodName) prog_8_method_21_code (4 : Nat) (some (FieldType.object "TrustChain$Slice"))) ∈ tb := tb_in (tm_5 (List.mem_of_getElem? (i := 36) rfl)) rfl
theorem q5_37 : (Cond.methodLink "TrustChain$Reader" (143 : Nat) ({ cls := "TrustChain$Reader", name := "plain", desc := "(III)LTrustChain$Slice;" } : MethodName)) ∈ tb := tb_in (tm_5 (List.mem_of_getElem? (i := 37) rfl)) rfl
theorem q5_38 : (Cond.selects "TrustChain$ListReader" ({ cls := "TrustChain$Reader", name := "readKnown", desc := "(II)Z" } : MethodName) ({ cls := "TrustChain$ListReader", name := "readKnown", desc := "(II)Z" } : MethodName)) ∈ tb := tb_in (tm_5 (List.mem_of_getElem? (i := 38) rfl)) rfl
theorem q5_39 : (Cond.instanceMethod ({ cls := "TrustChain$ListReader", name := "readKnown", desc := "(II)Z" } : MethodName)) ∈ tb := tb_in (tm_5 (List.mem_of_getElem? (i := 39) rfl)) rfl
theorem q5_40 : (Cond.code ({ cls := "TrustChain$ListReader", name := "readKnown", desc := "(II)Z" } : MethodName) prog_4_method_4_code (5 : Nat) (some FieldType.boolean)) ∈ tb := tb_in (tm_5 (List.mem_of_getElem? (i := 40) rfl)) rfl
theorem q5_41 : (Cond.methodLink "TrustChain$ListReader" (92 : Nat) ({ cls := "TrustChain$ListReader", name := "number", desc := "(II)LTrustChain$Slice;" } : MethodName)) ∈ tb := tb_in (tm_5 (List.mem_of_getElem? (i := 41) rfl)) rfl
theorem q5_42 : (Cond.sameMethod "TrustChain$ListReader" "TrustChain$Reader" "number" "(II)LTrustChain$Slice;") ∈ tb := tb_in (tm_5 (List.mem_of_getElem? (i := 42) rfl)) rfl
theorem q5_43 : (Cond.selects "TrustChain$ListReader" ({ cls := "TrustChain$ListReader", name := "number", desc := "(II)LTrustChain$Slice;" } : MethodName) ({ cls := "TrustChain$Reader", name := "number", desc := "(II)LTrustChain$Slice;" } : MethodName)) ∈ tb := tb_in (tm_5 (List.mem_of_getElem? (i := 43) rfl)) rfl
theorem q5_44 : (Cond.methodLink "TrustChain$ListReader" (96 : Nat) ({ cls := "TrustChain$Slice", name := "number", desc := "()J" } : MethodName)) ∈ tb := tb_in (tm_5 (List.mem_of_getElem? (i := 44) rfl)) rfl
theorem q5_45 : (Cond.constantLong "TrustChain$ListReader" (120 : Nat) (10 : Int64)) ∈ tb := tb_in (tm_5 (List.mem_of_getElem? (i := 45) rfl)) rfl
theorem q5_46 : (Cond.constantLong "TrustChain$ListReader" (122 : Nat) (7 : Int64)) ∈ tb := tb_in (tm_5 (List.mem_of_getElem? (i := 46) rfl)) rfl
theorem q5_47 : (Cond.methodLink "TrustChain$ListReader" (99 : Nat) ({ cls := "TrustChain$ListReader", name := "require", desc := "(Z)V" } : MethodName)) ∈ tb := tb_in (tm_5 (List.mem_of_getElem? (i := 47) rfl)) rfl
theorem q5_48 : (Cond.sameMethod "TrustChain$ListReader" "TrustChain$Reader" "require" "(Z)V") ∈ tb := tb_in (tm_5 (List.mem_of_getElem? (i := 48) rfl)) rfl
theorem q5_49 : (Cond.selects "TrustChain$ListReader" ({ cls := "TrustChain$ListReader", name := "require", desc := "(Z)V" } : MethodName) ({ cls := "TrustChain$Reader", name := "require", desc := "(Z)V" } : MethodName)) ∈ tb := tb_in (tm_5 (List.mem_of_getElem? (i := 49) rfl)) rfl
theorem q5_50 : (Cond.methodLink "TrustChain$ListReader" (124 : Nat) ({ cls := "TrustChain$Slice", name := "at", desc := "(I)I" } : MethodName)) ∈ tb := tb_in (tm_5 (List.mem_of_getElem? (i := 50) rfl)) rfl
theorem q5_51 : (Cond.methodLink "TrustChain$ListReader" (128 : Nat) ({ cls := "TrustChain$Slice", name := "length", desc := "()I" } : MethodName)) ∈ tb := tb_in (tm_5 (List.mem_of_getElem? (i := 51) rfl)) rfl
theorem q5_52 : (Cond.methodLink "TrustChain$ListReader" (132 : Nat) ({ cls := "TrustChain$ListReader", name := "issuerKey", desc := "(I)LTrustChain$Slice;" } : MethodName)) ∈ tb := tb_in (tm_5 (List.mem_of_getElem? (i := 52) rfl)) rfl
theorem q5_53 : (Cond.sameMethod "TrustChain$ListReader" "TrustChain$Reader" "issuerKey" "(I)LTrustChain$Slice;") ∈ tb := tb_in (tm_5 (List.mem_of_getElem? (i := 53) rfl)) rfl
theorem q5_54 : (Cond.selects "TrustChain$ListReader" ({ cls := "TrustChain$ListReader", name := "issuerKey", desc := "(I)LTrustChain$Slice;" } : MethodName) ({ cls := "TrustChain$Reader", name := "issuerKey", desc := "(I)LTrustChain$Slice;" } : MethodName)) ∈ tb := tb_in (tm_5 (List.mem_of_getElem? (i := 54) rfl)) rfl
theorem q5_55 : (Cond.methodLink "TrustChain$Reader" (123 : Nat) ({ cls := "TrustChain$Reader", name := "isRepeated", desc := "(LTrustChain$Slice;)Z" } : MethodName)) ∈ tb := tb_in (tm_5 (List.mem_of_getElem? (i := 55) rfl)) rfl
theorem q5_56 : (Cond.privateMethod ({ cls := "TrustChain$Reader", name := "isRepeated", desc := "(LTrustChain$Slice;)Z" } : MethodName)) ∈ lw_tbl := tm_5 (List.mem_of_getElem? (i := 56) rfl)
theorem q5_57 : (Cond.instanceMethod ({ cls := "TrustChain$Reader", name := "isRepeated", desc := "(LTrustChain$Slice;)Z" } : MethodName)) ∈ tb := tb_in (tm_5 (List.mem_of_getElem? (i := 57) rfl)) rfl
theorem q5_58 : (Cond.code ({ cls := "TrustChain$Reader", name := "isRepeated", desc := "(LTrustChain$Slice;)Z" } : MethodName) prog_8_method_32_code (3 : Nat) (some FieldType.boolean)) ∈ tb := tb_in (tm_5 (List.mem_of_getElem? (i := 58) rfl)) rfl
theorem q5_59 : (Cond.methodLink "TrustChain$Reader" (188 : Nat) ({ cls := "java/util/ArrayList", name := "size", desc := "()I" } : MethodName)) ∈ tb := tb_in (tm_5 (List.mem_of_getElem? (i := 59) rfl)) rfl
theorem q5_60 : (Cond.methodLink "TrustChain$Reader" (191 : Nat) ({ cls := "java/util/ArrayList", name := "get", desc := "(I)Ljava/lang/Object;" } : MethodName)) ∈ tb := tb_in (tm_5 (List.mem_of_getElem? (i := 60) rfl)) rfl
theorem q5_61 : (Cond.instanceMethod ({ cls := "java/util/ArrayList", name := "get", desc := "(I)Ljava/lang/Object;" } : MethodName)) ∈ tb := tb_in (tm_5 (List.mem_of_getElem? (i := 61) rfl)) rfl
theorem q5_62 : (Cond.selects "java/util/ArrayList" ({ cls := "java/util/ArrayList", name := "get", desc := "(I)Ljava/lang/Object;" } : MethodName) ({ cls := "java/util/ArrayList", name := "get", desc := "(I)Ljava/lang/Object;" } : MethodName)) ∈ tb := tb_in (tm_5 (List.mem_of_getElem? (i := 62) rfl)) rfl
theorem q5_63 : (Cond.code ({ cls := "java/util/ArrayList", name := "get", desc := "(I)Ljava/lang/Object;" } : MethodName) prog_33_method_20_code (2 : Nat) (some (FieldType.object "java/lang/Object"))) ∈ tb := tb_in (tm_5 (List.mem_of_getElem? (i := 63) rfl)) rfl
theorem q5_64 : (Cond.methodLink "java/util/ArrayList" (118 : Nat) ({ cls := "java/util/Objects", name := "checkIndex", desc := "(II)I" } : MethodName)) ∈ tb := tb_in (tm_5 (List.mem_of_getElem? (i := 64) rfl)) rfl
theorem q5_65 : (Cond.static ({ cls := "java/util/Objects", name := "checkIndex", desc := "(II)I" } : MethodName)) ∈ tb := tb_in (tm_5 (List.mem_of_getElem? (i := 65) rfl)) rfl
theorem q5_66 : (Cond.code ({ cls := "java/util/Objects", name := "checkIndex", desc := "(II)I" } : MethodName) prog_37_method_17_code (2 : Nat) (some FieldType.int)) ∈ tb := tb_in (tm_5 (List.mem_of_getElem? (i := 66) rfl)) rfl
theorem q5_67 : (Cond.methodLink "java/util/Objects" (105 : Nat) ({ cls := "jdk/internal/util/Preconditions", name := "checkIndex", desc := "(IILjava/util/function/BiFunction;)I" } : MethodName)) ∈ tb := tb_in (tm_5 (List.mem_of_getElem? (i := 67) rfl)) rfl
theorem q5_68 : (Cond.static ({ cls := "jdk/internal/util/Preconditions", name := "checkIndex", desc := "(IILjava/util/function/BiFunction;)I" } : MethodName)) ∈ tb := tb_in (tm_5 (List.mem_of_getElem? (i := 68) rfl)) rfl
theorem q5_69 : (Cond.code ({ cls := "jdk/internal/util/Preconditions", name := "checkIndex", desc := "(IILjava/util/function/BiFunction;)I" } : MethodName) prog_41_method_11_code (3 : Nat) (some FieldType.int)) ∈ tb := tb_in (tm_5 (List.mem_of_getElem? (i := 69) rfl)) rfl
theorem q5_70 : (Cond.methodLink "java/util/ArrayList" (123 : Nat) ({ cls := "java/util/ArrayList", name := "elementData", desc := "(I)Ljava/lang/Object;" } : MethodName)) ∈ tb := tb_in (tm_5 (List.mem_of_getElem? (i := 70) rfl)) rfl
theorem q5_71 : (Cond.instanceMethod ({ cls := "java/util/ArrayList", name := "elementData", desc := "(I)Ljava/lang/Object;" } : MethodName)) ∈ tb := tb_in (tm_5 (List.mem_of_getElem? (i := 71) rfl)) rfl
theorem q5_72 : (Cond.selects "java/util/ArrayList" ({ cls := "java/util/ArrayList", name := "elementData", desc := "(I)Ljava/lang/Object;" } : MethodName) ({ cls := "java/util/ArrayList", name := "elementData", desc := "(I)Ljava/lang/Object;" } : MethodName)) ∈ tb := tb_in (tm_5 (List.mem_of_getElem? (i := 72) rfl)) rfl
theorem q5_73 : (Cond.code ({ cls := "java/util/ArrayList", name := "elementData", desc := "(I)Ljava/lang/Object;" } : MethodName) prog_33_method_18_code (2 : Nat) (some (FieldType.object "java/lang/Object"))) ∈ tb := tb_in (tm_5 (List.mem_of_getElem? (i := 73) rfl)) rfl
theorem q5_74 : (Cond.methodLink "TrustChain$Reader" (195 : Nat) ({ cls := "TrustChain$Slice", name := "same", desc := "(LTrustChain$Slice;)Z" } : MethodName)) ∈ tb := tb_in (tm_5 (List.mem_of_getElem? (i := 74) rfl)) rfl
theorem q5_75 : (Cond.methodLink "TrustChain$Reader" (127 : Nat) ({ cls := "java/util/ArrayList", name := "add", desc := "(Ljava/lang/Object;)Z" } : MethodName)) ∈ tb := tb_in (tm_5 (List.mem_of_getElem? (i := 75) rfl)) rfl
theorem q5_76 : (Cond.methodLink "TrustChain$CertificateReader" (69 : Nat) ({ cls := "TrustChain$CertificateReader", name := "readSignature", desc := "(LTrustChain$Paper;I)V" } : MethodName)) ∈ tb := tb_in (tm_5 (List.mem_of_getElem? (i := 76) rfl)) rfl
theorem q5_77 : (Cond.sameMethod "TrustChain$CertificateReader" "TrustChain$Reader" "readSignature" "(LTrustChain$Paper;I)V") ∈ tb := tb_in (tm_5 (List.mem_of_getElem? (i := 77) rfl)) rfl
theorem q5_78 : (Cond.declares ({ cls := "TrustChain$Reader", name := "readSignature", desc := "(LTrustChain$Paper;I)V" } : MethodName)) ∈ lw_tbl := tm_5 (List.mem_of_getElem? (i := 78) rfl)
theorem q5_79 : (Cond.selects "TrustChain$CertificateReader" ({ cls := "TrustChain$CertificateReader", name := "readSignature", desc := "(LTrustChain$Paper;I)V" } : MethodName) ({ cls := "TrustChain$Reader", name := "readSignature", desc := "(LTrustChain$Paper;I)V" } : MethodName)) ∈ tb := tb_in (tm_5 (List.mem_of_getElem? (i := 79) rfl)) rfl
theorem q5_80 : (Cond.instanceMethod ({ cls := "TrustChain$Reader", name := "readSignature", desc := "(LTrustChain$Paper;I)V" } : MethodName)) ∈ tb := tb_in (tm_5 (List.mem_of_getElem? (i := 80) rfl)) rfl
theorem q5_81 : (Cond.code ({ cls := "TrustChain$Reader", name := "readSignature", desc := "(LTrustChain$Paper;I)V" } : MethodName) prog_8_method_20_code (4 : Nat) none) ∈ tb := tb_in (tm_5 (List.mem_of_getElem? (i := 81) rfl)) rfl
theorem q5_82 : (Cond.methodLink "TrustChain$Reader" (131 : Nat) ({ cls := "TrustChain$Reader", name := "algorithm", desc := "(II)V" } : MethodName)) ∈ tb := tb_in (tm_5 (List.mem_of_getElem? (i := 82) rfl)) rfl
theorem q5_83 : (Cond.methodLink "TrustChain$Reader" (135 : Nat) ({ cls := "TrustChain$Reader", name := "openBits", desc := "(I)I" } : MethodName)) ∈ tb := tb_in (tm_5 (List.mem_of_getElem? (i := 83) rfl)) rfl
theorem q5_84 : (Cond.classLink "TrustChain" (110 : Nat) "java/lang/IllegalArgumentException") ∈ tb := tb_in (tm_5 (List.mem_of_getElem? (i := 84) rfl)) rfl
theorem q5_85 : (Cond.instantiable "java/lang/IllegalArgumentException" (6 : Nat)) ∈ tb := tb_in (tm_5 (List.mem_of_getElem? (i := 85) rfl)) rfl
theorem q5_86 : (Cond.castable "java/lang/IllegalArgumentException" "java/lang/IllegalArgumentException") ∈ lw_tbl := tm_5 (List.mem_of_getElem? (i := 86) rfl)
theorem q5_87 : (Cond.selects "java/lang/IllegalArgumentException" ({ cls := "java/lang/Throwable", name := "fillInStackTrace", desc := "(I)Ljava/lang/Throwable;" } : MethodName) ({ cls := "java/lang/Throwable", name := "fillInStackTrace", desc := "(I)Ljava/lang/Throwable;" } : MethodName)) ∈ tb := tb_in (tm_5 (List.mem_of_getElem? (i := 87) rfl)) rfl
theorem q5_88 : (Cond.lays "java/lang/IllegalArgumentException" "java/lang/Throwable" "cause" "Ljava/lang/Throwable;") ∈ tb := tb_in (tm_5 (List.mem_of_getElem? (i := 88) rfl)) rfl
theorem q5_89 : (Cond.lays "java/lang/IllegalArgumentException" "java/lang/Throwable" "stackTrace" "[Ljava/lang/StackTraceElement;") ∈ tb := tb_in (tm_5 (List.mem_of_getElem? (i := 89) rfl)) rfl
theorem q5_90 : (Cond.lays "java/lang/IllegalArgumentException" "java/lang/Throwable" "suppressedExceptions" "Ljava/util/List;") ∈ tb := tb_in (tm_5 (List.mem_of_getElem? (i := 90) rfl)) rfl
theorem q5_91 : (Cond.lays "java/lang/IllegalArgumentException" "java/lang/Throwable" "detailMessage" "Ljava/lang/String;") ∈ tb := tb_in (tm_5 (List.mem_of_getElem? (i := 91) rfl)) rfl
theorem q5_92 : (Cond.lays "java/lang/IllegalArgumentException" "java/lang/Throwable" "backtrace" "Ljava/lang/Object;") ∈ tb := tb_in (tm_5 (List.mem_of_getElem? (i := 92) rfl)) rfl
theorem q5_93 : (Cond.stringRef "TrustChain" (112 : Nat) "WRONG") ∈ lw_tbl := tm_5 (List.mem_of_getElem? (i := 93) rfl)
theorem q5_94 : (Cond.methodLink "TrustChain" (114 : Nat) ({ cls := "java/lang/IllegalArgumentException", name := "<init>", desc := "(Ljava/lang/String;)V" } : MethodName)) ∈ tb := tb_in (tm_5 (List.mem_of_getElem? (i := 94) rfl)) rfl
theorem q5_95 : (Cond.instanceMethod ({ cls := "java/lang/IllegalArgumentException", name := "<init>", desc := "(Ljava/lang/String;)V" } : MethodName)) ∈ tb := tb_in (tm_5 (List.mem_of_getElem? (i := 95) rfl)) rfl
theorem q5_96 : (Cond.code ({ cls := "java/lang/IllegalArgumentException", name := "<init>", desc := "(Ljava/lang/String;)V" } : MethodName) prog_20_method_2_code (2 : Nat) none) ∈ tb := tb_in (tm_5 (List.mem_of_getElem? (i := 96) rfl)) rfl
theorem q5_97 : (Cond.methodLink "java/lang/IllegalArgumentException" (7 : Nat) ({ cls := "java/lang/RuntimeException", name := "<init>", desc := "(Ljava/lang/String;)V" } : MethodName)) ∈ tb := tb_in (tm_5 (List.mem_of_getElem? (i := 97) rfl)) rfl
theorem q5_98 : (Cond.lays "java/lang/IllegalArgumentException" "java/lang/Throwable" "depth" "I") ∈ tb := tb_in (tm_5 (List.mem_of_getElem? (i := 98) rfl)) rfl
theorem q5_99 : (Cond.superclass "java/lang/IllegalArgumentException" "java/lang/RuntimeException") ∈ tb := tb_in (tm_5 (List.mem_of_getElem? (i := 99) rfl)) rfl
theorem q5_100 : (Cond.methodLink "TrustChain" (128 : Nat) ({ cls := "TrustChain$Sha256", name := "hash", desc := "(LTrustChain$Slice;[I)V" } : MethodName)) ∈ tb := tb_in (tm_5 (List.mem_of_getElem? (i := 100) rfl)) rfl
theorem q5_101 : (Cond.instanceMethod ({ cls := "TrustChain$Sha256", name := "hash", desc := "(LTrustChain$Slice;[I)V" } : MethodName)) ∈ tb := tb_in (tm_5 (List.mem_of_getElem? (i := 101) rfl)) rfl
theorem q5_102 : (Cond.selects "TrustChain$Sha256" ({ cls := "TrustChain$Sha256", name := "hash", desc := "(LTrustChain$Slice;[I)V" } : MethodName) ({ cls := "TrustChain$Sha256", name := "hash", desc := "(LTrustChain$Slice;[I)V" } : MethodName)) ∈ tb := tb_in (tm_5 (List.mem_of_getElem? (i := 102) rfl)) rfl
theorem q5_103 : (Cond.code ({ cls := "TrustChain$Sha256", name := "hash", desc := "(LTrustChain$Slice;[I)V" } : MethodName) prog_11_method_2_code (5 : Nat) none) ∈ tb := tb_in (tm_5 (List.mem_of_getElem? (i := 103) rfl)) rfl
theorem q5_104 : (Cond.fieldLink "TrustChain$Sha256" (15 : Nat) "TrustChain$Sha256" "START" "[I") ∈ tb := tb_in (tm_5 (List.mem_of_getElem? (i := 104) rfl)) rfl
theorem q5_105 : (Cond.laysStatic "TrustChain$Sha256" "START" "[I") ∈ lw_tbl := tm_5 (List.mem_of_getElem? (i := 105) rfl)
theorem q5_106 : (Cond.methodLink "TrustChain$Sha256" (18 : Nat) ({ cls := "java/lang/System", name := "arraycopy", desc := "(Ljava/lang/Object;ILjava/lang/Object;II)V" } : MethodName)) ∈ tb := tb_in (tm_5 (List.mem_of_getElem? (i := 106) rfl)) rfl
theorem q5_107 : (Cond.methodLink "TrustChain$Sha256" (24 : Nat) ({ cls := "TrustChain$Slice", name := "length", desc := "()I" } : MethodName)) ∈ tb := tb_in (tm_5 (List.mem_of_getElem? (i := 107) rfl)) rfl
theorem q5_108 : (Cond.methodLink "TrustChain$Sha256" (30 : Nat) ({ cls := "TrustChain$Sha256", name := "fillSchedule", desc := "(LTrustChain$Slice;II)V" } : MethodName)) ∈ tb := tb_in (tm_5 (List.mem_of_getElem? (i := 108) rfl)) rfl
theorem q5_109 : (Cond.privateMethod ({ cls := "TrustChain$Sha256", name := "fillSchedule", desc := "(LTrustChain$Slice;II)V" } : MethodName)) ∈ lw_tbl := tm_5 (List.mem_of_getElem? (i := 109) rfl)
theorem q5_110 : (Cond.instanceMethod ({ cls := "TrustChain$Sha256", name := "fillSchedule", desc := "(LTrustChain$Slice;II)V" } : MethodName)) ∈ tb := tb_in (tm_5 (List.mem_of_getElem? (i := 110) rfl)) rfl
theorem q5_111 : (Cond.code ({ cls := "TrustChain$Sha256", name := "fillSchedule", desc := "(LTrustChain$Slice;II)V" } : MethodName) prog_11_method_3_code (9 : Nat) none) ∈ tb := tb_in (tm_5 (List.mem_of_getElem? (i := 111) rfl)) rfl
theorem q5_112 : (Cond.methodLink "TrustChain$Sha256" (38 : Nat) ({ cls := "TrustChain$Sha256", name := "padded", desc := "(LTrustChain$Slice;II)I" } : MethodName)) ∈ tb := tb_in (tm_5 (List.mem_of_getElem? (i := 112) rfl)) rfl
theorem q5_113 : (Cond.static ({ cls := "TrustChain$Sha256", name := "padded", desc := "(LTrustChain$Slice;II)I" } : MethodName)) ∈ tb := tb_in (tm_5 (List.mem_of_getElem? (i := 113) rfl)) rfl
theorem q5_114 : (Cond.code ({ cls := "TrustChain$Sha256", name := "padded", desc := "(LTrustChain$Slice;II)I" } : MethodName) prog_11_method_4_code (3 : Nat) (some FieldType.int)) ∈ tb := tb_in (tm_5 (List.mem_of_getElem? (i := 114) rfl)) rfl
theorem q5_115 : (Cond.methodLink "TrustChain$Sha256" (46 : Nat) ({ cls := "TrustChain$Slice", name := "at", desc := "(I)I" } : MethodName)) ∈ tb := tb_in (tm_5 (List.mem_of_getElem? (i := 115) rfl)) rfl
theorem q5_116 : (Cond.methodLink "TrustChain$Sha256" (42 : Nat) ({ cls := "TrustChain$Sha256", name := "turn", desc := "(II)I" } : MethodName)) ∈ tb := tb_in (tm_5 (List.mem_of_getElem? (i := 116) rfl)) rfl
theorem q5_117 : (Cond.static ({ cls := "TrustChain$Sha256", name := "turn", desc := "(II)I" } : MethodName)) ∈ tb := tb_in (tm_5 (List.mem_of_getElem? (i := 117) rfl)) rfl
theorem q5_118 : (Cond.code ({ cls := "TrustChain$Sha256", name := "turn", desc := "(II)I" } : MethodName) prog_11_method_6_code (2 : Nat) (some FieldType.int)) ∈ tb := tb_in (tm_5 (List.mem_of_getElem? (i := 118) rfl)) rfl
theorem q5_119 : (Cond.methodLink "TrustChain$Sha256" (34 : Nat) ({ cls := "TrustChain$Sha256", name := "mix", desc := "([I)V" } : MethodName)) ∈ tb := tb_in (tm_5 (List.mem_of_getElem? (i := 119) rfl)) rfl
theorem q5_120 : (Cond.privateMethod ({ cls := "TrustChain$Sha256", name := "mix", desc := "([I)V" } : MethodName)) ∈ lw_tbl := tm_5 (List.mem_of_getElem? (i := 120) rfl)
theorem q5_121 : (Cond.instanceMethod ({ cls := "TrustChain$Sha256", name := "mix", desc := "([I)V" } : MethodName)) ∈ tb := tb_in (tm_5 (List.mem_of_getElem? (i := 121) rfl)) rfl
theorem q5_122 : (Cond.code ({ cls := "TrustChain$Sha256", name := "mix", desc := "([I)V" } : MethodName) prog_11_method_5_code (15 : Nat) none) ∈ tb := tb_in (tm_5 (List.mem_of_getElem? (i := 122) rfl)) rfl
theorem q5_123 : (Cond.fieldLink "TrustChain$Sha256" (50 : Nat) "TrustChain$Sha256" "ROUND" "[I") ∈ tb := tb_in (tm_5 (List.mem_of_getElem? (i := 123) rfl)) rfl
theorem q5_124 : (Cond.laysStatic "TrustChain$Sha256" "ROUND" "[I") ∈ lw_tbl := tm_5 (List.mem_of_getElem? (i := 124) rfl)
theorem q5_125 : (Cond.methodLink "TrustChain" (138 : Nat) ({ cls := "java/util/ArrayList", name := "add", desc := "(Ljava/lang/Object;)Z" } : MethodName)) ∈ tb := tb_in (tm_5 (List.mem_of_getElem? (i := 125) rfl)) rfl
theorem q5_126 : (Cond.methodLink "TrustChain" (142 : Nat) ({ cls := "TrustChain", name := "linkIssuers", desc := "(LTrustChain$Certificate;)V" } : MethodName)) ∈ tb := tb_in (tm_5 (List.mem_of_getElem? (i := 126) rfl)) rfl
theorem q5_127 : (Cond.privateMethod ({ cls := "TrustChain", name := "linkIssuers", desc := "(LTrustChain$Certificate;)V" } : MethodName)) ∈ lw_tbl := tm_5 (List.mem_of_getElem? (i := 127) rfl)
theorem q5_128 : (Cond.instanceMethod ({ cls := "TrustChain", name := "linkIssuers", desc := "(LTrustChain$Certificate;)V" } : MethodName)) ∈ tb := tb_in (tm_5 (List.mem_of_getElem? (i := 128) rfl)) rfl
theorem q5_129 : (Cond.code ({ cls := "TrustChain", name := "linkIssuers", desc := "(LTrustChain$Certificate;)V" } : MethodName) prog_1_method_21_code (4 : Nat) none) ∈ tb := tb_in (tm_5 (List.mem_of_getElem? (i := 129) rfl)) rfl
theorem q5_130 : (Cond.methodLink "TrustChain" (165 : Nat) ({ cls := "java/util/ArrayList", name := "get", desc := "(I)Ljava/lang/Object;" } : MethodName)) ∈ tb := tb_in (tm_5 (List.mem_of_getElem? (i := 130) rfl)) rfl
theorem q5_131 : (Cond.classLink "TrustChain" (120 : Nat) "TrustChain$Certificate") ∈ tb := tb_in (tm_5 (List.mem_of_getElem? (i := 131) rfl)) rfl
theorem q5_132 : (Cond.methodLink "TrustChain" (254 : Nat) ({ cls := "TrustChain$Certificate", name := "mayFollow", desc := "(LTrustChain$Certificate;)Z" } : MethodName)) ∈ tb := tb_in (tm_5 (List.mem_of_getElem? (i := 132) rfl)) rfl
theorem q5_133 : (Cond.instanceMethod ({ cls := "TrustChain$Certificate", name := "mayFollow", desc := "(LTrustChain$Certificate;)Z" } : MethodName)) ∈ tb := tb_in (tm_5 (List.mem_of_getElem? (i := 133) rfl)) rfl
theorem q5_134 : (Cond.selects "TrustChain$Certificate" ({ cls := "TrustChain$Certificate", name := "mayFollow", desc := "(LTrustChain$Certificate;)Z" } : MethodName) ({ cls := "TrustChain$Certificate", name := "mayFollow", desc := "(LTrustChain$Certificate;)Z" } : MethodName)) ∈ tb := tb_in (tm_5 (List.mem_of_getElem? (i := 134) rfl)) rfl
theorem q5_135 : (Cond.code ({ cls := "TrustChain$Certificate", name := "mayFollow", desc := "(LTrustChain$Certificate;)Z" } : MethodName) prog_2_method_2_code (3 : Nat) (some FieldType.boolean)) ∈ tb := tb_in (tm_5 (List.mem_of_getElem? (i := 135) rfl)) rfl
theorem q5_136 : (Cond.methodLink "TrustChain$Certificate" (77 : Nat) ({ cls := "TrustChain$Slice", name := "length", desc := "()I" } : MethodName)) ∈ tb := tb_in (tm_5 (List.mem_of_getElem? (i := 136) rfl)) rfl
theorem q5_137 : (Cond.methodLink "TrustChain$Certificate" (86 : Nat) ({ cls := "TrustChain$Slice", name := "same", desc := "(LTrustChain$Slice;)Z" } : MethodName)) ∈ tb := tb_in (tm_5 (List.mem_of_getElem? (i := 137) rfl)) rfl
theorem q5_138 : (Cond.methodLink "TrustChainLaw" (76 : Nat) ({ cls := "TrustChainLaw", name := "list", desc := "(LTrustChain;I[J)I" } : MethodName)) ∈ tb := tb_in (tm_5 (List.mem_of_getElem? (i := 138) rfl)) rfl
theorem q5_139 : (Cond.static ({ cls := "TrustChainLaw", name := "list", desc := "(LTrustChain;I[J)I" } : MethodName)) ∈ tb := tb_in (tm_5 (List.mem_of_getElem? (i := 139) rfl)) rfl
theorem q5_140 : (Cond.codeWith ({ cls := "TrustChainLaw", name := "list", desc := "(LTrustChain;I[J)I" } : MethodName) method_5_code (4 : Nat) (some FieldType.int) [((0 : Nat), (9 : Nat), (12 : Nat), (13 : Nat)), ((0 : Nat), (9 : Nat), (15 : Nat), (19 : Nat))]) ∈ tb := tb_in (tm_5 (List.mem_of_getElem? (i := 140) rfl)) rfl
theorem q5_141 : (Cond.methodLink "TrustChainLaw" (21 : Nat) ({ cls := "TrustChain", name := "list", desc := "(I)I" } : MethodName)) ∈ tb := tb_in (tm_5 (List.mem_of_getElem? (i := 141) rfl)) rfl
theorem q5_142 : (Cond.instanceMethod ({ cls := "TrustChain", name := "list", desc := "(I)I" } : MethodName)) ∈ tb := tb_in (tm_5 (List.mem_of_getElem? (i := 142) rfl)) rfl
theorem q5_143 : (Cond.selects "TrustChain" ({ cls := "TrustChain", name := "list", desc := "(I)I" } : MethodName) ({ cls := "TrustChain", name := "list", desc := "(I)I" } : MethodName)) ∈ tb := tb_in (tm_5 (List.mem_of_getElem? (i := 143) rfl)) rfl
theorem q5_144 : (Cond.code ({ cls := "TrustChain", name := "list", desc := "(I)I" } : MethodName) prog_1_method_4_code (3 : Nat) (some FieldType.int)) ∈ tb := tb_in (tm_5 (List.mem_of_getElem? (i := 144) rfl)) rfl
theorem q5_145 : (Cond.classLink "TrustChain" (146 : Nat) "TrustChain$ListReader") ∈ tb := tb_in (tm_5 (List.mem_of_getElem? (i := 145) rfl)) rfl
theorem q5_146 : (Cond.instantiable "TrustChain$ListReader" (11 : Nat)) ∈ tb := tb_in (tm_5 (List.mem_of_getElem? (i := 146) rfl)) rfl
theorem q5_147 : (Cond.methodLink "TrustChain" (148 : Nat) ({ cls := "TrustChain$ListReader", name := "<init>", desc := "([B)V" } : MethodName)) ∈ tb := tb_in (tm_5 (List.mem_of_getElem? (i := 147) rfl)) rfl
theorem q5_148 : (Cond.instanceMethod ({ cls := "TrustChain$ListReader", name := "<init>", desc := "([B)V" } : MethodName)) ∈ tb := tb_in (tm_5 (List.mem_of_getElem? (i := 148) rfl)) rfl
theorem q5_149 : (Cond.code ({ cls := "TrustChain$ListReader", name := "<init>", desc := "([B)V" } : MethodName) prog_4_method_1_code (2 : Nat) none) ∈ tb := tb_in (tm_5 (List.mem_of_getElem? (i := 149) rfl)) rfl
theorem q5_150 : (Cond.methodLink "TrustChain$ListReader" (3 : Nat) ({ cls := "TrustChain$Reader", name := "<init>", desc := "([B)V" } : MethodName)) ∈ tb := tb_in (tm_5 (List.mem_of_getElem? (i := 150) rfl)) rfl
theorem q5_151 : (Cond.classLink "TrustChain$ListReader" (15 : Nat) "TrustChain$Paper") ∈ tb := tb_in (tm_5 (List.mem_of_getElem? (i := 151) rfl)) rfl
theorem q5_152 : (Cond.instantiable "TrustChain$Paper" (9 : Nat)) ∈ tb := tb_in (tm_5 (List.mem_of_getElem? (i := 152) rfl)) rfl
theorem q5_153 : (Cond.methodLink "TrustChain$ListReader" (21 : Nat) ({ cls := "TrustChain$Paper", name := "<init>", desc := "(LTrustChain$Slice;)V" } : MethodName)) ∈ tb := tb_in (tm_5 (List.mem_of_getElem? (i := 153) rfl)) rfl
theorem q5_154 : (Cond.laysFinal "TrustChain$Paper" "TrustChain$Paper" "hash" "[I") ∈ tb := tb_in (tm_5 (List.mem_of_getElem? (i := 154) rfl)) rfl
theorem q5_155 : (Cond.laysFinal "TrustChain$Paper" "TrustChain$Paper" "signers" "[I") ∈ tb := tb_in (tm_5 (List.mem_of_getElem? (i := 155) rfl)) rfl
theorem q5_156 : (Cond.laysFinal "TrustChain$Paper" "TrustChain$Paper" "entries" "Ljava/util/ArrayList;") ∈ tb := tb_in (tm_5 (List.mem_of_getElem? (i := 156) rfl)) rfl
theorem q5_157 : (Cond.lays "TrustChain$Paper" "TrustChain$Paper" "body" "LTrustChain$Slice;") ∈ tb := tb_in (tm_5 (List.mem_of_getElem? (i := 157) rfl)) rfl
theorem q5_158 : (Cond.lays "TrustChain$Paper" "TrustChain$Paper" "signature" "LTrustChain$Slice;") ∈ tb := tb_in (tm_5 (List.mem_of_getElem? (i := 158) rfl)) rfl
theorem q5_159 : (Cond.lays "TrustChain$Paper" "TrustChain$Paper" "issuer" "LTrustChain$Slice;") ∈ tb := tb_in (tm_5 (List.mem_of_getElem? (i := 159) rfl)) rfl
theorem q5_160 : (Cond.lays "TrustChain$Paper" "TrustChain$Paper" "first" "J") ∈ tb := tb_in (tm_5 (List.mem_of_getElem? (i := 160) rfl)) rfl
theorem q5_161 : (Cond.lays "TrustChain$Paper" "TrustChain$Paper" "last" "J") ∈ tb := tb_in (tm_5 (List.mem_of_getElem? (i := 161) rfl)) rfl
theorem q5_162 : (Cond.lays "TrustChain$Paper" "TrustChain$Paper" "matters" "I") ∈ tb := tb_in (tm_5 (List.mem_of_getElem? (i := 162) rfl)) rfl
theorem q5_163 : (Cond.superclass "TrustChain$Paper" "java/lang/Object") ∈ tb := tb_in (tm_5 (List.mem_of_getElem? (i := 163) rfl)) rfl
theorem q5_164 : (Cond.fieldLink "TrustChain$ListReader" (24 : Nat) "TrustChain$ListReader" "result" "LTrustChain$Paper;") ∈ tb := tb_in (tm_5 (List.mem_of_getElem? (i := 164) rfl)) rfl
theorem q5_165 : (Cond.fieldLink "TrustChain" (153 : Nat) "TrustChain$ListReader" "result" "LTrustChain$Paper;") ∈ tb := tb_in (tm_5 (List.mem_of_getElem? (i := 165) rfl)) rfl
theorem q5_166 : (Cond.fieldLink "TrustChain$ListReader" (9 : Nat) "TrustChain$ListReader" "inEntry" "Z") ∈ tb := tb_in (tm_5 (List.mem_of_getElem? (i := 166) rfl)) rfl
theorem q5_167 : (Cond.laysFinal "TrustChain$ListReader" "TrustChain$ListReader" "result" "LTrustChain$Paper;") ∈ tb := tb_in (tm_5 (List.mem_of_getElem? (i := 167) rfl)) rfl
theorem q5_168 : (Cond.soleField "TrustChain$ListReader" "result") ∈ tb := tb_in (tm_5 (List.mem_of_getElem? (i := 168) rfl)) rfl
theorem q5_169 : (Cond.lays "TrustChain$ListReader" "TrustChain$ListReader" "inEntry" "Z") ∈ tb := tb_in (tm_5 (List.mem_of_getElem? (i := 169) rfl)) rfl
theorem q5_170 : (Cond.soleField "TrustChain$ListReader" "inEntry") ∈ tb := tb_in (tm_5 (List.mem_of_getElem? (i := 170) rfl)) rfl
theorem q5_171 : (Cond.laysFinal "TrustChain$ListReader" "TrustChain$Reader" "text" "[B") ∈ tb := tb_in (tm_5 (List.mem_of_getElem? (i := 171) rfl)) rfl
theorem q5_172 : (Cond.laysFinal "TrustChain$ListReader" "TrustChain$Reader" "nothing" "LTrustChain$Slice;") ∈ tb := tb_in (tm_5 (List.mem_of_getElem? (i := 172) rfl)) rfl
theorem q5_173 : (Cond.lays "TrustChain$ListReader" "TrustChain$Reader" "place" "I") ∈ tb := tb_in (tm_5 (List.mem_of_getElem? (i := 173) rfl)) rfl
theorem q5_174 : (Cond.lays "TrustChain$ListReader" "TrustChain$Reader" "start" "I") ∈ tb := tb_in (tm_5 (List.mem_of_getElem? (i := 174) rfl)) rfl
theorem q5_175 : (Cond.lays "TrustChain$ListReader" "TrustChain$Reader" "wrongAt" "I") ∈ tb := tb_in (tm_5 (List.mem_of_getElem? (i := 175) rfl)) rfl
theorem q5_176 : (Cond.lays "TrustChain$ListReader" "TrustChain$Reader" "parts" "I") ∈ tb := tb_in (tm_5 (List.mem_of_getElem? (i := 176) rfl)) rfl
theorem q5_177 : (Cond.lays "TrustChain$ListReader" "TrustChain$Reader" "matters" "I") ∈ tb := tb_in (tm_5 (List.mem_of_getElem? (i := 177) rfl)) rfl
theorem q5_178 : (Cond.lays "TrustChain$ListReader" "TrustChain$Reader" "extensions" "I") ∈ tb := tb_in (tm_5 (List.mem_of_getElem? (i := 178) rfl)) rfl
theorem q5_179 : (Cond.laysFinal "TrustChain$ListReader" "TrustChain$Reader" "kinds" "Ljava/util/ArrayList;") ∈ tb := tb_in (tm_5 (List.mem_of_getElem? (i := 179) rfl)) rfl
theorem q5_180 : (Cond.superclass "TrustChain$ListReader" "TrustChain$Reader") ∈ tb := tb_in (tm_5 (List.mem_of_getElem? (i := 180) rfl)) rfl
theorem q5_181 : (Cond.methodLink "TrustChain" (149 : Nat) ({ cls := "TrustChain$ListReader", name := "readList", desc := "()V" } : MethodName)) ∈ tb := tb_in (tm_5 (List.mem_of_getElem? (i := 181) rfl)) rfl
theorem q5_182 : (Cond.instanceMethod ({ cls := "TrustChain$ListReader", name := "readList", desc := "()V" } : MethodName)) ∈ tb := tb_in (tm_5 (List.mem_of_getElem? (i := 182) rfl)) rfl
theorem q5_183 : (Cond.selects "TrustChain$ListReader" ({ cls := "TrustChain$ListReader", name := "readList", desc := "()V" } : MethodName) ({ cls := "TrustChain$ListReader", name := "readList", desc := "()V" } : MethodName)) ∈ tb := tb_in (tm_5 (List.mem_of_getElem? (i := 183) rfl)) rfl
theorem q5_184 : (Cond.code ({ cls := "TrustChain$ListReader", name := "readList", desc := "()V" } : MethodName) prog_4_method_2_code (7 : Nat) none) ∈ tb := tb_in (tm_5 (List.mem_of_getElem? (i := 184) rfl)) rfl
theorem q5_185 : (Cond.methodLink "TrustChain$ListReader" (32 : Nat) ({ cls := "TrustChain$ListReader", name := "open", desc := "(II)I" } : MethodName)) ∈ tb := tb_in (tm_5 (List.mem_of_getElem? (i := 185) rfl)) rfl
theorem q5_186 : (Cond.sameMethod "TrustChain$ListReader" "TrustChain$Reader" "open" "(II)I") ∈ tb := tb_in (tm_5 (List.mem_of_getElem? (i := 186) rfl)) rfl
theorem q5_187 : (Cond.selects "TrustChain$ListReader" ({ cls := "TrustChain$ListReader", name := "open", desc := "(II)I" } : MethodName) ({ cls := "TrustChain$Reader", name := "open", desc := "(II)I" } : MethodName)) ∈ tb := tb_in (tm_5 (List.mem_of_getElem? (i := 187) rfl)) rfl
theorem q5_188 : (Cond.methodLink "TrustChain$ListReader" (40 : Nat) ({ cls := "TrustChain$ListReader", name := "readHead", desc := "(I)V" } : MethodName)) ∈ tb := tb_in (tm_5 (List.mem_of_getElem? (i := 188) rfl)) rfl
theorem q5_189 : (Cond.privateMethod ({ cls := "TrustChain$ListReader", name := "readHead", desc := "(I)V" } : MethodName)) ∈ lw_tbl := tm_5 (List.mem_of_getElem? (i := 189) rfl)
theorem q5_190 : (Cond.instanceMethod ({ cls := "TrustChain$ListReader", name := "readHead", desc := "(I)V" } : MethodName)) ∈ tb := tb_in (tm_5 (List.mem_of_getElem? (i := 190) rfl)) rfl
theorem q5_191 : (Cond.code ({ cls := "TrustChain$ListReader", name := "readHead", desc := "(I)V" } : MethodName) prog_4_method_3_code (2 : Nat) none) ∈ tb := tb_in (tm_5 (List.mem_of_getElem? (i := 191) rfl)) rfl
theorem q5_192 : (Cond.methodLink "TrustChain$ListReader" (103 : Nat) ({ cls := "TrustChain$ListReader", name := "algorithm", desc := "(II)V" } : MethodName)) ∈ tb := tb_in (tm_5 (List.mem_of_getElem? (i := 192) rfl)) rfl
theorem q5_193 : (Cond.sameMethod "TrustChain$ListReader" "TrustChain$Reader" "algorithm" "(II)V") ∈ tb := tb_in (tm_5 (List.mem_of_getElem? (i := 193) rfl)) rfl
theorem q5_194 : (Cond.selects "TrustChain$ListReader" ({ cls := "TrustChain$ListReader", name := "algorithm", desc := "(II)V" } : MethodName) ({ cls := "TrustChain$Reader", name := "algorithm", desc := "(II)V" } : MethodName)) ∈ tb := tb_in (tm_5 (List.mem_of_getElem? (i := 194) rfl)) rfl
theorem q5_195 : (Cond.methodLink "TrustChain$ListReader" (107 : Nat) ({ cls := "TrustChain$ListReader", name := "fullName", desc := "(I)LTrustChain$Slice;" } : MethodName)) ∈ tb := tb_in (tm_5 (List.mem_of_getElem? (i := 195) rfl)) rfl
theorem q5_196 : (Cond.sameMethod "TrustChain$ListReader" "TrustChain$Reader" "fullName" "(I)LTrustChain$Slice;") ∈ tb := tb_in (tm_5 (List.mem_of_getElem? (i := 196) rfl)) rfl
theorem q5_197 : (Cond.selects "TrustChain$ListReader" ({ cls := "TrustChain$ListReader", name := "fullName", desc := "(I)LTrustChain$Slice;" } : MethodName) ({ cls := "TrustChain$Reader", name := "fullName", desc := "(I)LTrustChain$Slice;" } : MethodName)) ∈ tb := tb_in (tm_5 (List.mem_of_getElem? (i := 197) rfl)) rfl
theorem q5_198 : (Cond.methodLink "TrustChain$ListReader" (62 : Nat) ({ cls := "TrustChain$ListReader", name := "time", desc := "(I)J" } : MethodName)) ∈ tb := tb_in (tm_5 (List.mem_of_getElem? (i := 198) rfl)) rfl
theorem q5_199 : (Cond.sameMethod "TrustChain$ListReader" "TrustChain$Reader" "time" "(I)J") ∈ tb := tb_in (tm_5 (List.mem_of_getElem? (i := 199) rfl)) rfl
theorem q5_200 : (Cond.selects "TrustChain$ListReader" ({ cls := "TrustChain$ListReader", name := "time", desc := "(I)J" } : MethodName) ({ cls := "TrustChain$Reader", name := "time", desc := "(I)J" } : MethodName)) ∈ tb := tb_in (tm_5 (List.mem_of_getElem? (i := 200) rfl)) rfl
theorem q5_201 : (Cond.methodLink "TrustChain$ListReader" (44 : Nat) ({ cls := "TrustChain$ListReader", name := "nextIs", desc := "(II)Z" } : MethodName)) ∈ tb := tb_in (tm_5 (List.mem_of_getElem? (i := 201) rfl)) rfl
theorem q5_202 : (Cond.sameMethod "TrustChain$ListReader" "TrustChain$Reader" "nextIs" "(II)Z") ∈ tb := tb_in (tm_5 (List.mem_of_getElem? (i := 202) rfl)) rfl
theorem q5_203 : (Cond.selects "TrustChain$ListReader" ({ cls := "TrustChain$ListReader", name := "nextIs", desc := "(II)Z" } : MethodName) ({ cls := "TrustChain$Reader", name := "nextIs", desc := "(II)Z" } : MethodName)) ∈ tb := tb_in (tm_5 (List.mem_of_getElem? (i := 203) rfl)) rfl
theorem q5_204 : (Cond.methodLink "TrustChain$ListReader" (52 : Nat) ({ cls := "TrustChain$ListReader", name := "serial", desc := "(I)LTrustChain$Slice;" } : MethodName)) ∈ tb := tb_in (tm_5 (List.mem_of_getElem? (i := 204) rfl)) rfl
theorem q5_205 : (Cond.sameMethod "TrustChain$ListReader" "TrustChain$Reader" "serial" "(I)LTrustChain$Slice;") ∈ tb := tb_in (tm_5 (List.mem_of_getElem? (i := 205) rfl)) rfl
theorem q5_206 : (Cond.selects "TrustChain$ListReader" ({ cls := "TrustChain$ListReader", name := "serial", desc := "(I)LTrustChain$Slice;" } : MethodName) ({ cls := "TrustChain$Reader", name := "serial", desc := "(I)LTrustChain$Slice;" } : MethodName)) ∈ tb := tb_in (tm_5 (List.mem_of_getElem? (i := 206) rfl)) rfl
theorem q5_207 : (Cond.methodLink "TrustChain$ListReader" (56 : Nat) ({ cls := "java/util/ArrayList", name := "add", desc := "(Ljava/lang/Object;)Z" } : MethodName)) ∈ tb := tb_in (tm_5 (List.mem_of_getElem? (i := 207) rfl)) rfl
theorem q5_208 : (Cond.methodLink "TrustChain$ListReader" (66 : Nat) ({ cls := "TrustChain$ListReader", name := "readExtensions", desc := "(I)V" } : MethodName)) ∈ tb := tb_in (tm_5 (List.mem_of_getElem? (i := 208) rfl)) rfl
theorem q5_209 : (Cond.sameMethod "TrustChain$ListReader" "TrustChain$Reader" "readExtensions" "(I)V") ∈ tb := tb_in (tm_5 (List.mem_of_getElem? (i := 209) rfl)) rfl
theorem q5_210 : (Cond.selects "TrustChain$ListReader" ({ cls := "TrustChain$ListReader", name := "readExtensions", desc := "(I)V" } : MethodName) ({ cls := "TrustChain$Reader", name := "readExtensions", desc := "(I)V" } : MethodName)) ∈ tb := tb_in (tm_5 (List.mem_of_getElem? (i := 210) rfl)) rfl
theorem q5_211 : (Cond.methodLink "TrustChain$ListReader" (69 : Nat) ({ cls := "TrustChain$ListReader", name := "finish", desc := "(I)V" } : MethodName)) ∈ tb := tb_in (tm_5 (List.mem_of_getElem? (i := 211) rfl)) rfl
theorem q5_212 : (Cond.sameMethod "TrustChain$ListReader" "TrustChain$Reader" "finish" "(I)V") ∈ tb := tb_in (tm_5 (List.mem_of_getElem? (i := 212) rfl)) rfl
theorem q5_213 : (Cond.selects "TrustChain$ListReader" ({ cls := "TrustChain$ListReader", name := "finish", desc := "(I)V" } : MethodName) ({ cls := "TrustChain$Reader", name := "finish", desc := "(I)V" } : MethodName)) ∈ tb := tb_in (tm_5 (List.mem_of_getElem? (i := 213) rfl)) rfl
theorem q5_214 : (Cond.methodLink "TrustChain$ListReader" (72 : Nat) ({ cls := "TrustChain$ListReader", name := "more", desc := "(I)Z" } : MethodName)) ∈ tb := tb_in (tm_5 (List.mem_of_getElem? (i := 214) rfl)) rfl
theorem q5_215 : (Cond.sameMethod "TrustChain$ListReader" "TrustChain$Reader" "more" "(I)Z") ∈ tb := tb_in (tm_5 (List.mem_of_getElem? (i := 215) rfl)) rfl
theorem q5_216 : (Cond.selects "TrustChain$ListReader" ({ cls := "TrustChain$ListReader", name := "more", desc := "(I)Z" } : MethodName) ({ cls := "TrustChain$Reader", name := "more", desc := "(I)Z" } : MethodName)) ∈ tb := tb_in (tm_5 (List.mem_of_getElem? (i := 216) rfl)) rfl
theorem q5_217 : (Cond.classLink "TrustChain$ListReader" (76 : Nat) "TrustChain$Slice") ∈ tb := tb_in (tm_5 (List.mem_of_getElem? (i := 217) rfl)) rfl
theorem q5_218 : (Cond.methodLink "TrustChain$ListReader" (78 : Nat) ({ cls := "TrustChain$Slice", name := "<init>", desc := "([BII)V" } : MethodName)) ∈ tb := tb_in (tm_5 (List.mem_of_getElem? (i := 218) rfl)) rfl
theorem q5_219 : (Cond.methodLink "TrustChain$ListReader" (88 : Nat) ({ cls := "TrustChain$ListReader", name := "readSignature", desc := "(LTrustChain$Paper;I)V" } : MethodName)) ∈ tb := tb_in (tm_5 (List.mem_of_getElem? (i := 219) rfl)) rfl
theorem q5_220 : (Cond.sameMethod "TrustChain$ListReader" "TrustChain$Reader" "readSignature" "(LTrustChain$Paper;I)V") ∈ tb := tb_in (tm_5 (List.mem_of_getElem? (i := 220) rfl)) rfl
theorem q5_221 : (Cond.selects "TrustChain$ListReader" ({ cls := "TrustChain$ListReader", name := "readSignature", desc := "(LTrustChain$Paper;I)V" } : MethodName) ({ cls := "TrustChain$Reader", name := "readSignature", desc := "(LTrustChain$Paper;I)V" } : MethodName)) ∈ tb := tb_in (tm_5 (List.mem_of_getElem? (i := 221) rfl)) rfl
theorem q5_222 : (Cond.methodLink "TrustChainLaw" (84 : Nat) ({ cls := "TrustChainLaw", name := "trust", desc := "(LTrustChain;IZ[J)I" } : MethodName)) ∈ tb := tb_in (tm_5 (List.mem_of_getElem? (i := 222) rfl)) rfl
theorem q5_223 : (Cond.static ({ cls := "TrustChainLaw", name := "trust", desc := "(LTrustChain;IZ[J)I" } : MethodName)) ∈ tb := tb_in (tm_5 (List.mem_of_getElem? (i := 223) rfl)) rfl
theorem q5_224 : (Cond.codeWith ({ cls := "TrustChainLaw", name := "trust", desc := "(LTrustChain;IZ[J)I" } : MethodName) method_6_code (5 : Nat) (some FieldType.int) [((0 : Nat), (17 : Nat), (20 : Nat), (13 : Nat))]) ∈ tb := tb_in (tm_5 (List.mem_of_getElem? (i := 224) rfl)) rfl
theorem q5_225 : (Cond.methodLink "TrustChainLaw" (25 : Nat) ({ cls := "TrustChain", name := "trust", desc := "(IZ)Z" } : MethodName)) ∈ tb := tb_in (tm_5 (List.mem_of_getElem? (i := 225) rfl)) rfl
theorem q5_226 : (Cond.instanceMethod ({ cls := "TrustChain", name := "trust", desc := "(IZ)Z" } : MethodName)) ∈ tb := tb_in (tm_5 (List.mem_of_getElem? (i := 226) rfl)) rfl
theorem q5_227 : (Cond.selects "TrustChain" ({ cls := "TrustChain", name := "trust", desc := "(IZ)Z" } : MethodName) ({ cls := "TrustChain", name := "trust", desc := "(IZ)Z" } : MethodName)) ∈ tb := tb_in (tm_5 (List.mem_of_getElem? (i := 227) rfl)) rfl
theorem q5_228 : (Cond.code ({ cls := "TrustChain", name := "trust", desc := "(IZ)Z" } : MethodName) prog_1_method_6_code (5 : Nat) (some FieldType.boolean)) ∈ tb := tb_in (tm_5 (List.mem_of_getElem? (i := 228) rfl)) rfl
theorem q5_229 : (Cond.methodLink "TrustChain" (160 : Nat) ({ cls := "TrustChain", name := "isStored", desc := "(I)Z" } : MethodName)) ∈ tb := tb_in (tm_5 (List.mem_of_getElem? (i := 229) rfl)) rfl
theorem q5_230 : (Cond.privateMethod ({ cls := "TrustChain", name := "isStored", desc := "(I)Z" } : MethodName)) ∈ lw_tbl := tm_5 (List.mem_of_getElem? (i := 230) rfl)
theorem q5_231 : (Cond.instanceMethod ({ cls := "TrustChain", name := "isStored", desc := "(I)Z" } : MethodName)) ∈ tb := tb_in (tm_5 (List.mem_of_getElem? (i := 231) rfl)) rfl
theorem q5_232 : (Cond.code ({ cls := "TrustChain", name := "isStored", desc := "(I)Z" } : MethodName) prog_1_method_19_code (2 : Nat) (some FieldType.boolean)) ∈ tb := tb_in (tm_5 (List.mem_of_getElem? (i := 232) rfl)) rfl
theorem q5_233 : (Cond.stringRef "TrustChain" (163 : Nat) "no such certificate") ∈ lw_tbl := tm_5 (List.mem_of_getElem? (i := 233) rfl)
theorem q5_234 : (Cond.methodLink "TrustChainLaw" (87 : Nat) ({ cls := "TrustChainLaw", name := "part", desc := "(LTrustChain;II[J)I" } : MethodName)) ∈ tb := tb_in (tm_5 (List.mem_of_getElem? (i := 234) rfl)) rfl
theorem q5_235 : (Cond.static ({ cls := "TrustChainLaw", name := "part", desc := "(LTrustChain;II[J)I" } : MethodName)) ∈ tb := tb_in (tm_5 (List.mem_of_getElem? (i := 235) rfl)) rfl
theorem q5_236 : (Cond.codeWith ({ cls := "TrustChainLaw", name := "part", desc := "(LTrustChain;II[J)I" } : MethodName) method_7_code (5 : Nat) (some FieldType.int) [((0 : Nat), (9 : Nat), (12 : Nat), (19 : Nat)), ((0 : Nat), (9 : Nat), (16 : Nat), (13 : Nat))]) ∈ tb := tb_in (tm_5 (List.mem_of_getElem? (i := 236) rfl)) rfl
theorem q5_237 : (Cond.methodLink "TrustChainLaw" (29 : Nat) ({ cls := "TrustChain", name := "part", desc := "(II)J" } : MethodName)) ∈ tb := tb_in (tm_5 (List.mem_of_getElem? (i := 237) rfl)) rfl
theorem q5_238 : (Cond.instanceMethod ({ cls := "TrustChain", name := "part", desc := "(II)J" } : MethodName)) ∈ tb := tb_in (tm_5 (List.mem_of_getElem? (i := 238) rfl)) rfl
theorem q5_239 : (Cond.selects "TrustChain" ({ cls := "TrustChain", name := "part", desc := "(II)J" } : MethodName) ({ cls := "TrustChain", name := "part", desc := "(II)J" } : MethodName)) ∈ tb := tb_in (tm_5 (List.mem_of_getElem? (i := 239) rfl)) rfl
theorem q6_0 : (Cond.code ({ cls := "TrustChain", name := "part", desc := "(II)J" } : MethodName) prog_1_method_7_code (3 : Nat) (some FieldType.long)) ∈ tb := tb_in (tm_6 (List.mem_of_getElem? (i := 0) rfl)) rfl
theorem q6_1 : (Cond.stringRef "TrustChain" (169 : Nat) "no such part") ∈ lw_tbl := tm_6 (List.mem_of_getElem? (i := 1) rfl)
theorem q6_2 : (Cond.methodLink "TrustChain" (171 : Nat) ({ cls := "TrustChain$Certificate", name := "tell", desc := "(I)J" } : MethodName)) ∈ tb := tb_in (tm_6 (List.mem_of_getElem? (i := 2) rfl)) rfl
theorem q6_3 : (Cond.instanceMethod ({ cls := "TrustChain$Certificate", name := "tell", desc := "(I)J" } : MethodName)) ∈ tb := tb_in (tm_6 (List.mem_of_getElem? (i := 3) rfl)) rfl
theorem q6_4 : (Cond.selects "TrustChain$Certificate" ({ cls := "TrustChain$Certificate", name := "tell", desc := "(I)J" } : MethodName) ({ cls := "TrustChain$Certificate", name := "tell", desc := "(I)J" } : MethodName)) ∈ tb := tb_in (tm_6 (List.mem_of_getElem? (i := 4) rfl)) rfl
theorem q6_5 : (Cond.code ({ cls := "TrustChain$Certificate", name := "tell", desc := "(I)J" } : MethodName) prog_2_method_6_code (2 : Nat) (some FieldType.long)) ∈ tb := tb_in (tm_6 (List.mem_of_getElem? (i := 5) rfl)) rfl
theorem q6_6 : (Cond.methodLink "TrustChain$Certificate" (116 : Nat) ({ cls := "java/util/ArrayList", name := "size", desc := "()I" } : MethodName)) ∈ tb := tb_in (tm_6 (List.mem_of_getElem? (i := 6) rfl)) rfl
theorem q6_7 : (Cond.methodLink "TrustChainLaw" (91 : Nat) ({ cls := "TrustChainLaw", name := "listPart", desc := "(LTrustChain;II[J)I" } : MethodName)) ∈ tb := tb_in (tm_6 (List.mem_of_getElem? (i := 7) rfl)) rfl
theorem q6_8 : (Cond.static ({ cls := "TrustChainLaw", name := "listPart", desc := "(LTrustChain;II[J)I" } : MethodName)) ∈ tb := tb_in (tm_6 (List.mem_of_getElem? (i := 8) rfl)) rfl
theorem q6_9 : (Cond.codeWith ({ cls := "TrustChainLaw", name := "listPart", desc := "(LTrustChain;II[J)I" } : MethodName) method_8_code (5 : Nat) (some FieldType.int) [((0 : Nat), (9 : Nat), (12 : Nat), (19 : Nat)), ((0 : Nat), (9 : Nat), (16 : Nat), (13 : Nat))]) ∈ tb := tb_in (tm_6 (List.mem_of_getElem? (i := 9) rfl)) rfl
theorem q6_10 : (Cond.methodLink "TrustChainLaw" (33 : Nat) ({ cls := "TrustChain", name := "listPart", desc := "(II)J" } : MethodName)) ∈ tb := tb_in (tm_6 (List.mem_of_getElem? (i := 10) rfl)) rfl
theorem q6_11 : (Cond.instanceMethod ({ cls := "TrustChain", name := "listPart", desc := "(II)J" } : MethodName)) ∈ tb := tb_in (tm_6 (List.mem_of_getElem? (i := 11) rfl)) rfl
theorem q6_12 : (Cond.selects "TrustChain" ({ cls := "TrustChain", name := "listPart", desc := "(II)J" } : MethodName) ({ cls := "TrustChain", name := "listPart", desc := "(II)J" } : MethodName)) ∈ tb := tb_in (tm_6 (List.mem_of_getElem? (i := 12) rfl)) rfl
theorem q6_13 : (Cond.code ({ cls := "TrustChain", name := "listPart", desc := "(II)J" } : MethodName) prog_1_method_8_code (4 : Nat) (some FieldType.long)) ∈ tb := tb_in (tm_6 (List.mem_of_getElem? (i := 13) rfl)) rfl
theorem q6_14 : (Cond.methodLink "TrustChain" (175 : Nat) ({ cls := "TrustChain", name := "isListed", desc := "(I)Z" } : MethodName)) ∈ tb := tb_in (tm_6 (List.mem_of_getElem? (i := 14) rfl)) rfl
theorem q6_15 : (Cond.privateMethod ({ cls := "TrustChain", name := "isListed", desc := "(I)Z" } : MethodName)) ∈ lw_tbl := tm_6 (List.mem_of_getElem? (i := 15) rfl)
theorem q6_16 : (Cond.instanceMethod ({ cls := "TrustChain", name := "isListed", desc := "(I)Z" } : MethodName)) ∈ tb := tb_in (tm_6 (List.mem_of_getElem? (i := 16) rfl)) rfl
theorem q6_17 : (Cond.code ({ cls := "TrustChain", name := "isListed", desc := "(I)Z" } : MethodName) prog_1_method_20_code (2 : Nat) (some FieldType.boolean)) ∈ tb := tb_in (tm_6 (List.mem_of_getElem? (i := 17) rfl)) rfl
theorem q6_18 : (Cond.stringRef "TrustChain" (178 : Nat) "no such list") ∈ lw_tbl := tm_6 (List.mem_of_getElem? (i := 18) rfl)
theorem q6_19 : (Cond.classLink "TrustChain" (157 : Nat) "TrustChain$Paper") ∈ tb := tb_in (tm_6 (List.mem_of_getElem? (i := 19) rfl)) rfl
theorem q6_20 : (Cond.methodLink "TrustChainLaw" (94 : Nat) ({ cls := "TrustChainLaw", name := "signed", desc := "(LTrustChain;ZII[J)I" } : MethodName)) ∈ tb := tb_in (tm_6 (List.mem_of_getElem? (i := 20) rfl)) rfl
theorem q6_21 : (Cond.static ({ cls := "TrustChainLaw", name := "signed", desc := "(LTrustChain;ZII[J)I" } : MethodName)) ∈ tb := tb_in (tm_6 (List.mem_of_getElem? (i := 21) rfl)) rfl
theorem q6_22 : (Cond.codeWith ({ cls := "TrustChainLaw", name := "signed", desc := "(LTrustChain;ZII[J)I" } : MethodName) method_9_code (6 : Nat) (some FieldType.int) [((0 : Nat), (19 : Nat), (22 : Nat), (13 : Nat))]) ∈ tb := tb_in (tm_6 (List.mem_of_getElem? (i := 22) rfl)) rfl
theorem q6_23 : (Cond.methodLink "TrustChainLaw" (36 : Nat) ({ cls := "TrustChain", name := "signed", desc := "(ZII)Z" } : MethodName)) ∈ tb := tb_in (tm_6 (List.mem_of_getElem? (i := 23) rfl)) rfl
theorem q6_24 : (Cond.instanceMethod ({ cls := "TrustChain", name := "signed", desc := "(ZII)Z" } : MethodName)) ∈ tb := tb_in (tm_6 (List.mem_of_getElem? (i := 24) rfl)) rfl
theorem q6_25 : (Cond.selects "TrustChain" ({ cls := "TrustChain", name := "signed", desc := "(ZII)Z" } : MethodName) ({ cls := "TrustChain", name := "signed", desc := "(ZII)Z" } : MethodName)) ∈ tb := tb_in (tm_6 (List.mem_of_getElem? (i := 25) rfl)) rfl
theorem q6_26 : (Cond.code ({ cls := "TrustChain", name := "signed", desc := "(ZII)Z" } : MethodName) prog_1_method_9_code (5 : Nat) (some FieldType.boolean)) ∈ tb := tb_in (tm_6 (List.mem_of_getElem? (i := 26) rfl)) rfl
theorem q6_27 : (Cond.stringRef "TrustChain" (193 : Nat) "no such certificate or list") ∈ lw_tbl := tm_6 (List.mem_of_getElem? (i := 27) rfl)
theorem q6_28 : (Cond.methodLink "TrustChain" (195 : Nat) ({ cls := "TrustChain$Rsa", name := "isSigned", desc := "(LTrustChain$Paper;LTrustChain$Certificate;)Z" } : MethodName)) ∈ tb := tb_in (tm_6 (List.mem_of_getElem? (i := 28) rfl)) rfl
theorem q6_29 : (Cond.instanceMethod ({ cls := "TrustChain$Rsa", name := "isSigned", desc := "(LTrustChain$Paper;LTrustChain$Certificate;)Z" } : MethodName)) ∈ tb := tb_in (tm_6 (List.mem_of_getElem? (i := 29) rfl)) rfl
theorem q6_30 : (Cond.selects "TrustChain$Rsa" ({ cls := "TrustChain$Rsa", name := "isSigned", desc := "(LTrustChain$Paper;LTrustChain$Certificate;)Z" } : MethodName) ({ cls := "TrustChain$Rsa", name := "isSigned", desc := "(LTrustChain$Paper;LTrustChain$Certificate;)Z" } : MethodName)) ∈ tb := tb_in (tm_6 (List.mem_of_getElem? (i := 30) rfl)) rfl
theorem q6_31 : (Cond.code ({ cls := "TrustChain$Rsa", name := "isSigned", desc := "(LTrustChain$Paper;LTrustChain$Certificate;)Z" } : MethodName) prog_9_method_2_code (4 : Nat) (some FieldType.boolean)) ∈ tb := tb_in (tm_6 (List.mem_of_getElem? (i := 31) rfl)) rfl
theorem q6_32 : (Cond.methodLink "TrustChain$Rsa" (49 : Nat) ({ cls := "TrustChain$Rsa", name := "verifies", desc := "(LTrustChain$Paper;LTrustChain$Certificate;)Z" } : MethodName)) ∈ tb := tb_in (tm_6 (List.mem_of_getElem? (i := 32) rfl)) rfl
theorem q6_33 : (Cond.privateMethod ({ cls := "TrustChain$Rsa", name := "verifies", desc := "(LTrustChain$Paper;LTrustChain$Certificate;)Z" } : MethodName)) ∈ lw_tbl := tm_6 (List.mem_of_getElem? (i := 33) rfl)
theorem q6_34 : (Cond.instanceMethod ({ cls := "TrustChain$Rsa", name := "verifies", desc := "(LTrustChain$Paper;LTrustChain$Certificate;)Z" } : MethodName)) ∈ tb := tb_in (tm_6 (List.mem_of_getElem? (i := 34) rfl)) rfl
theorem q6_35 : (Cond.code ({ cls := "TrustChain$Rsa", name := "verifies", desc := "(LTrustChain$Paper;LTrustChain$Certificate;)Z" } : MethodName) prog_9_method_3_code (6 : Nat) (some FieldType.boolean)) ∈ tb := tb_in (tm_6 (List.mem_of_getElem? (i := 35) rfl)) rfl
theorem q6_36 : (Cond.methodLink "TrustChain$Rsa" (56 : Nat) ({ cls := "TrustChain$Slice", name := "length", desc := "()I" } : MethodName)) ∈ tb := tb_in (tm_6 (List.mem_of_getElem? (i := 36) rfl)) rfl
theorem q6_37 : (Cond.methodLink "TrustChain$Rsa" (65 : Nat) ({ cls := "TrustChain$Rsa", name := "load", desc := "(LTrustChain$Slice;[J)V" } : MethodName)) ∈ tb := tb_in (tm_6 (List.mem_of_getElem? (i := 37) rfl)) rfl
theorem q6_38 : (Cond.privateMethod ({ cls := "TrustChain$Rsa", name := "load", desc := "(LTrustChain$Slice;[J)V" } : MethodName)) ∈ lw_tbl := tm_6 (List.mem_of_getElem? (i := 38) rfl)
theorem q6_39 : (Cond.instanceMethod ({ cls := "TrustChain$Rsa", name := "load", desc := "(LTrustChain$Slice;[J)V" } : MethodName)) ∈ tb := tb_in (tm_6 (List.mem_of_getElem? (i := 39) rfl)) rfl
theorem q6_40 : (Cond.code ({ cls := "TrustChain$Rsa", name := "load", desc := "(LTrustChain$Slice;[J)V" } : MethodName) prog_9_method_4_code (5 : Nat) none) ∈ tb := tb_in (tm_6 (List.mem_of_getElem? (i := 40) rfl)) rfl
theorem q6_41 : (Cond.methodLink "TrustChain$Rsa" (100 : Nat) ({ cls := "java/util/Arrays", name := "fill", desc := "([JJ)V" } : MethodName)) ∈ tb := tb_in (tm_6 (List.mem_of_getElem? (i := 41) rfl)) rfl
theorem q6_42 : (Cond.static ({ cls := "java/util/Arrays", name := "fill", desc := "([JJ)V" } : MethodName)) ∈ tb := tb_in (tm_6 (List.mem_of_getElem? (i := 42) rfl)) rfl
theorem q6_43 : (Cond.code ({ cls := "java/util/Arrays", name := "fill", desc := "([JJ)V" } : MethodName) prog_34_method_101_code (5 : Nat) none) ∈ tb := tb_in (tm_6 (List.mem_of_getElem? (i := 43) rfl)) rfl
theorem q6_44 : (Cond.methodLink "TrustChain$Rsa" (106 : Nat) ({ cls := "TrustChain$Slice", name := "at", desc := "(I)I" } : MethodName)) ∈ tb := tb_in (tm_6 (List.mem_of_getElem? (i := 44) rfl)) rfl
theorem q6_45 : (Cond.methodLink "TrustChain$Rsa" (69 : Nat) ({ cls := "TrustChain$Rsa", name := "isBelowModulus", desc := "([J)Z" } : MethodName)) ∈ tb := tb_in (tm_6 (List.mem_of_getElem? (i := 45) rfl)) rfl
theorem q6_46 : (Cond.privateMethod ({ cls := "TrustChain$Rsa", name := "isBelowModulus", desc := "([J)Z" } : MethodName)) ∈ lw_tbl := tm_6 (List.mem_of_getElem? (i := 46) rfl)
theorem q6_47 : (Cond.instanceMethod ({ cls := "TrustChain$Rsa", name := "isBelowModulus", desc := "([J)Z" } : MethodName)) ∈ tb := tb_in (tm_6 (List.mem_of_getElem? (i := 47) rfl)) rfl
theorem q6_48 : (Cond.code ({ cls := "TrustChain$Rsa", name := "isBelowModulus", desc := "([J)Z" } : MethodName) prog_9_method_5_code (3 : Nat) (some FieldType.boolean)) ∈ tb := tb_in (tm_6 (List.mem_of_getElem? (i := 48) rfl)) rfl
theorem q6_49 : (Cond.methodLink "TrustChain$Rsa" (76 : Nat) ({ cls := "TrustChain$Rsa", name := "prepare", desc := "(I)V" } : MethodName)) ∈ tb := tb_in (tm_6 (List.mem_of_getElem? (i := 49) rfl)) rfl
theorem q6_50 : (Cond.privateMethod ({ cls := "TrustChain$Rsa", name := "prepare", desc := "(I)V" } : MethodName)) ∈ lw_tbl := tm_6 (List.mem_of_getElem? (i := 50) rfl)
theorem q6_51 : (Cond.instanceMethod ({ cls := "TrustChain$Rsa", name := "prepare", desc := "(I)V" } : MethodName)) ∈ tb := tb_in (tm_6 (List.mem_of_getElem? (i := 51) rfl)) rfl
theorem q6_52 : (Cond.code ({ cls := "TrustChain$Rsa", name := "prepare", desc := "(I)V" } : MethodName) prog_9_method_6_code (11 : Nat) none) ∈ tb := tb_in (tm_6 (List.mem_of_getElem? (i := 52) rfl)) rfl
theorem q6_53 : (Cond.constantLong "TrustChain$Rsa" (110 : Nat) (2 : Int64)) ∈ tb := tb_in (tm_6 (List.mem_of_getElem? (i := 53) rfl)) rfl
theorem q6_54 : (Cond.constantLong "TrustChain$Rsa" (112 : Nat) (4294967295 : Int64)) ∈ tb := tb_in (tm_6 (List.mem_of_getElem? (i := 54) rfl)) rfl
theorem q6_55 : (Cond.methodLink "TrustChain$Rsa" (114 : Nat) ({ cls := "java/lang/Math", name := "min", desc := "(II)I" } : MethodName)) ∈ tb := tb_in (tm_6 (List.mem_of_getElem? (i := 55) rfl)) rfl
theorem q6_56 : (Cond.methodLink "TrustChain$Rsa" (120 : Nat) ({ cls := "java/lang/Math", name := "max", desc := "(II)I" } : MethodName)) ∈ tb := tb_in (tm_6 (List.mem_of_getElem? (i := 56) rfl)) rfl
theorem q6_57 : (Cond.methodLink "TrustChain$Rsa" (123 : Nat) ({ cls := "TrustChain$Rsa", name := "settle", desc := "([J)V" } : MethodName)) ∈ tb := tb_in (tm_6 (List.mem_of_getElem? (i := 57) rfl)) rfl
theorem q6_58 : (Cond.privateMethod ({ cls := "TrustChain$Rsa", name := "settle", desc := "([J)V" } : MethodName)) ∈ lw_tbl := tm_6 (List.mem_of_getElem? (i := 58) rfl)
theorem q6_59 : (Cond.instanceMethod ({ cls := "TrustChain$Rsa", name := "settle", desc := "([J)V" } : MethodName)) ∈ tb := tb_in (tm_6 (List.mem_of_getElem? (i := 59) rfl)) rfl
theorem q6_60 : (Cond.code ({ cls := "TrustChain$Rsa", name := "settle", desc := "([J)V" } : MethodName) prog_9_method_8_code (9 : Nat) none) ∈ tb := tb_in (tm_6 (List.mem_of_getElem? (i := 60) rfl)) rfl
theorem q6_61 : (Cond.methodLink "TrustChain$Rsa" (80 : Nat) ({ cls := "TrustChain$Rsa", name := "multiply", desc := "([J[J[J)V" } : MethodName)) ∈ tb := tb_in (tm_6 (List.mem_of_getElem? (i := 61) rfl)) rfl
theorem q6_62 : (Cond.privateMethod ({ cls := "TrustChain$Rsa", name := "multiply", desc := "([J[J[J)V" } : MethodName)) ∈ lw_tbl := tm_6 (List.mem_of_getElem? (i := 62) rfl)
theorem q6_63 : (Cond.instanceMethod ({ cls := "TrustChain$Rsa", name := "multiply", desc := "([J[J[J)V" } : MethodName)) ∈ tb := tb_in (tm_6 (List.mem_of_getElem? (i := 63) rfl)) rfl
theorem q6_64 : (Cond.code ({ cls := "TrustChain$Rsa", name := "multiply", desc := "([J[J[J)V" } : MethodName) prog_9_method_7_code (14 : Nat) none) ∈ tb := tb_in (tm_6 (List.mem_of_getElem? (i := 64) rfl)) rfl
theorem q6_65 : (Cond.methodLink "TrustChain$Rsa" (87 : Nat) ({ cls := "java/lang/System", name := "arraycopy", desc := "(Ljava/lang/Object;ILjava/lang/Object;II)V" } : MethodName)) ∈ tb := tb_in (tm_6 (List.mem_of_getElem? (i := 65) rfl)) rfl
theorem q6_66 : (Cond.methodLink "TrustChain$Rsa" (96 : Nat) ({ cls := "TrustChain$Rsa", name := "hasForm", desc := "([II)Z" } : MethodName)) ∈ tb := tb_in (tm_6 (List.mem_of_getElem? (i := 66) rfl)) rfl
theorem q6_67 : (Cond.privateMethod ({ cls := "TrustChain$Rsa", name := "hasForm", desc := "([II)Z" } : MethodName)) ∈ lw_tbl := tm_6 (List.mem_of_getElem? (i := 67) rfl)
theorem q6_68 : (Cond.instanceMethod ({ cls := "TrustChain$Rsa", name := "hasForm", desc := "([II)Z" } : MethodName)) ∈ tb := tb_in (tm_6 (List.mem_of_getElem? (i := 68) rfl)) rfl
theorem q6_69 : (Cond.code ({ cls := "TrustChain$Rsa", name := "hasForm", desc := "([II)Z" } : MethodName) prog_9_method_9_code (5 : Nat) (some FieldType.boolean)) ∈ tb := tb_in (tm_6 (List.mem_of_getElem? (i := 69) rfl)) rfl
theorem q6_70 : (Cond.methodLink "TrustChain$Rsa" (127 : Nat) ({ cls := "TrustChain$Rsa", name := "due", desc := "([III)I" } : MethodName)) ∈ tb := tb_in (tm_6 (List.mem_of_getElem? (i := 70) rfl)) rfl
theorem q6_71 : (Cond.static ({ cls := "TrustChain$Rsa", name := "due", desc := "([III)I" } : MethodName)) ∈ tb := tb_in (tm_6 (List.mem_of_getElem? (i := 71) rfl)) rfl
theorem q6_72 : (Cond.code ({ cls := "TrustChain$Rsa", name := "due", desc := "([III)I" } : MethodName) prog_9_method_10_code (4 : Nat) (some FieldType.int)) ∈ tb := tb_in (tm_6 (List.mem_of_getElem? (i := 72) rfl)) rfl
theorem q6_73 : (Cond.fieldLink "TrustChain$Rsa" (131 : Nat) "TrustChain$Rsa" "PREFIX" "[I") ∈ tb := tb_in (tm_6 (List.mem_of_getElem? (i := 73) rfl)) rfl
theorem q6_74 : (Cond.laysStatic "TrustChain$Rsa" "PREFIX" "[I") ∈ lw_tbl := tm_6 (List.mem_of_getElem? (i := 74) rfl)
theorem q6_75 : (Cond.methodLink "TrustChainLaw" (98 : Nat) ({ cls := "TrustChainLaw", name := "digest", desc := "(LTrustChain;II[J)I" } : MethodName)) ∈ tb := tb_in (tm_6 (List.mem_of_getElem? (i := 75) rfl)) rfl
theorem q6_76 : (Cond.static ({ cls := "TrustChainLaw", name := "digest", desc := "(LTrustChain;II[J)I" } : MethodName)) ∈ tb := tb_in (tm_6 (List.mem_of_getElem? (i := 76) rfl)) rfl
theorem q6_77 : (Cond.codeWith ({ cls := "TrustChainLaw", name := "digest", desc := "(LTrustChain;II[J)I" } : MethodName) method_10_code (5 : Nat) (some FieldType.int) [((0 : Nat), (10 : Nat), (13 : Nat), (13 : Nat))]) ∈ tb := tb_in (tm_6 (List.mem_of_getElem? (i := 77) rfl)) rfl
theorem q6_78 : (Cond.methodLink "TrustChainLaw" (40 : Nat) ({ cls := "TrustChain", name := "digest", desc := "(II)I" } : MethodName)) ∈ tb := tb_in (tm_6 (List.mem_of_getElem? (i := 78) rfl)) rfl
theorem q6_79 : (Cond.instanceMethod ({ cls := "TrustChain", name := "digest", desc := "(II)I" } : MethodName)) ∈ tb := tb_in (tm_6 (List.mem_of_getElem? (i := 79) rfl)) rfl
theorem q6_80 : (Cond.selects "TrustChain" ({ cls := "TrustChain", name := "digest", desc := "(II)I" } : MethodName) ({ cls := "TrustChain", name := "digest", desc := "(II)I" } : MethodName)) ∈ tb := tb_in (tm_6 (List.mem_of_getElem? (i := 80) rfl)) rfl
theorem q6_81 : (Cond.code ({ cls := "TrustChain", name := "digest", desc := "(II)I" } : MethodName) prog_1_method_10_code (3 : Nat) (some FieldType.int)) ∈ tb := tb_in (tm_6 (List.mem_of_getElem? (i := 81) rfl)) rfl
theorem q6_82 : (Cond.stringRef "TrustChain" (199 : Nat) "no such certificate or word") ∈ lw_tbl := tm_6 (List.mem_of_getElem? (i := 82) rfl)
theorem q6_83 : (Cond.methodLink "TrustChainLaw" (103 : Nat) ({ cls := "TrustChainLaw", name := "validate", desc := "(LTrustChain;IJIZ[J)I" } : MethodName)) ∈ tb := tb_in (tm_6 (List.mem_of_getElem? (i := 83) rfl)) rfl
theorem q6_84 : (Cond.static ({ cls := "TrustChainLaw", name := "validate", desc := "(LTrustChain;IJIZ[J)I" } : MethodName)) ∈ tb := tb_in (tm_6 (List.mem_of_getElem? (i := 84) rfl)) rfl
theorem q6_85 : (Cond.codeWith ({ cls := "TrustChainLaw", name := "validate", desc := "(LTrustChain;IJIZ[J)I" } : MethodName) method_11_code (8 : Nat) (some FieldType.int) [((0 : Nat), (15 : Nat), (18 : Nat), (19 : Nat)), ((0 : Nat), (15 : Nat), (22 : Nat), (13 : Nat))]) ∈ tb := tb_in (tm_6 (List.mem_of_getElem? (i := 85) rfl)) rfl
theorem q6_86 : (Cond.methodLink "TrustChainLaw" (44 : Nat) ({ cls := "TrustChain", name := "validate", desc := "(IJIZ)I" } : MethodName)) ∈ tb := tb_in (tm_6 (List.mem_of_getElem? (i := 86) rfl)) rfl
theorem q6_87 : (Cond.instanceMethod ({ cls := "TrustChain", name := "validate", desc := "(IJIZ)I" } : MethodName)) ∈ tb := tb_in (tm_6 (List.mem_of_getElem? (i := 87) rfl)) rfl
theorem q6_88 : (Cond.selects "TrustChain" ({ cls := "TrustChain", name := "validate", desc := "(IJIZ)I" } : MethodName) ({ cls := "TrustChain", name := "validate", desc := "(IJIZ)I" } : MethodName)) ∈ tb := tb_in (tm_6 (List.mem_of_getElem? (i := 88) rfl)) rfl
theorem q6_89 : (Cond.code ({ cls := "TrustChain", name := "validate", desc := "(IJIZ)I" } : MethodName) prog_1_method_11_code (10 : Nat) (some FieldType.int)) ∈ tb := tb_in (tm_6 (List.mem_of_getElem? (i := 89) rfl)) rfl
theorem q6_90 : (Cond.stringRef "TrustChain" (201 : Nat) "depth is not 1..16") ∈ lw_tbl := tm_6 (List.mem_of_getElem? (i := 90) rfl)
theorem q6_91 : (Cond.methodLink "TrustChain" (203 : Nat) ({ cls := "TrustChain$PathCheck", name := "begin", desc := "(JZ)V" } : MethodName)) ∈ tb := tb_in (tm_6 (List.mem_of_getElem? (i := 91) rfl)) rfl
theorem q6_92 : (Cond.instanceMethod ({ cls := "TrustChain$PathCheck", name := "begin", desc := "(JZ)V" } : MethodName)) ∈ tb := tb_in (tm_6 (List.mem_of_getElem? (i := 92) rfl)) rfl
theorem q6_93 : (Cond.selects "TrustChain$PathCheck" ({ cls := "TrustChain$PathCheck", name := "begin", desc := "(JZ)V" } : MethodName) ({ cls := "TrustChain$PathCheck", name := "begin", desc := "(JZ)V" } : MethodName)) ∈ tb := tb_in (tm_6 (List.mem_of_getElem? (i := 93) rfl)) rfl
theorem q6_94 : (Cond.code ({ cls := "TrustChain$PathCheck", name := "begin", desc := "(JZ)V" } : MethodName) prog_7_method_2_code (4 : Nat) none) ∈ tb := tb_in (tm_6 (List.mem_of_getElem? (i := 94) rfl)) rfl
theorem q6_95 : (Cond.methodLink "TrustChain" (207 : Nat) ({ cls := "TrustChain$Search", name := "begin", desc := "(Ljava/util/ArrayList;LTrustChain$Certificate;I)Z" } : MethodName)) ∈ tb := tb_in (tm_6 (List.mem_of_getElem? (i := 95) rfl)) rfl
theorem q6_96 : (Cond.instanceMethod ({ cls := "TrustChain$Search", name := "begin", desc := "(Ljava/util/ArrayList;LTrustChain$Certificate;I)Z" } : MethodName)) ∈ tb := tb_in (tm_6 (List.mem_of_getElem? (i := 96) rfl)) rfl
theorem q6_97 : (Cond.selects "TrustChain$Search" ({ cls := "TrustChain$Search", name := "begin", desc := "(Ljava/util/ArrayList;LTrustChain$Certificate;I)Z" } : MethodName) ({ cls := "TrustChain$Search", name := "begin", desc := "(Ljava/util/ArrayList;LTrustChain$Certificate;I)Z" } : MethodName)) ∈ tb := tb_in (tm_6 (List.mem_of_getElem? (i := 97) rfl)) rfl
theorem q6_98 : (Cond.code ({ cls := "TrustChain$Search", name := "begin", desc := "(Ljava/util/ArrayList;LTrustChain$Certificate;I)Z" } : MethodName) prog_10_method_2_code (4 : Nat) (some FieldType.boolean)) ∈ tb := tb_in (tm_6 (List.mem_of_getElem? (i := 98) rfl)) rfl
theorem q6_99 : (Cond.methodLink "TrustChain$Search" (32 : Nat) ({ cls := "java/util/ArrayList", name := "clear", desc := "()V" } : MethodName)) ∈ tb := tb_in (tm_6 (List.mem_of_getElem? (i := 99) rfl)) rfl
theorem q6_100 : (Cond.methodLink "TrustChain$Search" (35 : Nat) ({ cls := "java/lang/Math", name := "min", desc := "(II)I" } : MethodName)) ∈ tb := tb_in (tm_6 (List.mem_of_getElem? (i := 100) rfl)) rfl
theorem q6_101 : (Cond.methodLink "TrustChain$Search" (41 : Nat) ({ cls := "TrustChain$Search", name := "put", desc := "(LTrustChain$Certificate;)V" } : MethodName)) ∈ tb := tb_in (tm_6 (List.mem_of_getElem? (i := 101) rfl)) rfl
theorem q6_102 : (Cond.privateMethod ({ cls := "TrustChain$Search", name := "put", desc := "(LTrustChain$Certificate;)V" } : MethodName)) ∈ lw_tbl := tm_6 (List.mem_of_getElem? (i := 102) rfl)
theorem q6_103 : (Cond.instanceMethod ({ cls := "TrustChain$Search", name := "put", desc := "(LTrustChain$Certificate;)V" } : MethodName)) ∈ tb := tb_in (tm_6 (List.mem_of_getElem? (i := 103) rfl)) rfl
theorem q6_104 : (Cond.code ({ cls := "TrustChain$Search", name := "put", desc := "(LTrustChain$Certificate;)V" } : MethodName) prog_10_method_4_code (2 : Nat) none) ∈ tb := tb_in (tm_6 (List.mem_of_getElem? (i := 104) rfl)) rfl
theorem q6_105 : (Cond.methodLink "TrustChain$Search" (59 : Nat) ({ cls := "java/util/ArrayList", name := "size", desc := "()I" } : MethodName)) ∈ tb := tb_in (tm_6 (List.mem_of_getElem? (i := 105) rfl)) rfl
theorem q6_106 : (Cond.methodLink "TrustChain$Search" (74 : Nat) ({ cls := "java/util/ArrayList", name := "add", desc := "(Ljava/lang/Object;)Z" } : MethodName)) ∈ tb := tb_in (tm_6 (List.mem_of_getElem? (i := 106) rfl)) rfl
theorem q6_107 : (Cond.methodLink "TrustChain$Search" (51 : Nat) ({ cls := "TrustChain$Search", name := "advance", desc := "(Ljava/util/ArrayList;)Z" } : MethodName)) ∈ tb := tb_in (tm_6 (List.mem_of_getElem? (i := 107) rfl)) rfl
theorem q6_108 : (Cond.instanceMethod ({ cls := "TrustChain$Search", name := "advance", desc := "(Ljava/util/ArrayList;)Z" } : MethodName)) ∈ tb := tb_in (tm_6 (List.mem_of_getElem? (i := 108) rfl)) rfl
theorem q6_109 : (Cond.selects "TrustChain$Search" ({ cls := "TrustChain$Search", name := "advance", desc := "(Ljava/util/ArrayList;)Z" } : MethodName) ({ cls := "TrustChain$Search", name := "advance", desc := "(Ljava/util/ArrayList;)Z" } : MethodName)) ∈ tb := tb_in (tm_6 (List.mem_of_getElem? (i := 109) rfl)) rfl
theorem q6_110 : (Cond.code ({ cls := "TrustChain$Search", name := "advance", desc := "(Ljava/util/ArrayList;)Z" } : MethodName) prog_10_method_3_code (4 : Nat) (some FieldType.boolean)) ∈ tb := tb_in (tm_6 (List.mem_of_getElem? (i := 110) rfl)) rfl
theorem q6_111 : (Cond.methodLink "TrustChain$Search" (55 : Nat) ({ cls := "java/util/ArrayList", name := "isEmpty", desc := "()Z" } : MethodName)) ∈ tb := tb_in (tm_6 (List.mem_of_getElem? (i := 111) rfl)) rfl
theorem q6_112 : (Cond.instanceMethod ({ cls := "java/util/ArrayList", name := "isEmpty", desc := "()Z" } : MethodName)) ∈ tb := tb_in (tm_6 (List.mem_of_getElem? (i := 112) rfl)) rfl
theorem q6_113 : (Cond.selects "java/util/ArrayList" ({ cls := "java/util/ArrayList", name := "isEmpty", desc := "()Z" } : MethodName) ({ cls := "java/util/ArrayList", name := "isEmpty", desc := "()Z" } : MethodName)) ∈ tb := tb_in (tm_6 (List.mem_of_getElem? (i := 113) rfl)) rfl
theorem q6_114 : (Cond.code ({ cls := "java/util/ArrayList", name := "isEmpty", desc := "()Z" } : MethodName) prog_33_method_9_code (1 : Nat) (some FieldType.boolean)) ∈ tb := tb_in (tm_6 (List.mem_of_getElem? (i := 114) rfl)) rfl
theorem q6_115 : (Cond.methodLink "TrustChain$Search" (63 : Nat) ({ cls := "TrustChain$Search", name := "nextCandidate", desc := "(I)I" } : MethodName)) ∈ tb := tb_in (tm_6 (List.mem_of_getElem? (i := 115) rfl)) rfl
theorem q6_116 : (Cond.privateMethod ({ cls := "TrustChain$Search", name := "nextCandidate", desc := "(I)I" } : MethodName)) ∈ lw_tbl := tm_6 (List.mem_of_getElem? (i := 116) rfl)
theorem q6_117 : (Cond.instanceMethod ({ cls := "TrustChain$Search", name := "nextCandidate", desc := "(I)I" } : MethodName)) ∈ tb := tb_in (tm_6 (List.mem_of_getElem? (i := 117) rfl)) rfl
theorem q6_118 : (Cond.code ({ cls := "TrustChain$Search", name := "nextCandidate", desc := "(I)I" } : MethodName) prog_10_method_6_code (5 : Nat) (some FieldType.int)) ∈ tb := tb_in (tm_6 (List.mem_of_getElem? (i := 118) rfl)) rfl
theorem q6_119 : (Cond.methodLink "TrustChain$Search" (70 : Nat) ({ cls := "java/util/ArrayList", name := "get", desc := "(I)Ljava/lang/Object;" } : MethodName)) ∈ tb := tb_in (tm_6 (List.mem_of_getElem? (i := 119) rfl)) rfl
theorem q6_120 : (Cond.classLink "TrustChain$Search" (46 : Nat) "TrustChain$Certificate") ∈ tb := tb_in (tm_6 (List.mem_of_getElem? (i := 120) rfl)) rfl
theorem q6_121 : (Cond.methodLink "TrustChain$Search" (67 : Nat) ({ cls := "TrustChain$Search", name := "takeOff", desc := "()V" } : MethodName)) ∈ tb := tb_in (tm_6 (List.mem_of_getElem? (i := 121) rfl)) rfl
theorem q6_122 : (Cond.privateMethod ({ cls := "TrustChain$Search", name := "takeOff", desc := "()V" } : MethodName)) ∈ lw_tbl := tm_6 (List.mem_of_getElem? (i := 122) rfl)
theorem q6_123 : (Cond.instanceMethod ({ cls := "TrustChain$Search", name := "takeOff", desc := "()V" } : MethodName)) ∈ tb := tb_in (tm_6 (List.mem_of_getElem? (i := 123) rfl)) rfl
theorem q6_124 : (Cond.code ({ cls := "TrustChain$Search", name := "takeOff", desc := "()V" } : MethodName) prog_10_method_5_code (1 : Nat) none) ∈ tb := tb_in (tm_6 (List.mem_of_getElem? (i := 124) rfl)) rfl
theorem q6_125 : (Cond.methodLink "TrustChain$Search" (81 : Nat) ({ cls := "java/util/ArrayList", name := "remove", desc := "(I)Ljava/lang/Object;" } : MethodName)) ∈ tb := tb_in (tm_6 (List.mem_of_getElem? (i := 125) rfl)) rfl
theorem q6_126 : (Cond.instanceMethod ({ cls := "java/util/ArrayList", name := "remove", desc := "(I)Ljava/lang/Object;" } : MethodName)) ∈ tb := tb_in (tm_6 (List.mem_of_getElem? (i := 126) rfl)) rfl
theorem q6_127 : (Cond.selects "java/util/ArrayList" ({ cls := "java/util/ArrayList", name := "remove", desc := "(I)Ljava/lang/Object;" } : MethodName) ({ cls := "java/util/ArrayList", name := "remove", desc := "(I)Ljava/lang/Object;" } : MethodName)) ∈ tb := tb_in (tm_6 (List.mem_of_getElem? (i := 127) rfl)) rfl
theorem q6_128 : (Cond.code ({ cls := "java/util/ArrayList", name := "remove", desc := "(I)Ljava/lang/Object;" } : MethodName) prog_33_method_29_code (4 : Nat) (some (FieldType.object "java/lang/Object"))) ∈ tb := tb_in (tm_6 (List.mem_of_getElem? (i := 128) rfl)) rfl
theorem q6_129 : (Cond.methodLink "java/util/ArrayList" (144 : Nat) ({ cls := "java/util/ArrayList", name := "fastRemove", desc := "([Ljava/lang/Object;I)V" } : MethodName)) ∈ tb := tb_in (tm_6 (List.mem_of_getElem? (i := 129) rfl)) rfl
theorem q6_130 : (Cond.privateMethod ({ cls := "java/util/ArrayList", name := "fastRemove", desc := "([Ljava/lang/Object;I)V" } : MethodName)) ∈ lw_tbl := tm_6 (List.mem_of_getElem? (i := 130) rfl)
theorem q6_131 : (Cond.instanceMethod ({ cls := "java/util/ArrayList", name := "fastRemove", desc := "([Ljava/lang/Object;I)V" } : MethodName)) ∈ tb := tb_in (tm_6 (List.mem_of_getElem? (i := 131) rfl)) rfl
theorem q6_132 : (Cond.code ({ cls := "java/util/ArrayList", name := "fastRemove", desc := "([Ljava/lang/Object;I)V" } : MethodName) prog_33_method_39_code (4 : Nat) none) ∈ tb := tb_in (tm_6 (List.mem_of_getElem? (i := 132) rfl)) rfl
theorem q6_133 : (Cond.methodLink "java/util/ArrayList" (112 : Nat) ({ cls := "java/lang/System", name := "arraycopy", desc := "(Ljava/lang/Object;ILjava/lang/Object;II)V" } : MethodName)) ∈ tb := tb_in (tm_6 (List.mem_of_getElem? (i := 133) rfl)) rfl
theorem q6_134 : (Cond.methodLink "TrustChain" (213 : Nat) ({ cls := "TrustChain$PathCheck", name := "faultOf", desc := "(Ljava/util/ArrayList;Ljava/util/ArrayList;LTrustChain$Rsa;)I" } : MethodName)) ∈ tb := tb_in (tm_6 (List.mem_of_getElem? (i := 134) rfl)) rfl
theorem q6_135 : (Cond.instanceMethod ({ cls := "TrustChain$PathCheck", name := "faultOf", desc := "(Ljava/util/ArrayList;Ljava/util/ArrayList;LTrustChain$Rsa;)I" } : MethodName)) ∈ tb := tb_in (tm_6 (List.mem_of_getElem? (i := 135) rfl)) rfl
theorem q6_136 : (Cond.selects "TrustChain$PathCheck" ({ cls := "TrustChain$PathCheck", name := "faultOf", desc := "(Ljava/util/ArrayList;Ljava/util/ArrayList;LTrustChain$Rsa;)I" } : MethodName) ({ cls := "TrustChain$PathCheck", name := "faultOf", desc := "(Ljava/util/ArrayList;Ljava/util/ArrayList;LTrustChain$Rsa;)I" } : MethodName)) ∈ tb := tb_in (tm_6 (List.mem_of_getElem? (i := 136) rfl)) rfl
theorem q6_137 : (Cond.code ({ cls := "TrustChain$PathCheck", name := "faultOf", desc := "(Ljava/util/ArrayList;Ljava/util/ArrayList;LTrustChain$Rsa;)I" } : MethodName) prog_7_method_3_code (6 : Nat) (some FieldType.int)) ∈ tb := tb_in (tm_6 (List.mem_of_getElem? (i := 137) rfl)) rfl
theorem q6_138 : (Cond.methodLink "TrustChain$PathCheck" (26 : Nat) ({ cls := "java/util/ArrayList", name := "size", desc := "()I" } : MethodName)) ∈ tb := tb_in (tm_6 (List.mem_of_getElem? (i := 138) rfl)) rfl
theorem q6_139 : (Cond.methodLink "TrustChain$PathCheck" (32 : Nat) ({ cls := "TrustChain$PathCheck", name := "faultAt", desc := "(Ljava/util/ArrayList;ILjava/util/ArrayList;LTrustChain$Rsa;)I" } : MethodName)) ∈ tb := tb_in (tm_6 (List.mem_of_getElem? (i := 139) rfl)) rfl
theorem q6_140 : (Cond.privateMethod ({ cls := "TrustChain$PathCheck", name := "faultAt", desc := "(Ljava/util/ArrayList;ILjava/util/ArrayList;LTrustChain$Rsa;)I" } : MethodName)) ∈ lw_tbl := tm_6 (List.mem_of_getElem? (i := 140) rfl)
theorem q6_141 : (Cond.instanceMethod ({ cls := "TrustChain$PathCheck", name := "faultAt", desc := "(Ljava/util/ArrayList;ILjava/util/ArrayList;LTrustChain$Rsa;)I" } : MethodName)) ∈ tb := tb_in (tm_6 (List.mem_of_getElem? (i := 141) rfl)) rfl
theorem q6_142 : (Cond.code ({ cls := "TrustChain$PathCheck", name := "faultAt", desc := "(Ljava/util/ArrayList;ILjava/util/ArrayList;LTrustChain$Rsa;)I" } : MethodName) prog_7_method_4_code (7 : Nat) (some FieldType.int)) ∈ tb := tb_in (tm_6 (List.mem_of_getElem? (i := 142) rfl)) rfl
theorem q6_143 : (Cond.methodLink "TrustChain$PathCheck" (36 : Nat) ({ cls := "java/util/ArrayList", name := "get", desc := "(I)Ljava/lang/Object;" } : MethodName)) ∈ tb := tb_in (tm_6 (List.mem_of_getElem? (i := 143) rfl)) rfl
theorem q6_144 : (Cond.classLink "TrustChain$PathCheck" (40 : Nat) "TrustChain$Certificate") ∈ tb := tb_in (tm_6 (List.mem_of_getElem? (i := 144) rfl)) rfl
theorem q6_145 : (Cond.methodLink "TrustChain$PathCheck" (42 : Nat) ({ cls := "TrustChain$Rsa", name := "isSigned", desc := "(LTrustChain$Paper;LTrustChain$Certificate;)Z" } : MethodName)) ∈ tb := tb_in (tm_6 (List.mem_of_getElem? (i := 145) rfl)) rfl
theorem q6_146 : (Cond.methodLink "TrustChain$PathCheck" (48 : Nat) ({ cls := "TrustChain$Certificate", name := "isAt", desc := "(J)Z" } : MethodName)) ∈ tb := tb_in (tm_6 (List.mem_of_getElem? (i := 146) rfl)) rfl
theorem q6_147 : (Cond.sameMethod "TrustChain$Certificate" "TrustChain$Paper" "isAt" "(J)Z") ∈ tb := tb_in (tm_6 (List.mem_of_getElem? (i := 147) rfl)) rfl
theorem q6_148 : (Cond.declares ({ cls := "TrustChain$Paper", name := "isAt", desc := "(J)Z" } : MethodName)) ∈ lw_tbl := tm_6 (List.mem_of_getElem? (i := 148) rfl)
theorem q6_149 : (Cond.selects "TrustChain$Certificate" ({ cls := "TrustChain$Certificate", name := "isAt", desc := "(J)Z" } : MethodName) ({ cls := "TrustChain$Paper", name := "isAt", desc := "(J)Z" } : MethodName)) ∈ tb := tb_in (tm_6 (List.mem_of_getElem? (i := 149) rfl)) rfl
theorem q6_150 : (Cond.instanceMethod ({ cls := "TrustChain$Paper", name := "isAt", desc := "(J)Z" } : MethodName)) ∈ tb := tb_in (tm_6 (List.mem_of_getElem? (i := 150) rfl)) rfl
theorem q6_151 : (Cond.code ({ cls := "TrustChain$Paper", name := "isAt", desc := "(J)Z" } : MethodName) prog_6_method_2_code (3 : Nat) (some FieldType.boolean)) ∈ tb := tb_in (tm_6 (List.mem_of_getElem? (i := 151) rfl)) rfl
theorem q6_152 : (Cond.methodLink "TrustChain$PathCheck" (52 : Nat) ({ cls := "TrustChain$PathCheck", name := "isRevoked", desc := "(LTrustChain$Certificate;LTrustChain$Certificate;Ljava/util/ArrayList;LTrustChain$Rsa;)Z" } : MethodName)) ∈ tb := tb_in (tm_6 (List.mem_of_getElem? (i := 152) rfl)) rfl
theorem q6_153 : (Cond.privateMethod ({ cls := "TrustChain$PathCheck", name := "isRevoked", desc := "(LTrustChain$Certificate;LTrustChain$Certificate;Ljava/util/ArrayList;LTrustChain$Rsa;)Z" } : MethodName)) ∈ lw_tbl := tm_6 (List.mem_of_getElem? (i := 153) rfl)
theorem q6_154 : (Cond.instanceMethod ({ cls := "TrustChain$PathCheck", name := "isRevoked", desc := "(LTrustChain$Certificate;LTrustChain$Certificate;Ljava/util/ArrayList;LTrustChain$Rsa;)Z" } : MethodName)) ∈ tb := tb_in (tm_6 (List.mem_of_getElem? (i := 154) rfl)) rfl
theorem q6_155 : (Cond.code ({ cls := "TrustChain$PathCheck", name := "isRevoked", desc := "(LTrustChain$Certificate;LTrustChain$Certificate;Ljava/util/ArrayList;LTrustChain$Rsa;)Z" } : MethodName) prog_7_method_6_code (9 : Nat) (some FieldType.boolean)) ∈ tb := tb_in (tm_6 (List.mem_of_getElem? (i := 155) rfl)) rfl
theorem q6_156 : (Cond.classLink "TrustChain$PathCheck" (80 : Nat) "TrustChain$Paper") ∈ tb := tb_in (tm_6 (List.mem_of_getElem? (i := 156) rfl)) rfl
theorem q6_157 : (Cond.methodLink "TrustChain$PathCheck" (82 : Nat) ({ cls := "TrustChain$Paper", name := "isAt", desc := "(J)Z" } : MethodName)) ∈ tb := tb_in (tm_6 (List.mem_of_getElem? (i := 157) rfl)) rfl
theorem q6_158 : (Cond.methodLink "TrustChain$PathCheck" (76 : Nat) ({ cls := "TrustChain$Certificate", name := "mayUse", desc := "(I)Z" } : MethodName)) ∈ tb := tb_in (tm_6 (List.mem_of_getElem? (i := 158) rfl)) rfl
theorem q6_159 : (Cond.instanceMethod ({ cls := "TrustChain$Certificate", name := "mayUse", desc := "(I)Z" } : MethodName)) ∈ tb := tb_in (tm_6 (List.mem_of_getElem? (i := 159) rfl)) rfl
theorem q6_160 : (Cond.selects "TrustChain$Certificate" ({ cls := "TrustChain$Certificate", name := "mayUse", desc := "(I)Z" } : MethodName) ({ cls := "TrustChain$Certificate", name := "mayUse", desc := "(I)Z" } : MethodName)) ∈ tb := tb_in (tm_6 (List.mem_of_getElem? (i := 160) rfl)) rfl
theorem q6_161 : (Cond.code ({ cls := "TrustChain$Certificate", name := "mayUse", desc := "(I)Z" } : MethodName) prog_2_method_3_code (2 : Nat) (some FieldType.boolean)) ∈ tb := tb_in (tm_6 (List.mem_of_getElem? (i := 161) rfl)) rfl
theorem q6_162 : (Cond.methodLink "TrustChain$PathCheck" (89 : Nat) ({ cls := "TrustChain$Slice", name := "same", desc := "(LTrustChain$Slice;)Z" } : MethodName)) ∈ tb := tb_in (tm_6 (List.mem_of_getElem? (i := 162) rfl)) rfl
theorem q6_163 : (Cond.methodLink "TrustChain$PathCheck" (98 : Nat) ({ cls := "TrustChain$Paper", name := "hasEntry", desc := "(LTrustChain$Slice;)Z" } : MethodName)) ∈ tb := tb_in (tm_6 (List.mem_of_getElem? (i := 163) rfl)) rfl
theorem q6_164 : (Cond.instanceMethod ({ cls := "TrustChain$Paper", name := "hasEntry", desc := "(LTrustChain$Slice;)Z" } : MethodName)) ∈ tb := tb_in (tm_6 (List.mem_of_getElem? (i := 164) rfl)) rfl
theorem q6_165 : (Cond.selects "TrustChain$Paper" ({ cls := "TrustChain$Paper", name := "hasEntry", desc := "(LTrustChain$Slice;)Z" } : MethodName) ({ cls := "TrustChain$Paper", name := "hasEntry", desc := "(LTrustChain$Slice;)Z" } : MethodName)) ∈ tb := tb_in (tm_6 (List.mem_of_getElem? (i := 165) rfl)) rfl
theorem q6_166 : (Cond.sameMethod "TrustChain$Paper" "TrustChain$Paper" "hasEntry" "(LTrustChain$Slice;)Z") ∈ tb := tb_in (tm_6 (List.mem_of_getElem? (i := 166) rfl)) rfl
theorem q6_167 : (Cond.selects "TrustChain$Certificate" ({ cls := "TrustChain$Paper", name := "hasEntry", desc := "(LTrustChain$Slice;)Z" } : MethodName) ({ cls := "TrustChain$Paper", name := "hasEntry", desc := "(LTrustChain$Slice;)Z" } : MethodName)) ∈ tb := tb_in (tm_6 (List.mem_of_getElem? (i := 167) rfl)) rfl
theorem q6_168 : (Cond.code ({ cls := "TrustChain$Paper", name := "hasEntry", desc := "(LTrustChain$Slice;)Z" } : MethodName) prog_6_method_3_code (3 : Nat) (some FieldType.boolean)) ∈ tb := tb_in (tm_6 (List.mem_of_getElem? (i := 168) rfl)) rfl
theorem q6_169 : (Cond.methodLink "TrustChain$Paper" (46 : Nat) ({ cls := "java/util/ArrayList", name := "size", desc := "()I" } : MethodName)) ∈ tb := tb_in (tm_6 (List.mem_of_getElem? (i := 169) rfl)) rfl
theorem q6_170 : (Cond.methodLink "TrustChain$Paper" (50 : Nat) ({ cls := "java/util/ArrayList", name := "get", desc := "(I)Ljava/lang/Object;" } : MethodName)) ∈ tb := tb_in (tm_6 (List.mem_of_getElem? (i := 170) rfl)) rfl
theorem q6_171 : (Cond.classLink "TrustChain$Paper" (54 : Nat) "TrustChain$Slice") ∈ tb := tb_in (tm_6 (List.mem_of_getElem? (i := 171) rfl)) rfl
theorem q6_172 : (Cond.methodLink "TrustChain$Paper" (56 : Nat) ({ cls := "TrustChain$Slice", name := "same", desc := "(LTrustChain$Slice;)Z" } : MethodName)) ∈ tb := tb_in (tm_6 (List.mem_of_getElem? (i := 172) rfl)) rfl
theorem q6_173 : (Cond.methodLink "TrustChain$PathCheck" (59 : Nat) ({ cls := "TrustChain$PathCheck", name := "isNameAllowed", desc := "(Ljava/util/ArrayList;I)Z" } : MethodName)) ∈ tb := tb_in (tm_6 (List.mem_of_getElem? (i := 173) rfl)) rfl
theorem q6_174 : (Cond.static ({ cls := "TrustChain$PathCheck", name := "isNameAllowed", desc := "(Ljava/util/ArrayList;I)Z" } : MethodName)) ∈ tb := tb_in (tm_6 (List.mem_of_getElem? (i := 174) rfl)) rfl
theorem q6_175 : (Cond.code ({ cls := "TrustChain$PathCheck", name := "isNameAllowed", desc := "(Ljava/util/ArrayList;I)Z" } : MethodName) prog_7_method_7_code (6 : Nat) (some FieldType.boolean)) ∈ tb := tb_in (tm_6 (List.mem_of_getElem? (i := 175) rfl)) rfl
theorem q6_176 : (Cond.methodLink "TrustChain$PathCheck" (107 : Nat) ({ cls := "TrustChain$Certificate", name := "allowsDirectory", desc := "(LTrustChain$Slice;)Z" } : MethodName)) ∈ tb := tb_in (tm_6 (List.mem_of_getElem? (i := 176) rfl)) rfl
theorem q6_177 : (Cond.instanceMethod ({ cls := "TrustChain$Certificate", name := "allowsDirectory", desc := "(LTrustChain$Slice;)Z" } : MethodName)) ∈ tb := tb_in (tm_6 (List.mem_of_getElem? (i := 177) rfl)) rfl
theorem q6_178 : (Cond.selects "TrustChain$Certificate" ({ cls := "TrustChain$Certificate", name := "allowsDirectory", desc := "(LTrustChain$Slice;)Z" } : MethodName) ({ cls := "TrustChain$Certificate", name := "allowsDirectory", desc := "(LTrustChain$Slice;)Z" } : MethodName)) ∈ tb := tb_in (tm_6 (List.mem_of_getElem? (i := 178) rfl)) rfl
theorem q6_179 : (Cond.code ({ cls := "TrustChain$Certificate", name := "allowsDirectory", desc := "(LTrustChain$Slice;)Z" } : MethodName) prog_2_method_4_code (3 : Nat) (some FieldType.boolean)) ∈ tb := tb_in (tm_6 (List.mem_of_getElem? (i := 179) rfl)) rfl
theorem q6_180 : (Cond.methodLink "TrustChain$Certificate" (94 : Nat) ({ cls := "java/util/ArrayList", name := "isEmpty", desc := "()Z" } : MethodName)) ∈ tb := tb_in (tm_6 (List.mem_of_getElem? (i := 180) rfl)) rfl
theorem q6_181 : (Cond.methodLink "TrustChain$Certificate" (100 : Nat) ({ cls := "TrustChain$NameSet", name := "holdsDirectoryTreeOf", desc := "(LTrustChain$Slice;)Z" } : MethodName)) ∈ tb := tb_in (tm_6 (List.mem_of_getElem? (i := 181) rfl)) rfl
theorem q6_182 : (Cond.instanceMethod ({ cls := "TrustChain$NameSet", name := "holdsDirectoryTreeOf", desc := "(LTrustChain$Slice;)Z" } : MethodName)) ∈ tb := tb_in (tm_6 (List.mem_of_getElem? (i := 182) rfl)) rfl
theorem q6_183 : (Cond.selects "TrustChain$NameSet" ({ cls := "TrustChain$NameSet", name := "holdsDirectoryTreeOf", desc := "(LTrustChain$Slice;)Z" } : MethodName) ({ cls := "TrustChain$NameSet", name := "holdsDirectoryTreeOf", desc := "(LTrustChain$Slice;)Z" } : MethodName)) ∈ tb := tb_in (tm_6 (List.mem_of_getElem? (i := 183) rfl)) rfl
theorem q6_184 : (Cond.code ({ cls := "TrustChain$NameSet", name := "holdsDirectoryTreeOf", desc := "(LTrustChain$Slice;)Z" } : MethodName) prog_5_method_2_code (3 : Nat) (some FieldType.boolean)) ∈ tb := tb_in (tm_6 (List.mem_of_getElem? (i := 184) rfl)) rfl
theorem q6_185 : (Cond.methodLink "TrustChain$NameSet" (21 : Nat) ({ cls := "java/util/ArrayList", name := "size", desc := "()I" } : MethodName)) ∈ tb := tb_in (tm_6 (List.mem_of_getElem? (i := 185) rfl)) rfl
theorem q6_186 : (Cond.methodLink "TrustChain$NameSet" (25 : Nat) ({ cls := "java/util/ArrayList", name := "get", desc := "(I)Ljava/lang/Object;" } : MethodName)) ∈ tb := tb_in (tm_6 (List.mem_of_getElem? (i := 186) rfl)) rfl
theorem q6_187 : (Cond.classLink "TrustChain$NameSet" (29 : Nat) "TrustChain$Slice") ∈ tb := tb_in (tm_6 (List.mem_of_getElem? (i := 187) rfl)) rfl
theorem q6_188 : (Cond.methodLink "TrustChain$NameSet" (31 : Nat) ({ cls := "TrustChain$Slice", name := "beginsWith", desc := "(LTrustChain$Slice;)Z" } : MethodName)) ∈ tb := tb_in (tm_6 (List.mem_of_getElem? (i := 188) rfl)) rfl
theorem q6_189 : (Cond.classLink "TrustChain$PathCheck" (90 : Nat) "TrustChain$Slice") ∈ tb := tb_in (tm_6 (List.mem_of_getElem? (i := 189) rfl)) rfl
theorem q6_190 : (Cond.methodLink "TrustChain$PathCheck" (123 : Nat) ({ cls := "TrustChain$Certificate", name := "allowsDns", desc := "(LTrustChain$Slice;)Z" } : MethodName)) ∈ tb := tb_in (tm_6 (List.mem_of_getElem? (i := 190) rfl)) rfl
theorem q6_191 : (Cond.instanceMethod ({ cls := "TrustChain$Certificate", name := "allowsDns", desc := "(LTrustChain$Slice;)Z" } : MethodName)) ∈ tb := tb_in (tm_6 (List.mem_of_getElem? (i := 191) rfl)) rfl
theorem q6_192 : (Cond.selects "TrustChain$Certificate" ({ cls := "TrustChain$Certificate", name := "allowsDns", desc := "(LTrustChain$Slice;)Z" } : MethodName) ({ cls := "TrustChain$Certificate", name := "allowsDns", desc := "(LTrustChain$Slice;)Z" } : MethodName)) ∈ tb := tb_in (tm_6 (List.mem_of_getElem? (i := 192) rfl)) rfl
theorem q6_193 : (Cond.code ({ cls := "TrustChain$Certificate", name := "allowsDns", desc := "(LTrustChain$Slice;)Z" } : MethodName) prog_2_method_5_code (3 : Nat) (some FieldType.boolean)) ∈ tb := tb_in (tm_6 (List.mem_of_getElem? (i := 193) rfl)) rfl
theorem q6_194 : (Cond.methodLink "TrustChain$Certificate" (106 : Nat) ({ cls := "TrustChain$NameSet", name := "holdsDnsTreeOf", desc := "(LTrustChain$Slice;)Z" } : MethodName)) ∈ tb := tb_in (tm_6 (List.mem_of_getElem? (i := 194) rfl)) rfl
theorem q6_195 : (Cond.instanceMethod ({ cls := "TrustChain$NameSet", name := "holdsDnsTreeOf", desc := "(LTrustChain$Slice;)Z" } : MethodName)) ∈ tb := tb_in (tm_6 (List.mem_of_getElem? (i := 195) rfl)) rfl
theorem q6_196 : (Cond.selects "TrustChain$NameSet" ({ cls := "TrustChain$NameSet", name := "holdsDnsTreeOf", desc := "(LTrustChain$Slice;)Z" } : MethodName) ({ cls := "TrustChain$NameSet", name := "holdsDnsTreeOf", desc := "(LTrustChain$Slice;)Z" } : MethodName)) ∈ tb := tb_in (tm_6 (List.mem_of_getElem? (i := 196) rfl)) rfl
theorem q6_197 : (Cond.code ({ cls := "TrustChain$NameSet", name := "holdsDnsTreeOf", desc := "(LTrustChain$Slice;)Z" } : MethodName) prog_5_method_3_code (6 : Nat) (some FieldType.boolean)) ∈ tb := tb_in (tm_6 (List.mem_of_getElem? (i := 197) rfl)) rfl
theorem q6_198 : (Cond.methodLink "TrustChain$NameSet" (35 : Nat) ({ cls := "TrustChain$Slice", name := "length", desc := "()I" } : MethodName)) ∈ tb := tb_in (tm_6 (List.mem_of_getElem? (i := 198) rfl)) rfl
theorem q6_199 : (Cond.methodLink "TrustChain$NameSet" (38 : Nat) ({ cls := "TrustChain$Slice", name := "at", desc := "(I)I" } : MethodName)) ∈ tb := tb_in (tm_6 (List.mem_of_getElem? (i := 199) rfl)) rfl
theorem q6_200 : (Cond.methodLink "TrustChain$NameSet" (42 : Nat) ({ cls := "TrustChain$Slice", name := "sharesTail", desc := "(LTrustChain$Slice;I)Z" } : MethodName)) ∈ tb := tb_in (tm_6 (List.mem_of_getElem? (i := 200) rfl)) rfl
theorem q6_201 : (Cond.instanceMethod ({ cls := "TrustChain$Slice", name := "sharesTail", desc := "(LTrustChain$Slice;I)Z" } : MethodName)) ∈ tb := tb_in (tm_6 (List.mem_of_getElem? (i := 201) rfl)) rfl
theorem q6_202 : (Cond.selects "TrustChain$Slice" ({ cls := "TrustChain$Slice", name := "sharesTail", desc := "(LTrustChain$Slice;I)Z" } : MethodName) ({ cls := "TrustChain$Slice", name := "sharesTail", desc := "(LTrustChain$Slice;I)Z" } : MethodName)) ∈ tb := tb_in (tm_6 (List.mem_of_getElem? (i := 202) rfl)) rfl
theorem q6_203 : (Cond.code ({ cls := "TrustChain$Slice", name := "sharesTail", desc := "(LTrustChain$Slice;I)Z" } : MethodName) prog_12_method_6_code (4 : Nat) (some FieldType.boolean)) ∈ tb := tb_in (tm_6 (List.mem_of_getElem? (i := 203) rfl)) rfl
theorem q6_204 : (Cond.methodLink "TrustChain$Slice" (34 : Nat) ({ cls := "TrustChain$Slice", name := "lower", desc := "(I)I" } : MethodName)) ∈ tb := tb_in (tm_6 (List.mem_of_getElem? (i := 204) rfl)) rfl
theorem q6_205 : (Cond.static ({ cls := "TrustChain$Slice", name := "lower", desc := "(I)I" } : MethodName)) ∈ tb := tb_in (tm_6 (List.mem_of_getElem? (i := 205) rfl)) rfl
theorem q6_206 : (Cond.code ({ cls := "TrustChain$Slice", name := "lower", desc := "(I)I" } : MethodName) prog_12_method_9_code (1 : Nat) (some FieldType.int)) ∈ tb := tb_in (tm_6 (List.mem_of_getElem? (i := 206) rfl)) rfl
theorem q6_207 : (Cond.methodLink "TrustChain$PathCheck" (66 : Nat) ({ cls := "TrustChain$PathCheck", name := "faultAsIssuer", desc := "(Ljava/util/ArrayList;I)I" } : MethodName)) ∈ tb := tb_in (tm_6 (List.mem_of_getElem? (i := 207) rfl)) rfl
theorem q6_208 : (Cond.privateMethod ({ cls := "TrustChain$PathCheck", name := "faultAsIssuer", desc := "(Ljava/util/ArrayList;I)I" } : MethodName)) ∈ lw_tbl := tm_6 (List.mem_of_getElem? (i := 208) rfl)
theorem q6_209 : (Cond.instanceMethod ({ cls := "TrustChain$PathCheck", name := "faultAsIssuer", desc := "(Ljava/util/ArrayList;I)I" } : MethodName)) ∈ tb := tb_in (tm_6 (List.mem_of_getElem? (i := 209) rfl)) rfl
theorem q6_210 : (Cond.code ({ cls := "TrustChain$PathCheck", name := "faultAsIssuer", desc := "(Ljava/util/ArrayList;I)I" } : MethodName) prog_7_method_5_code (4 : Nat) (some FieldType.int)) ∈ tb := tb_in (tm_6 (List.mem_of_getElem? (i := 210) rfl)) rfl
theorem q6_211 : (Cond.methodLink "TrustChain$PathCheck" (73 : Nat) ({ cls := "TrustChain$PathCheck", name := "isTooFarDown", desc := "(Ljava/util/ArrayList;I)Z" } : MethodName)) ∈ tb := tb_in (tm_6 (List.mem_of_getElem? (i := 211) rfl)) rfl
theorem q6_212 : (Cond.static ({ cls := "TrustChain$PathCheck", name := "isTooFarDown", desc := "(Ljava/util/ArrayList;I)Z" } : MethodName)) ∈ tb := tb_in (tm_6 (List.mem_of_getElem? (i := 212) rfl)) rfl
theorem q6_213 : (Cond.code ({ cls := "TrustChain$PathCheck", name := "isTooFarDown", desc := "(Ljava/util/ArrayList;I)Z" } : MethodName) prog_7_method_8_code (5 : Nat) (some FieldType.boolean)) ∈ tb := tb_in (tm_6 (List.mem_of_getElem? (i := 213) rfl)) rfl
theorem q6_214 : (Cond.methodLink "TrustChain" (218 : Nat) ({ cls := "TrustChain", name := "keepPath", desc := "()V" } : MethodName)) ∈ tb := tb_in (tm_6 (List.mem_of_getElem? (i := 214) rfl)) rfl
theorem q6_215 : (Cond.privateMethod ({ cls := "TrustChain", name := "keepPath", desc := "()V" } : MethodName)) ∈ lw_tbl := tm_6 (List.mem_of_getElem? (i := 215) rfl)
theorem q6_216 : (Cond.instanceMethod ({ cls := "TrustChain", name := "keepPath", desc := "()V" } : MethodName)) ∈ tb := tb_in (tm_6 (List.mem_of_getElem? (i := 216) rfl)) rfl
theorem q6_217 : (Cond.code ({ cls := "TrustChain", name := "keepPath", desc := "()V" } : MethodName) prog_1_method_22_code (2 : Nat) none) ∈ tb := tb_in (tm_6 (List.mem_of_getElem? (i := 217) rfl)) rfl
theorem q6_218 : (Cond.methodLink "TrustChain" (261 : Nat) ({ cls := "java/lang/Math", name := "min", desc := "(II)I" } : MethodName)) ∈ tb := tb_in (tm_6 (List.mem_of_getElem? (i := 218) rfl)) rfl
theorem q6_219 : (Cond.methodLink "TrustChain" (221 : Nat) ({ cls := "TrustChain$Search", name := "advance", desc := "(Ljava/util/ArrayList;)Z" } : MethodName)) ∈ tb := tb_in (tm_6 (List.mem_of_getElem? (i := 219) rfl)) rfl
theorem q6_220 : (Cond.methodLink "TrustChainLaw" (107 : Nat) ({ cls := "TrustChainLaw", name := "chain", desc := "(LTrustChain;I[J)I" } : MethodName)) ∈ tb := tb_in (tm_6 (List.mem_of_getElem? (i := 220) rfl)) rfl
theorem q6_221 : (Cond.static ({ cls := "TrustChainLaw", name := "chain", desc := "(LTrustChain;I[J)I" } : MethodName)) ∈ tb := tb_in (tm_6 (List.mem_of_getElem? (i := 221) rfl)) rfl
theorem q6_222 : (Cond.codeWith ({ cls := "TrustChainLaw", name := "chain", desc := "(LTrustChain;I[J)I" } : MethodName) method_12_code (4 : Nat) (some FieldType.int) [((0 : Nat), (9 : Nat), (12 : Nat), (13 : Nat))]) ∈ tb := tb_in (tm_6 (List.mem_of_getElem? (i := 222) rfl)) rfl
theorem q6_223 : (Cond.methodLink "TrustChainLaw" (48 : Nat) ({ cls := "TrustChain", name := "chain", desc := "(I)I" } : MethodName)) ∈ tb := tb_in (tm_6 (List.mem_of_getElem? (i := 223) rfl)) rfl
theorem q6_224 : (Cond.instanceMethod ({ cls := "TrustChain", name := "chain", desc := "(I)I" } : MethodName)) ∈ tb := tb_in (tm_6 (List.mem_of_getElem? (i := 224) rfl)) rfl
theorem q6_225 : (Cond.selects "TrustChain" ({ cls := "TrustChain", name := "chain", desc := "(I)I" } : MethodName) ({ cls := "TrustChain", name := "chain", desc := "(I)I" } : MethodName)) ∈ tb := tb_in (tm_6 (List.mem_of_getElem? (i := 225) rfl)) rfl
theorem q6_226 : (Cond.code ({ cls := "TrustChain", name := "chain", desc := "(I)I" } : MethodName) prog_1_method_12_code (2 : Nat) (some FieldType.int)) ∈ tb := tb_in (tm_6 (List.mem_of_getElem? (i := 226) rfl)) rfl
theorem q6_227 : (Cond.stringRef "TrustChain" (225 : Nat) "the chain has no such one") ∈ lw_tbl := tm_6 (List.mem_of_getElem? (i := 227) rfl)
theorem q6_228 : (Cond.methodLink "TrustChainLaw" (110 : Nat) ({ cls := "TrustChainLaw", name := "count", desc := "(LTrustChain;I[J)I" } : MethodName)) ∈ tb := tb_in (tm_6 (List.mem_of_getElem? (i := 228) rfl)) rfl
theorem q6_229 : (Cond.static ({ cls := "TrustChainLaw", name := "count", desc := "(LTrustChain;I[J)I" } : MethodName)) ∈ tb := tb_in (tm_6 (List.mem_of_getElem? (i := 229) rfl)) rfl
theorem q6_230 : (Cond.codeWith ({ cls := "TrustChainLaw", name := "count", desc := "(LTrustChain;I[J)I" } : MethodName) method_13_code (4 : Nat) (some FieldType.int) [((0 : Nat), (9 : Nat), (12 : Nat), (19 : Nat))]) ∈ tb := tb_in (tm_6 (List.mem_of_getElem? (i := 230) rfl)) rfl
theorem q6_231 : (Cond.methodLink "TrustChainLaw" (51 : Nat) ({ cls := "TrustChain", name := "count", desc := "(I)I" } : MethodName)) ∈ tb := tb_in (tm_6 (List.mem_of_getElem? (i := 231) rfl)) rfl
theorem q6_232 : (Cond.instanceMethod ({ cls := "TrustChain", name := "count", desc := "(I)I" } : MethodName)) ∈ tb := tb_in (tm_6 (List.mem_of_getElem? (i := 232) rfl)) rfl
theorem q6_233 : (Cond.selects "TrustChain" ({ cls := "TrustChain", name := "count", desc := "(I)I" } : MethodName) ({ cls := "TrustChain", name := "count", desc := "(I)I" } : MethodName)) ∈ tb := tb_in (tm_6 (List.mem_of_getElem? (i := 233) rfl)) rfl
theorem q6_234 : (Cond.code ({ cls := "TrustChain", name := "count", desc := "(I)I" } : MethodName) prog_1_method_13_code (2 : Nat) (some FieldType.int)) ∈ tb := tb_in (tm_6 (List.mem_of_getElem? (i := 234) rfl)) rfl
theorem q6_235 : (Cond.stringRef "TrustChain" (227 : Nat) "no such count") ∈ lw_tbl := tm_6 (List.mem_of_getElem? (i := 235) rfl)
theorem q6_236 : (Cond.methodLink "TrustChainLaw" (113 : Nat) ({ cls := "TrustChainLaw", name := "covers", desc := "(LTrustChain;IJJJJ[J)I" } : MethodName)) ∈ tb := tb_in (tm_6 (List.mem_of_getElem? (i := 236) rfl)) rfl
theorem q6_237 : (Cond.static ({ cls := "TrustChainLaw", name := "covers", desc := "(LTrustChain;IJJJJ[J)I" } : MethodName)) ∈ tb := tb_in (tm_6 (List.mem_of_getElem? (i := 237) rfl)) rfl
theorem q6_238 : (Cond.codeWith ({ cls := "TrustChainLaw", name := "covers", desc := "(LTrustChain;IJJJJ[J)I" } : MethodName) method_14_code (12 : Nat) (some FieldType.int) [((0 : Nat), (24 : Nat), (27 : Nat), (13 : Nat))]) ∈ tb := tb_in (tm_6 (List.mem_of_getElem? (i := 238) rfl)) rfl
theorem q6_239 : (Cond.methodLink "TrustChainLaw" (54 : Nat) ({ cls := "TrustChain", name := "covers", desc := "(IJJJJ)Z" } : MethodName)) ∈ tb := tb_in (tm_6 (List.mem_of_getElem? (i := 239) rfl)) rfl
theorem q7_0 : (Cond.instanceMethod ({ cls := "TrustChain", name := "covers", desc := "(IJJJJ)Z" } : MethodName)) ∈ tb := tb_in (tm_7 (List.mem_of_getElem? (i := 0) rfl)) rfl
theorem q7_1 : (Cond.selects "TrustChain" ({ cls := "TrustChain", name := "covers", desc := "(IJJJJ)Z" } : MethodName) ({ cls := "TrustChain", name := "covers", desc := "(IJJJJ)Z" } : MethodName)) ∈ tb := tb_in (tm_7 (List.mem_of_getElem? (i := 1) rfl)) rfl
theorem q7_2 : (Cond.code ({ cls := "TrustChain", name := "covers", desc := "(IJJJJ)Z" } : MethodName) prog_1_method_14_code (11 : Nat) (some FieldType.boolean)) ∈ tb := tb_in (tm_7 (List.mem_of_getElem? (i := 2) rfl)) rfl
theorem q7_3 : (Cond.methodLink "TrustChain" (229 : Nat) ({ cls := "TrustChain", name := "takeHost", desc := "(IJ)V" } : MethodName)) ∈ tb := tb_in (tm_7 (List.mem_of_getElem? (i := 3) rfl)) rfl
theorem q7_4 : (Cond.privateMethod ({ cls := "TrustChain", name := "takeHost", desc := "(IJ)V" } : MethodName)) ∈ lw_tbl := tm_7 (List.mem_of_getElem? (i := 4) rfl)
theorem q7_5 : (Cond.instanceMethod ({ cls := "TrustChain", name := "takeHost", desc := "(IJ)V" } : MethodName)) ∈ tb := tb_in (tm_7 (List.mem_of_getElem? (i := 5) rfl)) rfl
theorem q7_6 : (Cond.code ({ cls := "TrustChain", name := "takeHost", desc := "(IJ)V" } : MethodName) prog_1_method_16_code (5 : Nat) none) ∈ tb := tb_in (tm_7 (List.mem_of_getElem? (i := 6) rfl)) rfl
theorem q7_7 : (Cond.classLink "TrustChain" (237 : Nat) "TrustChain$Slice") ∈ tb := tb_in (tm_7 (List.mem_of_getElem? (i := 7) rfl)) rfl
theorem q7_8 : (Cond.methodLink "TrustChain" (239 : Nat) ({ cls := "TrustChain$Slice", name := "<init>", desc := "([BII)V" } : MethodName)) ∈ tb := tb_in (tm_7 (List.mem_of_getElem? (i := 8) rfl)) rfl
theorem q7_9 : (Cond.methodLink "TrustChain" (242 : Nat) ({ cls := "TrustChain$NameSet", name := "holdsHost", desc := "(LTrustChain$Slice;)Z" } : MethodName)) ∈ tb := tb_in (tm_7 (List.mem_of_getElem? (i := 9) rfl)) rfl
theorem q7_10 : (Cond.instanceMethod ({ cls := "TrustChain$NameSet", name := "holdsHost", desc := "(LTrustChain$Slice;)Z" } : MethodName)) ∈ tb := tb_in (tm_7 (List.mem_of_getElem? (i := 10) rfl)) rfl
theorem q7_11 : (Cond.selects "TrustChain$NameSet" ({ cls := "TrustChain$NameSet", name := "holdsHost", desc := "(LTrustChain$Slice;)Z" } : MethodName) ({ cls := "TrustChain$NameSet", name := "holdsHost", desc := "(LTrustChain$Slice;)Z" } : MethodName)) ∈ tb := tb_in (tm_7 (List.mem_of_getElem? (i := 11) rfl)) rfl
theorem q7_12 : (Cond.code ({ cls := "TrustChain$NameSet", name := "holdsHost", desc := "(LTrustChain$Slice;)Z" } : MethodName) prog_5_method_4_code (7 : Nat) (some FieldType.boolean)) ∈ tb := tb_in (tm_7 (List.mem_of_getElem? (i := 12) rfl)) rfl
theorem q7_13 : (Cond.methodLink "TrustChain$NameSet" (46 : Nat) ({ cls := "TrustChain$Slice", name := "find", desc := "(C)I" } : MethodName)) ∈ tb := tb_in (tm_7 (List.mem_of_getElem? (i := 13) rfl)) rfl
theorem q7_14 : (Cond.instanceMethod ({ cls := "TrustChain$Slice", name := "find", desc := "(C)I" } : MethodName)) ∈ tb := tb_in (tm_7 (List.mem_of_getElem? (i := 14) rfl)) rfl
theorem q7_15 : (Cond.selects "TrustChain$Slice" ({ cls := "TrustChain$Slice", name := "find", desc := "(C)I" } : MethodName) ({ cls := "TrustChain$Slice", name := "find", desc := "(C)I" } : MethodName)) ∈ tb := tb_in (tm_7 (List.mem_of_getElem? (i := 15) rfl)) rfl
theorem q7_16 : (Cond.code ({ cls := "TrustChain$Slice", name := "find", desc := "(C)I" } : MethodName) prog_12_method_7_code (3 : Nat) (some FieldType.int)) ∈ tb := tb_in (tm_7 (List.mem_of_getElem? (i := 16) rfl)) rfl
theorem q7_17 : (Cond.classLink "TrustChainLaw" (59 : Nat) "TrustChainModel") ∈ tb := tb_in (tm_7 (List.mem_of_getElem? (i := 17) rfl)) rfl
theorem q7_18 : (Cond.instantiable "TrustChainModel" (32 : Nat)) ∈ tb := tb_in (tm_7 (List.mem_of_getElem? (i := 18) rfl)) rfl
theorem q7_19 : (Cond.methodLink "TrustChainLaw" (61 : Nat) ({ cls := "TrustChainModel", name := "<init>", desc := "()V" } : MethodName)) ∈ tb := tb_in (tm_7 (List.mem_of_getElem? (i := 19) rfl)) rfl
theorem q7_20 : (Cond.instanceMethod ({ cls := "TrustChainModel", name := "<init>", desc := "()V" } : MethodName)) ∈ tb := tb_in (tm_7 (List.mem_of_getElem? (i := 20) rfl)) rfl
theorem q7_21 : (Cond.code ({ cls := "TrustChainModel", name := "<init>", desc := "()V" } : MethodName) prog_14_method_1_code (1 : Nat) none) ∈ tb := tb_in (tm_7 (List.mem_of_getElem? (i := 21) rfl)) rfl
theorem q7_22 : (Cond.methodLink "TrustChainModel" (1 : Nat) ({ cls := "java/lang/Object", name := "<init>", desc := "()V" } : MethodName)) ∈ tb := tb_in (tm_7 (List.mem_of_getElem? (i := 22) rfl)) rfl
theorem q7_23 : (Cond.classLink "TrustChainModel" (17 : Nat) "TrustChainModel$Text") ∈ tb := tb_in (tm_7 (List.mem_of_getElem? (i := 23) rfl)) rfl
theorem q7_24 : (Cond.arrayOver (FieldType.object "TrustChainModel$Text")) ∈ lw_tbl := tm_7 (List.mem_of_getElem? (i := 24) rfl)
theorem q7_25 : (Cond.instantiable "TrustChainModel$Text" (54 : Nat)) ∈ tb := tb_in (tm_7 (List.mem_of_getElem? (i := 25) rfl)) rfl
theorem q7_26 : (Cond.methodLinkNest "TrustChainModel" (26 : Nat) ({ cls := "TrustChainModel$Text", name := "<init>", desc := "()V" } : MethodName) "TrustChainModel") ∈ lw_tbl := tm_7 (List.mem_of_getElem? (i := 26) rfl)
theorem q7_27 : (Cond.instanceMethod ({ cls := "TrustChainModel$Text", name := "<init>", desc := "()V" } : MethodName)) ∈ tb := tb_in (tm_7 (List.mem_of_getElem? (i := 27) rfl)) rfl
theorem q7_28 : (Cond.code ({ cls := "TrustChainModel$Text", name := "<init>", desc := "()V" } : MethodName) prog_15_method_1_code (1 : Nat) none) ∈ tb := tb_in (tm_7 (List.mem_of_getElem? (i := 28) rfl)) rfl
theorem q7_29 : (Cond.methodLink "TrustChainModel$Text" (3 : Nat) ({ cls := "java/lang/Object", name := "<init>", desc := "()V" } : MethodName)) ∈ tb := tb_in (tm_7 (List.mem_of_getElem? (i := 29) rfl)) rfl
theorem q7_30 : (Cond.fieldLink "TrustChainModel$Text" (9 : Nat) "TrustChainModel$Text" "d" "[I") ∈ tb := tb_in (tm_7 (List.mem_of_getElem? (i := 30) rfl)) rfl
theorem q7_31 : (Cond.fieldLink "TrustChainModel" (189 : Nat) "TrustChainModel$Text" "d" "[I") ∈ tb := tb_in (tm_7 (List.mem_of_getElem? (i := 31) rfl)) rfl
theorem q7_32 : (Cond.fieldLink "TrustChainModel" (186 : Nat) "TrustChainModel$Text" "n" "I") ∈ tb := tb_in (tm_7 (List.mem_of_getElem? (i := 32) rfl)) rfl
theorem q7_33 : (Cond.fieldLink "TrustChainModel$Text" (249 : Nat) "TrustChainModel$Text" "n" "I") ∈ tb := tb_in (tm_7 (List.mem_of_getElem? (i := 33) rfl)) rfl
theorem q7_34 : (Cond.fieldLink "TrustChainModel$Text" (52 : Nat) "TrustChainModel$Text" "p" "I") ∈ tb := tb_in (tm_7 (List.mem_of_getElem? (i := 34) rfl)) rfl
theorem q7_35 : (Cond.fieldLink "TrustChainModel$Text" (48 : Nat) "TrustChainModel$Text" "wrong" "I") ∈ tb := tb_in (tm_7 (List.mem_of_getElem? (i := 35) rfl)) rfl
theorem q7_36 : (Cond.fieldLink "TrustChainModel" (196 : Nat) "TrustChainModel$Text" "wrong" "I") ∈ tb := tb_in (tm_7 (List.mem_of_getElem? (i := 36) rfl)) rfl
theorem q7_37 : (Cond.fieldLink "TrustChainModel$Text" (62 : Nat) "TrustChainModel$Text" "from" "I") ∈ tb := tb_in (tm_7 (List.mem_of_getElem? (i := 37) rfl)) rfl
theorem q7_38 : (Cond.fieldLink "TrustChainModel$Text" (65 : Nat) "TrustChainModel$Text" "to" "I") ∈ tb := tb_in (tm_7 (List.mem_of_getElem? (i := 38) rfl)) rfl
theorem q7_39 : (Cond.fieldLink "TrustChainModel$Text" (59 : Nat) "TrustChainModel$Text" "place" "I") ∈ tb := tb_in (tm_7 (List.mem_of_getElem? (i := 39) rfl)) rfl
theorem q7_40 : (Cond.fieldLink "TrustChainModel" (213 : Nat) "TrustChainModel$Text" "time0" "J") ∈ tb := tb_in (tm_7 (List.mem_of_getElem? (i := 40) rfl)) rfl
theorem q7_41 : (Cond.fieldLink "TrustChainModel$Text" (292 : Nat) "TrustChainModel$Text" "time0" "J") ∈ tb := tb_in (tm_7 (List.mem_of_getElem? (i := 41) rfl)) rfl
theorem q7_42 : (Cond.fieldLink "TrustChainModel" (217 : Nat) "TrustChainModel$Text" "time1" "J") ∈ tb := tb_in (tm_7 (List.mem_of_getElem? (i := 42) rfl)) rfl
theorem q7_43 : (Cond.fieldLink "TrustChainModel$Text" (295 : Nat) "TrustChainModel$Text" "time1" "J") ∈ tb := tb_in (tm_7 (List.mem_of_getElem? (i := 43) rfl)) rfl
theorem q7_44 : (Cond.fieldLink "TrustChainModel$Text" (75 : Nat) "TrustChainModel$Text" "latest" "J") ∈ tb := tb_in (tm_7 (List.mem_of_getElem? (i := 44) rfl)) rfl
theorem q7_45 : (Cond.fieldLink "TrustChainModel" (252 : Nat) "TrustChainModel$Text" "serial" "I") ∈ tb := tb_in (tm_7 (List.mem_of_getElem? (i := 45) rfl)) rfl
theorem q7_46 : (Cond.fieldLink "TrustChainModel$Text" (281 : Nat) "TrustChainModel$Text" "serial" "I") ∈ tb := tb_in (tm_7 (List.mem_of_getElem? (i := 46) rfl)) rfl
theorem q7_47 : (Cond.fieldLink "TrustChainModel" (249 : Nat) "TrustChainModel$Text" "serialEnd" "I") ∈ tb := tb_in (tm_7 (List.mem_of_getElem? (i := 47) rfl)) rfl
theorem q7_48 : (Cond.fieldLink "TrustChainModel$Text" (283 : Nat) "TrustChainModel$Text" "serialEnd" "I") ∈ tb := tb_in (tm_7 (List.mem_of_getElem? (i := 48) rfl)) rfl
theorem q7_49 : (Cond.fieldLink "TrustChainModel$Text" (314 : Nat) "TrustChainModel$Text" "issuer" "I") ∈ tb := tb_in (tm_7 (List.mem_of_getElem? (i := 49) rfl)) rfl
theorem q7_50 : (Cond.fieldLink "TrustChainModel" (353 : Nat) "TrustChainModel$Text" "issuer" "I") ∈ tb := tb_in (tm_7 (List.mem_of_getElem? (i := 50) rfl)) rfl
theorem q7_51 : (Cond.fieldLink "TrustChainModel$Text" (316 : Nat) "TrustChainModel$Text" "issuerEnd" "I") ∈ tb := tb_in (tm_7 (List.mem_of_getElem? (i := 51) rfl)) rfl
theorem q7_52 : (Cond.fieldLink "TrustChainModel" (356 : Nat) "TrustChainModel$Text" "issuerEnd" "I") ∈ tb := tb_in (tm_7 (List.mem_of_getElem? (i := 52) rfl)) rfl
theorem q7_53 : (Cond.fieldLink "TrustChainModel$Text" (298 : Nat) "TrustChainModel$Text" "subject" "I") ∈ tb := tb_in (tm_7 (List.mem_of_getElem? (i := 53) rfl)) rfl
theorem q7_54 : (Cond.fieldLink "TrustChainModel" (347 : Nat) "TrustChainModel$Text" "subject" "I") ∈ tb := tb_in (tm_7 (List.mem_of_getElem? (i := 54) rfl)) rfl
theorem q7_55 : (Cond.fieldLink "TrustChainModel$Text" (301 : Nat) "TrustChainModel$Text" "subjectEnd" "I") ∈ tb := tb_in (tm_7 (List.mem_of_getElem? (i := 55) rfl)) rfl
theorem q7_56 : (Cond.fieldLink "TrustChainModel" (350 : Nat) "TrustChainModel$Text" "subjectEnd" "I") ∈ tb := tb_in (tm_7 (List.mem_of_getElem? (i := 56) rfl)) rfl
theorem q7_57 : (Cond.fieldLink "TrustChainModel" (240 : Nat) "TrustChainModel$Text" "subjectParts" "I") ∈ tb := tb_in (tm_7 (List.mem_of_getElem? (i := 57) rfl)) rfl
theorem q7_58 : (Cond.fieldLink "TrustChainModel$Text" (304 : Nat) "TrustChainModel$Text" "subjectParts" "I") ∈ tb := tb_in (tm_7 (List.mem_of_getElem? (i := 58) rfl)) rfl
theorem q7_59 : (Cond.fieldLink "TrustChainModel$Text" (123 : Nat) "TrustChainModel$Text" "parts" "I") ∈ tb := tb_in (tm_7 (List.mem_of_getElem? (i := 59) rfl)) rfl
theorem q7_60 : (Cond.fieldLink "TrustChainModel$Text" (156 : Nat) "TrustChainModel$Text" "modulus" "I") ∈ tb := tb_in (tm_7 (List.mem_of_getElem? (i := 60) rfl)) rfl
theorem q7_61 : (Cond.fieldLink "TrustChainModel" (223 : Nat) "TrustChainModel$Text" "modulus" "I") ∈ tb := tb_in (tm_7 (List.mem_of_getElem? (i := 61) rfl)) rfl
theorem q7_62 : (Cond.fieldLink "TrustChainModel$Text" (159 : Nat) "TrustChainModel$Text" "modulusEnd" "I") ∈ tb := tb_in (tm_7 (List.mem_of_getElem? (i := 62) rfl)) rfl
theorem q7_63 : (Cond.fieldLink "TrustChainModel" (220 : Nat) "TrustChainModel$Text" "modulusEnd" "I") ∈ tb := tb_in (tm_7 (List.mem_of_getElem? (i := 63) rfl)) rfl
theorem q7_64 : (Cond.fieldLink "TrustChainModel$Text" (170 : Nat) "TrustChainModel$Text" "exponent" "I") ∈ tb := tb_in (tm_7 (List.mem_of_getElem? (i := 64) rfl)) rfl
theorem q7_65 : (Cond.fieldLink "TrustChainModel" (226 : Nat) "TrustChainModel$Text" "exponent" "I") ∈ tb := tb_in (tm_7 (List.mem_of_getElem? (i := 65) rfl)) rfl
theorem q7_66 : (Cond.fieldLink "TrustChainModel" (258 : Nat) "TrustChainModel$Text" "tbs" "I") ∈ tb := tb_in (tm_7 (List.mem_of_getElem? (i := 66) rfl)) rfl
theorem q7_67 : (Cond.fieldLink "TrustChainModel$Text" (252 : Nat) "TrustChainModel$Text" "tbs" "I") ∈ tb := tb_in (tm_7 (List.mem_of_getElem? (i := 67) rfl)) rfl
theorem q7_68 : (Cond.fieldLink "TrustChainModel" (261 : Nat) "TrustChainModel$Text" "tbsEnd" "I") ∈ tb := tb_in (tm_7 (List.mem_of_getElem? (i := 68) rfl)) rfl
theorem q7_69 : (Cond.fieldLink "TrustChainModel$Text" (255 : Nat) "TrustChainModel$Text" "tbsEnd" "I") ∈ tb := tb_in (tm_7 (List.mem_of_getElem? (i := 69) rfl)) rfl
theorem q7_70 : (Cond.fieldLink "TrustChainModel" (279 : Nat) "TrustChainModel$Text" "signature" "I") ∈ tb := tb_in (tm_7 (List.mem_of_getElem? (i := 70) rfl)) rfl
theorem q7_71 : (Cond.fieldLink "TrustChainModel$Text" (272 : Nat) "TrustChainModel$Text" "signature" "I") ∈ tb := tb_in (tm_7 (List.mem_of_getElem? (i := 71) rfl)) rfl
theorem q7_72 : (Cond.fieldLink "TrustChainModel" (276 : Nat) "TrustChainModel$Text" "signatureEnd" "I") ∈ tb := tb_in (tm_7 (List.mem_of_getElem? (i := 72) rfl)) rfl
theorem q7_73 : (Cond.fieldLink "TrustChainModel$Text" (275 : Nat) "TrustChainModel$Text" "signatureEnd" "I") ∈ tb := tb_in (tm_7 (List.mem_of_getElem? (i := 73) rfl)) rfl
theorem q7_74 : (Cond.fieldLink "TrustChainModel" (232 : Nat) "TrustChainModel$Text" "length" "I") ∈ tb := tb_in (tm_7 (List.mem_of_getElem? (i := 74) rfl)) rfl
theorem q7_75 : (Cond.fieldLink "TrustChainModel$Text" (222 : Nat) "TrustChainModel$Text" "length" "I") ∈ tb := tb_in (tm_7 (List.mem_of_getElem? (i := 75) rfl)) rfl
theorem q7_76 : (Cond.fieldLink "TrustChainModel" (234 : Nat) "TrustChainModel$Text" "usage" "I") ∈ tb := tb_in (tm_7 (List.mem_of_getElem? (i := 76) rfl)) rfl
theorem q7_77 : (Cond.fieldLink "TrustChainModel$Text" (224 : Nat) "TrustChainModel$Text" "usage" "I") ∈ tb := tb_in (tm_7 (List.mem_of_getElem? (i := 77) rfl)) rfl
theorem q7_78 : (Cond.fieldLink "TrustChainModel" (237 : Nat) "TrustChainModel$Text" "dns" "I") ∈ tb := tb_in (tm_7 (List.mem_of_getElem? (i := 78) rfl)) rfl
theorem q7_79 : (Cond.fieldLink "TrustChainModel$Text" (235 : Nat) "TrustChainModel$Text" "dns" "I") ∈ tb := tb_in (tm_7 (List.mem_of_getElem? (i := 79) rfl)) rfl
theorem q7_80 : (Cond.fieldLink "TrustChainModel$Text" (229 : Nat) "TrustChainModel$Text" "dirs" "I") ∈ tb := tb_in (tm_7 (List.mem_of_getElem? (i := 80) rfl)) rfl
theorem q7_81 : (Cond.fieldLink "TrustChainModel" (394 : Nat) "TrustChainModel$Text" "dirs" "I") ∈ tb := tb_in (tm_7 (List.mem_of_getElem? (i := 81) rfl)) rfl
theorem q7_82 : (Cond.fieldLink "TrustChainModel" (243 : Nat) "TrustChainModel$Text" "extensions" "I") ∈ tb := tb_in (tm_7 (List.mem_of_getElem? (i := 82) rfl)) rfl
theorem q7_83 : (Cond.fieldLink "TrustChainModel$Text" (243 : Nat) "TrustChainModel$Text" "extensions" "I") ∈ tb := tb_in (tm_7 (List.mem_of_getElem? (i := 83) rfl)) rfl
theorem q7_84 : (Cond.fieldLink "TrustChainModel$Text" (179 : Nat) "TrustChainModel$Text" "matters" "I") ∈ tb := tb_in (tm_7 (List.mem_of_getElem? (i := 84) rfl)) rfl
theorem q7_85 : (Cond.fieldLink "TrustChainModel" (246 : Nat) "TrustChainModel$Text" "matters" "I") ∈ tb := tb_in (tm_7 (List.mem_of_getElem? (i := 85) rfl)) rfl
theorem q7_86 : (Cond.fieldLink "TrustChainModel$Text" (201 : Nat) "TrustChainModel$Text" "ownKey" "I") ∈ tb := tb_in (tm_7 (List.mem_of_getElem? (i := 86) rfl)) rfl
theorem q7_87 : (Cond.fieldLink "TrustChainModel" (363 : Nat) "TrustChainModel$Text" "ownKey" "I") ∈ tb := tb_in (tm_7 (List.mem_of_getElem? (i := 87) rfl)) rfl
theorem q7_88 : (Cond.fieldLink "TrustChainModel$Text" (204 : Nat) "TrustChainModel$Text" "ownKeyEnd" "I") ∈ tb := tb_in (tm_7 (List.mem_of_getElem? (i := 88) rfl)) rfl
theorem q7_89 : (Cond.fieldLink "TrustChainModel" (369 : Nat) "TrustChainModel$Text" "ownKeyEnd" "I") ∈ tb := tb_in (tm_7 (List.mem_of_getElem? (i := 89) rfl)) rfl
theorem q7_90 : (Cond.fieldLink "TrustChainModel$Text" (207 : Nat) "TrustChainModel$Text" "issuerKey" "I") ∈ tb := tb_in (tm_7 (List.mem_of_getElem? (i := 90) rfl)) rfl
theorem q7_91 : (Cond.fieldLink "TrustChainModel" (366 : Nat) "TrustChainModel$Text" "issuerKey" "I") ∈ tb := tb_in (tm_7 (List.mem_of_getElem? (i := 91) rfl)) rfl
theorem q7_92 : (Cond.fieldLink "TrustChainModel$Text" (210 : Nat) "TrustChainModel$Text" "issuerKeyEnd" "I") ∈ tb := tb_in (tm_7 (List.mem_of_getElem? (i := 92) rfl)) rfl
theorem q7_93 : (Cond.fieldLink "TrustChainModel" (372 : Nat) "TrustChainModel$Text" "issuerKeyEnd" "I") ∈ tb := tb_in (tm_7 (List.mem_of_getElem? (i := 93) rfl)) rfl
theorem q7_94 : (Cond.fieldLink "TrustChainModel$Text" (241 : Nat) "TrustChainModel$Text" "trees" "I") ∈ tb := tb_in (tm_7 (List.mem_of_getElem? (i := 94) rfl)) rfl
theorem q7_95 : (Cond.fieldLink "TrustChainModel" (409 : Nat) "TrustChainModel$Text" "trees" "I") ∈ tb := tb_in (tm_7 (List.mem_of_getElem? (i := 95) rfl)) rfl
theorem q7_96 : (Cond.fieldLink "TrustChainModel" (255 : Nat) "TrustChainModel$Text" "entries" "I") ∈ tb := tb_in (tm_7 (List.mem_of_getElem? (i := 96) rfl)) rfl
theorem q7_97 : (Cond.fieldLink "TrustChainModel$Text" (246 : Nat) "TrustChainModel$Text" "entries" "I") ∈ tb := tb_in (tm_7 (List.mem_of_getElem? (i := 97) rfl)) rfl
theorem q7_98 : (Cond.fieldLink "TrustChainModel$Text" (173 : Nat) "TrustChainModel$Text" "oids" "I") ∈ tb := tb_in (tm_7 (List.mem_of_getElem? (i := 98) rfl)) rfl
theorem q7_99 : (Cond.fieldLink "TrustChainModel$Text" (129 : Nat) "TrustChainModel$Text" "nameAt" "I") ∈ tb := tb_in (tm_7 (List.mem_of_getElem? (i := 99) rfl)) rfl
theorem q7_100 : (Cond.fieldLink "TrustChainModel$Text" (132 : Nat) "TrustChainModel$Text" "nameEnd" "I") ∈ tb := tb_in (tm_7 (List.mem_of_getElem? (i := 100) rfl)) rfl
theorem q7_101 : (Cond.fieldLink "TrustChainModel" (229 : Nat) "TrustChainModel$Text" "ca" "Z") ∈ tb := tb_in (tm_7 (List.mem_of_getElem? (i := 101) rfl)) rfl
theorem q7_102 : (Cond.fieldLink "TrustChainModel$Text" (216 : Nat) "TrustChainModel$Text" "ca" "Z") ∈ tb := tb_in (tm_7 (List.mem_of_getElem? (i := 102) rfl)) rfl
theorem q7_103 : (Cond.fieldLink "TrustChainModel$Text" (213 : Nat) "TrustChainModel$Text" "basic" "Z") ∈ tb := tb_in (tm_7 (List.mem_of_getElem? (i := 103) rfl)) rfl
theorem q7_104 : (Cond.fieldLink "TrustChainModel" (201 : Nat) "TrustChainModel$Text" "trusted" "Z") ∈ tb := tb_in (tm_7 (List.mem_of_getElem? (i := 104) rfl)) rfl
theorem q7_105 : (Cond.fieldLink "TrustChainModel$Text" (15 : Nat) "TrustChainModel$Text" "dnsAt" "[I") ∈ tb := tb_in (tm_7 (List.mem_of_getElem? (i := 105) rfl)) rfl
theorem q7_106 : (Cond.fieldLink "TrustChainModel" (403 : Nat) "TrustChainModel$Text" "dnsAt" "[I") ∈ tb := tb_in (tm_7 (List.mem_of_getElem? (i := 106) rfl)) rfl
theorem q7_107 : (Cond.fieldLink "TrustChainModel$Text" (18 : Nat) "TrustChainModel$Text" "dnsEnd" "[I") ∈ tb := tb_in (tm_7 (List.mem_of_getElem? (i := 107) rfl)) rfl
theorem q7_108 : (Cond.fieldLink "TrustChainModel" (406 : Nat) "TrustChainModel$Text" "dnsEnd" "[I") ∈ tb := tb_in (tm_7 (List.mem_of_getElem? (i := 108) rfl)) rfl
theorem q7_109 : (Cond.fieldLink "TrustChainModel$Text" (21 : Nat) "TrustChainModel$Text" "dirAt" "[I") ∈ tb := tb_in (tm_7 (List.mem_of_getElem? (i := 109) rfl)) rfl
theorem q7_110 : (Cond.fieldLink "TrustChainModel" (397 : Nat) "TrustChainModel$Text" "dirAt" "[I") ∈ tb := tb_in (tm_7 (List.mem_of_getElem? (i := 110) rfl)) rfl
theorem q7_111 : (Cond.fieldLink "TrustChainModel$Text" (24 : Nat) "TrustChainModel$Text" "dirEnd" "[I") ∈ tb := tb_in (tm_7 (List.mem_of_getElem? (i := 111) rfl)) rfl
theorem q7_112 : (Cond.fieldLink "TrustChainModel" (400 : Nat) "TrustChainModel$Text" "dirEnd" "[I") ∈ tb := tb_in (tm_7 (List.mem_of_getElem? (i := 112) rfl)) rfl
theorem q7_113 : (Cond.fieldLink "TrustChainModel$Text" (27 : Nat) "TrustChainModel$Text" "treeAt" "[I") ∈ tb := tb_in (tm_7 (List.mem_of_getElem? (i := 113) rfl)) rfl
theorem q7_114 : (Cond.fieldLink "TrustChainModel" (415 : Nat) "TrustChainModel$Text" "treeAt" "[I") ∈ tb := tb_in (tm_7 (List.mem_of_getElem? (i := 114) rfl)) rfl
theorem q7_115 : (Cond.fieldLink "TrustChainModel$Text" (30 : Nat) "TrustChainModel$Text" "treeEnd" "[I") ∈ tb := tb_in (tm_7 (List.mem_of_getElem? (i := 115) rfl)) rfl
theorem q7_116 : (Cond.fieldLink "TrustChainModel" (418 : Nat) "TrustChainModel$Text" "treeEnd" "[I") ∈ tb := tb_in (tm_7 (List.mem_of_getElem? (i := 116) rfl)) rfl
theorem q7_117 : (Cond.fieldLink "TrustChainModel$Text" (33 : Nat) "TrustChainModel$Text" "treeKind" "[I") ∈ tb := tb_in (tm_7 (List.mem_of_getElem? (i := 117) rfl)) rfl
theorem q7_118 : (Cond.fieldLink "TrustChainModel" (412 : Nat) "TrustChainModel$Text" "treeKind" "[I") ∈ tb := tb_in (tm_7 (List.mem_of_getElem? (i := 118) rfl)) rfl
theorem q7_119 : (Cond.fieldLink "TrustChainModel$Text" (36 : Nat) "TrustChainModel$Text" "entryAt" "[I") ∈ tb := tb_in (tm_7 (List.mem_of_getElem? (i := 119) rfl)) rfl
theorem q7_120 : (Cond.fieldLink "TrustChainModel" (378 : Nat) "TrustChainModel$Text" "entryAt" "[I") ∈ tb := tb_in (tm_7 (List.mem_of_getElem? (i := 120) rfl)) rfl
theorem q7_121 : (Cond.fieldLink "TrustChainModel$Text" (39 : Nat) "TrustChainModel$Text" "entryEnd" "[I") ∈ tb := tb_in (tm_7 (List.mem_of_getElem? (i := 121) rfl)) rfl
theorem q7_122 : (Cond.fieldLink "TrustChainModel" (381 : Nat) "TrustChainModel$Text" "entryEnd" "[I") ∈ tb := tb_in (tm_7 (List.mem_of_getElem? (i := 122) rfl)) rfl
theorem q7_123 : (Cond.fieldLink "TrustChainModel$Text" (42 : Nat) "TrustChainModel$Text" "oidAt" "[I") ∈ tb := tb_in (tm_7 (List.mem_of_getElem? (i := 123) rfl)) rfl
theorem q7_124 : (Cond.fieldLink "TrustChainModel$Text" (45 : Nat) "TrustChainModel$Text" "oidEnd" "[I") ∈ tb := tb_in (tm_7 (List.mem_of_getElem? (i := 124) rfl)) rfl
theorem q7_125 : (Cond.laysFinal "TrustChainModel$Text" "TrustChainModel$Text" "d" "[I") ∈ tb := tb_in (tm_7 (List.mem_of_getElem? (i := 125) rfl)) rfl
theorem q7_126 : (Cond.soleField "TrustChainModel$Text" "d") ∈ tb := tb_in (tm_7 (List.mem_of_getElem? (i := 126) rfl)) rfl
theorem q7_127 : (Cond.lays "TrustChainModel$Text" "TrustChainModel$Text" "n" "I") ∈ tb := tb_in (tm_7 (List.mem_of_getElem? (i := 127) rfl)) rfl
theorem q7_128 : (Cond.soleField "TrustChainModel$Text" "n") ∈ tb := tb_in (tm_7 (List.mem_of_getElem? (i := 128) rfl)) rfl
theorem q7_129 : (Cond.lays "TrustChainModel$Text" "TrustChainModel$Text" "p" "I") ∈ tb := tb_in (tm_7 (List.mem_of_getElem? (i := 129) rfl)) rfl
theorem q7_130 : (Cond.soleField "TrustChainModel$Text" "p") ∈ tb := tb_in (tm_7 (List.mem_of_getElem? (i := 130) rfl)) rfl
theorem q7_131 : (Cond.lays "TrustChainModel$Text" "TrustChainModel$Text" "wrong" "I") ∈ tb := tb_in (tm_7 (List.mem_of_getElem? (i := 131) rfl)) rfl
theorem q7_132 : (Cond.soleField "TrustChainModel$Text" "wrong") ∈ tb := tb_in (tm_7 (List.mem_of_getElem? (i := 132) rfl)) rfl
theorem q7_133 : (Cond.lays "TrustChainModel$Text" "TrustChainModel$Text" "from" "I") ∈ tb := tb_in (tm_7 (List.mem_of_getElem? (i := 133) rfl)) rfl
theorem q7_134 : (Cond.soleField "TrustChainModel$Text" "from") ∈ tb := tb_in (tm_7 (List.mem_of_getElem? (i := 134) rfl)) rfl
theorem q7_135 : (Cond.lays "TrustChainModel$Text" "TrustChainModel$Text" "to" "I") ∈ tb := tb_in (tm_7 (List.mem_of_getElem? (i := 135) rfl)) rfl
theorem q7_136 : (Cond.soleField "TrustChainModel$Text" "to") ∈ tb := tb_in (tm_7 (List.mem_of_getElem? (i := 136) rfl)) rfl
theorem q7_137 : (Cond.lays "TrustChainModel$Text" "TrustChainModel$Text" "place" "I") ∈ tb := tb_in (tm_7 (List.mem_of_getElem? (i := 137) rfl)) rfl
theorem q7_138 : (Cond.soleField "TrustChainModel$Text" "place") ∈ tb := tb_in (tm_7 (List.mem_of_getElem? (i := 138) rfl)) rfl
theorem q7_139 : (Cond.lays "TrustChainModel$Text" "TrustChainModel$Text" "time0" "J") ∈ tb := tb_in (tm_7 (List.mem_of_getElem? (i := 139) rfl)) rfl
theorem q7_140 : (Cond.soleField "TrustChainModel$Text" "time0") ∈ tb := tb_in (tm_7 (List.mem_of_getElem? (i := 140) rfl)) rfl
theorem q7_141 : (Cond.lays "TrustChainModel$Text" "TrustChainModel$Text" "time1" "J") ∈ tb := tb_in (tm_7 (List.mem_of_getElem? (i := 141) rfl)) rfl
theorem q7_142 : (Cond.soleField "TrustChainModel$Text" "time1") ∈ tb := tb_in (tm_7 (List.mem_of_getElem? (i := 142) rfl)) rfl
theorem q7_143 : (Cond.lays "TrustChainModel$Text" "TrustChainModel$Text" "latest" "J") ∈ tb := tb_in (tm_7 (List.mem_of_getElem? (i := 143) rfl)) rfl
theorem q7_144 : (Cond.soleField "TrustChainModel$Text" "latest") ∈ tb := tb_in (tm_7 (List.mem_of_getElem? (i := 144) rfl)) rfl
theorem q7_145 : (Cond.lays "TrustChainModel$Text" "TrustChainModel$Text" "serial" "I") ∈ tb := tb_in (tm_7 (List.mem_of_getElem? (i := 145) rfl)) rfl
theorem q7_146 : (Cond.soleField "TrustChainModel$Text" "serial") ∈ tb := tb_in (tm_7 (List.mem_of_getElem? (i := 146) rfl)) rfl
theorem q7_147 : (Cond.lays "TrustChainModel$Text" "TrustChainModel$Text" "serialEnd" "I") ∈ tb := tb_in (tm_7 (List.mem_of_getElem? (i := 147) rfl)) rfl
theorem q7_148 : (Cond.soleField "TrustChainModel$Text" "serialEnd") ∈ tb := tb_in (tm_7 (List.mem_of_getElem? (i := 148) rfl)) rfl
theorem q7_149 : (Cond.lays "TrustChainModel$Text" "TrustChainModel$Text" "issuer" "I") ∈ tb := tb_in (tm_7 (List.mem_of_getElem? (i := 149) rfl)) rfl
theorem q7_150 : (Cond.soleField "TrustChainModel$Text" "issuer") ∈ tb := tb_in (tm_7 (List.mem_of_getElem? (i := 150) rfl)) rfl
theorem q7_151 : (Cond.lays "TrustChainModel$Text" "TrustChainModel$Text" "issuerEnd" "I") ∈ tb := tb_in (tm_7 (List.mem_of_getElem? (i := 151) rfl)) rfl
theorem q7_152 : (Cond.soleField "TrustChainModel$Text" "issuerEnd") ∈ tb := tb_in (tm_7 (List.mem_of_getElem? (i := 152) rfl)) rfl
theorem q7_153 : (Cond.lays "TrustChainModel$Text" "TrustChainModel$Text" "subject" "I") ∈ tb := tb_in (tm_7 (List.mem_of_getElem? (i := 153) rfl)) rfl
theorem q7_154 : (Cond.soleField "TrustChainModel$Text" "subject") ∈ tb := tb_in (tm_7 (List.mem_of_getElem? (i := 154) rfl)) rfl
theorem q7_155 : (Cond.lays "TrustChainModel$Text" "TrustChainModel$Text" "subjectEnd" "I") ∈ tb := tb_in (tm_7 (List.mem_of_getElem? (i := 155) rfl)) rfl
theorem q7_156 : (Cond.soleField "TrustChainModel$Text" "subjectEnd") ∈ tb := tb_in (tm_7 (List.mem_of_getElem? (i := 156) rfl)) rfl
theorem q7_157 : (Cond.lays "TrustChainModel$Text" "TrustChainModel$Text" "subjectParts" "I") ∈ tb := tb_in (tm_7 (List.mem_of_getElem? (i := 157) rfl)) rfl
theorem q7_158 : (Cond.soleField "TrustChainModel$Text" "subjectParts") ∈ tb := tb_in (tm_7 (List.mem_of_getElem? (i := 158) rfl)) rfl
theorem q7_159 : (Cond.lays "TrustChainModel$Text" "TrustChainModel$Text" "parts" "I") ∈ tb := tb_in (tm_7 (List.mem_of_getElem? (i := 159) rfl)) rfl
theorem q7_160 : (Cond.soleField "TrustChainModel$Text" "parts") ∈ tb := tb_in (tm_7 (List.mem_of_getElem? (i := 160) rfl)) rfl
theorem q7_161 : (Cond.lays "TrustChainModel$Text" "TrustChainModel$Text" "modulus" "I") ∈ tb := tb_in (tm_7 (List.mem_of_getElem? (i := 161) rfl)) rfl
theorem q7_162 : (Cond.soleField "TrustChainModel$Text" "modulus") ∈ tb := tb_in (tm_7 (List.mem_of_getElem? (i := 162) rfl)) rfl
theorem q7_163 : (Cond.lays "TrustChainModel$Text" "TrustChainModel$Text" "modulusEnd" "I") ∈ tb := tb_in (tm_7 (List.mem_of_getElem? (i := 163) rfl)) rfl
theorem q7_164 : (Cond.soleField "TrustChainModel$Text" "modulusEnd") ∈ tb := tb_in (tm_7 (List.mem_of_getElem? (i := 164) rfl)) rfl
theorem q7_165 : (Cond.lays "TrustChainModel$Text" "TrustChainModel$Text" "exponent" "I") ∈ tb := tb_in (tm_7 (List.mem_of_getElem? (i := 165) rfl)) rfl
theorem q7_166 : (Cond.soleField "TrustChainModel$Text" "exponent") ∈ tb := tb_in (tm_7 (List.mem_of_getElem? (i := 166) rfl)) rfl
theorem q7_167 : (Cond.lays "TrustChainModel$Text" "TrustChainModel$Text" "tbs" "I") ∈ tb := tb_in (tm_7 (List.mem_of_getElem? (i := 167) rfl)) rfl
theorem q7_168 : (Cond.soleField "TrustChainModel$Text" "tbs") ∈ tb := tb_in (tm_7 (List.mem_of_getElem? (i := 168) rfl)) rfl
theorem q7_169 : (Cond.lays "TrustChainModel$Text" "TrustChainModel$Text" "tbsEnd" "I") ∈ tb := tb_in (tm_7 (List.mem_of_getElem? (i := 169) rfl)) rfl
theorem q7_170 : (Cond.soleField "TrustChainModel$Text" "tbsEnd") ∈ tb := tb_in (tm_7 (List.mem_of_getElem? (i := 170) rfl)) rfl
theorem q7_171 : (Cond.lays "TrustChainModel$Text" "TrustChainModel$Text" "signature" "I") ∈ tb := tb_in (tm_7 (List.mem_of_getElem? (i := 171) rfl)) rfl
theorem q7_172 : (Cond.soleField "TrustChainModel$Text" "signature") ∈ tb := tb_in (tm_7 (List.mem_of_getElem? (i := 172) rfl)) rfl
theorem q7_173 : (Cond.lays "TrustChainModel$Text" "TrustChainModel$Text" "signatureEnd" "I") ∈ tb := tb_in (tm_7 (List.mem_of_getElem? (i := 173) rfl)) rfl
theorem q7_174 : (Cond.soleField "TrustChainModel$Text" "signatureEnd") ∈ tb := tb_in (tm_7 (List.mem_of_getElem? (i := 174) rfl)) rfl
theorem q7_175 : (Cond.lays "TrustChainModel$Text" "TrustChainModel$Text" "length" "I") ∈ tb := tb_in (tm_7 (List.mem_of_getElem? (i := 175) rfl)) rfl
theorem q7_176 : (Cond.soleField "TrustChainModel$Text" "length") ∈ tb := tb_in (tm_7 (List.mem_of_getElem? (i := 176) rfl)) rfl
theorem q7_177 : (Cond.lays "TrustChainModel$Text" "TrustChainModel$Text" "usage" "I") ∈ tb := tb_in (tm_7 (List.mem_of_getElem? (i := 177) rfl)) rfl
theorem q7_178 : (Cond.soleField "TrustChainModel$Text" "usage") ∈ tb := tb_in (tm_7 (List.mem_of_getElem? (i := 178) rfl)) rfl
theorem q7_179 : (Cond.lays "TrustChainModel$Text" "TrustChainModel$Text" "dns" "I") ∈ tb := tb_in (tm_7 (List.mem_of_getElem? (i := 179) rfl)) rfl
theorem q7_180 : (Cond.soleField "TrustChainModel$Text" "dns") ∈ tb := tb_in (tm_7 (List.mem_of_getElem? (i := 180) rfl)) rfl
theorem q7_181 : (Cond.lays "TrustChainModel$Text" "TrustChainModel$Text" "dirs" "I") ∈ tb := tb_in (tm_7 (List.mem_of_getElem? (i := 181) rfl)) rfl
theorem q7_182 : (Cond.soleField "TrustChainModel$Text" "dirs") ∈ tb := tb_in (tm_7 (List.mem_of_getElem? (i := 182) rfl)) rfl
theorem q7_183 : (Cond.lays "TrustChainModel$Text" "TrustChainModel$Text" "extensions" "I") ∈ tb := tb_in (tm_7 (List.mem_of_getElem? (i := 183) rfl)) rfl
theorem q7_184 : (Cond.soleField "TrustChainModel$Text" "extensions") ∈ tb := tb_in (tm_7 (List.mem_of_getElem? (i := 184) rfl)) rfl
theorem q7_185 : (Cond.lays "TrustChainModel$Text" "TrustChainModel$Text" "matters" "I") ∈ tb := tb_in (tm_7 (List.mem_of_getElem? (i := 185) rfl)) rfl
theorem q7_186 : (Cond.soleField "TrustChainModel$Text" "matters") ∈ tb := tb_in (tm_7 (List.mem_of_getElem? (i := 186) rfl)) rfl
theorem q7_187 : (Cond.lays "TrustChainModel$Text" "TrustChainModel$Text" "ownKey" "I") ∈ tb := tb_in (tm_7 (List.mem_of_getElem? (i := 187) rfl)) rfl
theorem q7_188 : (Cond.soleField "TrustChainModel$Text" "ownKey") ∈ tb := tb_in (tm_7 (List.mem_of_getElem? (i := 188) rfl)) rfl
theorem q7_189 : (Cond.lays "TrustChainModel$Text" "TrustChainModel$Text" "ownKeyEnd" "I") ∈ tb := tb_in (tm_7 (List.mem_of_getElem? (i := 189) rfl)) rfl
theorem q7_190 : (Cond.soleField "TrustChainModel$Text" "ownKeyEnd") ∈ tb := tb_in (tm_7 (List.mem_of_getElem? (i := 190) rfl)) rfl
theorem q7_191 : (Cond.lays "TrustChainModel$Text" "TrustChainModel$Text" "issuerKey" "I") ∈ tb := tb_in (tm_7 (List.mem_of_getElem? (i := 191) rfl)) rfl
theorem q7_192 : (Cond.soleField "TrustChainModel$Text" "issuerKey") ∈ tb := tb_in (tm_7 (List.mem_of_getElem? (i := 192) rfl)) rfl
theorem q7_193 : (Cond.lays "TrustChainModel$Text" "TrustChainModel$Text" "issuerKeyEnd" "I") ∈ tb := tb_in (tm_7 (List.mem_of_getElem? (i := 193) rfl)) rfl
theorem q7_194 : (Cond.soleField "TrustChainModel$Text" "issuerKeyEnd") ∈ tb := tb_in (tm_7 (List.mem_of_getElem? (i := 194) rfl)) rfl
theorem q7_195 : (Cond.lays "TrustChainModel$Text" "TrustChainModel$Text" "trees" "I") ∈ tb := tb_in (tm_7 (List.mem_of_getElem? (i := 195) rfl)) rfl
theorem q7_196 : (Cond.soleField "TrustChainModel$Text" "trees") ∈ tb := tb_in (tm_7 (List.mem_of_getElem? (i := 196) rfl)) rfl
theorem q7_197 : (Cond.lays "TrustChainModel$Text" "TrustChainModel$Text" "entries" "I") ∈ tb := tb_in (tm_7 (List.mem_of_getElem? (i := 197) rfl)) rfl
theorem q7_198 : (Cond.soleField "TrustChainModel$Text" "entries") ∈ tb := tb_in (tm_7 (List.mem_of_getElem? (i := 198) rfl)) rfl
theorem q7_199 : (Cond.lays "TrustChainModel$Text" "TrustChainModel$Text" "oids" "I") ∈ tb := tb_in (tm_7 (List.mem_of_getElem? (i := 199) rfl)) rfl
theorem q7_200 : (Cond.soleField "TrustChainModel$Text" "oids") ∈ tb := tb_in (tm_7 (List.mem_of_getElem? (i := 200) rfl)) rfl
theorem q7_201 : (Cond.lays "TrustChainModel$Text" "TrustChainModel$Text" "nameAt" "I") ∈ tb := tb_in (tm_7 (List.mem_of_getElem? (i := 201) rfl)) rfl
theorem q7_202 : (Cond.soleField "TrustChainModel$Text" "nameAt") ∈ tb := tb_in (tm_7 (List.mem_of_getElem? (i := 202) rfl)) rfl
theorem q7_203 : (Cond.lays "TrustChainModel$Text" "TrustChainModel$Text" "nameEnd" "I") ∈ tb := tb_in (tm_7 (List.mem_of_getElem? (i := 203) rfl)) rfl
theorem q7_204 : (Cond.soleField "TrustChainModel$Text" "nameEnd") ∈ tb := tb_in (tm_7 (List.mem_of_getElem? (i := 204) rfl)) rfl
theorem q7_205 : (Cond.lays "TrustChainModel$Text" "TrustChainModel$Text" "ca" "Z") ∈ tb := tb_in (tm_7 (List.mem_of_getElem? (i := 205) rfl)) rfl
theorem q7_206 : (Cond.soleField "TrustChainModel$Text" "ca") ∈ tb := tb_in (tm_7 (List.mem_of_getElem? (i := 206) rfl)) rfl
theorem q7_207 : (Cond.lays "TrustChainModel$Text" "TrustChainModel$Text" "basic" "Z") ∈ tb := tb_in (tm_7 (List.mem_of_getElem? (i := 207) rfl)) rfl
theorem q7_208 : (Cond.soleField "TrustChainModel$Text" "basic") ∈ tb := tb_in (tm_7 (List.mem_of_getElem? (i := 208) rfl)) rfl
theorem q7_209 : (Cond.lays "TrustChainModel$Text" "TrustChainModel$Text" "trusted" "Z") ∈ tb := tb_in (tm_7 (List.mem_of_getElem? (i := 209) rfl)) rfl
theorem q7_210 : (Cond.soleField "TrustChainModel$Text" "trusted") ∈ tb := tb_in (tm_7 (List.mem_of_getElem? (i := 210) rfl)) rfl
theorem q7_211 : (Cond.laysFinal "TrustChainModel$Text" "TrustChainModel$Text" "dnsAt" "[I") ∈ tb := tb_in (tm_7 (List.mem_of_getElem? (i := 211) rfl)) rfl
theorem q7_212 : (Cond.soleField "TrustChainModel$Text" "dnsAt") ∈ tb := tb_in (tm_7 (List.mem_of_getElem? (i := 212) rfl)) rfl
theorem q7_213 : (Cond.laysFinal "TrustChainModel$Text" "TrustChainModel$Text" "dnsEnd" "[I") ∈ tb := tb_in (tm_7 (List.mem_of_getElem? (i := 213) rfl)) rfl
theorem q7_214 : (Cond.soleField "TrustChainModel$Text" "dnsEnd") ∈ tb := tb_in (tm_7 (List.mem_of_getElem? (i := 214) rfl)) rfl
theorem q7_215 : (Cond.laysFinal "TrustChainModel$Text" "TrustChainModel$Text" "dirAt" "[I") ∈ tb := tb_in (tm_7 (List.mem_of_getElem? (i := 215) rfl)) rfl
theorem q7_216 : (Cond.soleField "TrustChainModel$Text" "dirAt") ∈ tb := tb_in (tm_7 (List.mem_of_getElem? (i := 216) rfl)) rfl
theorem q7_217 : (Cond.laysFinal "TrustChainModel$Text" "TrustChainModel$Text" "dirEnd" "[I") ∈ tb := tb_in (tm_7 (List.mem_of_getElem? (i := 217) rfl)) rfl
theorem q7_218 : (Cond.soleField "TrustChainModel$Text" "dirEnd") ∈ tb := tb_in (tm_7 (List.mem_of_getElem? (i := 218) rfl)) rfl
theorem q7_219 : (Cond.laysFinal "TrustChainModel$Text" "TrustChainModel$Text" "treeAt" "[I") ∈ tb := tb_in (tm_7 (List.mem_of_getElem? (i := 219) rfl)) rfl
theorem q7_220 : (Cond.soleField "TrustChainModel$Text" "treeAt") ∈ tb := tb_in (tm_7 (List.mem_of_getElem? (i := 220) rfl)) rfl
theorem q7_221 : (Cond.laysFinal "TrustChainModel$Text" "TrustChainModel$Text" "treeEnd" "[I") ∈ tb := tb_in (tm_7 (List.mem_of_getElem? (i := 221) rfl)) rfl
theorem q7_222 : (Cond.soleField "TrustChainModel$Text" "treeEnd") ∈ tb := tb_in (tm_7 (List.mem_of_getElem? (i := 222) rfl)) rfl
theorem q7_223 : (Cond.laysFinal "TrustChainModel$Text" "TrustChainModel$Text" "treeKind" "[I") ∈ tb := tb_in (tm_7 (List.mem_of_getElem? (i := 223) rfl)) rfl
theorem q7_224 : (Cond.soleField "TrustChainModel$Text" "treeKind") ∈ tb := tb_in (tm_7 (List.mem_of_getElem? (i := 224) rfl)) rfl
theorem q7_225 : (Cond.laysFinal "TrustChainModel$Text" "TrustChainModel$Text" "entryAt" "[I") ∈ tb := tb_in (tm_7 (List.mem_of_getElem? (i := 225) rfl)) rfl
theorem q7_226 : (Cond.soleField "TrustChainModel$Text" "entryAt") ∈ tb := tb_in (tm_7 (List.mem_of_getElem? (i := 226) rfl)) rfl
theorem q7_227 : (Cond.laysFinal "TrustChainModel$Text" "TrustChainModel$Text" "entryEnd" "[I") ∈ tb := tb_in (tm_7 (List.mem_of_getElem? (i := 227) rfl)) rfl
theorem q7_228 : (Cond.soleField "TrustChainModel$Text" "entryEnd") ∈ tb := tb_in (tm_7 (List.mem_of_getElem? (i := 228) rfl)) rfl
theorem q7_229 : (Cond.laysFinal "TrustChainModel$Text" "TrustChainModel$Text" "oidAt" "[I") ∈ tb := tb_in (tm_7 (List.mem_of_getElem? (i := 229) rfl)) rfl
theorem q7_230 : (Cond.soleField "TrustChainModel$Text" "oidAt") ∈ tb := tb_in (tm_7 (List.mem_of_getElem? (i := 230) rfl)) rfl
theorem q7_231 : (Cond.laysFinal "TrustChainModel$Text" "TrustChainModel$Text" "oidEnd" "[I") ∈ tb := tb_in (tm_7 (List.mem_of_getElem? (i := 231) rfl)) rfl
theorem q7_232 : (Cond.soleField "TrustChainModel$Text" "oidEnd") ∈ tb := tb_in (tm_7 (List.mem_of_getElem? (i := 232) rfl)) rfl
theorem q7_233 : (Cond.superclass "TrustChainModel$Text" "java/lang/Object") ∈ tb := tb_in (tm_7 (List.mem_of_getElem? (i := 233) rfl)) rfl
theorem q7_234 : (Cond.constant "TrustChainModel" (43 : Nat) (1779033703 : Int32)) ∈ tb := tb_in (tm_7 (List.mem_of_getElem? (i := 234) rfl)) rfl
theorem q7_235 : (Cond.constant "TrustChainModel" (44 : Nat) (-1150833019 : Int32)) ∈ tb := tb_in (tm_7 (List.mem_of_getElem? (i := 235) rfl)) rfl
theorem q7_236 : (Cond.constant "TrustChainModel" (45 : Nat) (1013904242 : Int32)) ∈ tb := tb_in (tm_7 (List.mem_of_getElem? (i := 236) rfl)) rfl
theorem q7_237 : (Cond.constant "TrustChainModel" (46 : Nat) (-1521486534 : Int32)) ∈ tb := tb_in (tm_7 (List.mem_of_getElem? (i := 237) rfl)) rfl
theorem q7_238 : (Cond.constant "TrustChainModel" (47 : Nat) (1359893119 : Int32)) ∈ tb := tb_in (tm_7 (List.mem_of_getElem? (i := 238) rfl)) rfl
theorem q7_239 : (Cond.constant "TrustChainModel" (48 : Nat) (-1694144372 : Int32)) ∈ tb := tb_in (tm_7 (List.mem_of_getElem? (i := 239) rfl)) rfl
theorem q8_0 : (Cond.constant "TrustChainModel" (49 : Nat) (528734635 : Int32)) ∈ tb := tb_in (tm_8 (List.mem_of_getElem? (i := 0) rfl)) rfl
theorem q8_1 : (Cond.constant "TrustChainModel" (50 : Nat) (1541459225 : Int32)) ∈ tb := tb_in (tm_8 (List.mem_of_getElem? (i := 1) rfl)) rfl
theorem q8_2 : (Cond.constant "TrustChainModel" (54 : Nat) (1116352408 : Int32)) ∈ tb := tb_in (tm_8 (List.mem_of_getElem? (i := 2) rfl)) rfl
theorem q8_3 : (Cond.constant "TrustChainModel" (55 : Nat) (1899447441 : Int32)) ∈ tb := tb_in (tm_8 (List.mem_of_getElem? (i := 3) rfl)) rfl
theorem q8_4 : (Cond.constant "TrustChainModel" (56 : Nat) (-1245643825 : Int32)) ∈ tb := tb_in (tm_8 (List.mem_of_getElem? (i := 4) rfl)) rfl
theorem q8_5 : (Cond.constant "TrustChainModel" (57 : Nat) (-373957723 : Int32)) ∈ tb := tb_in (tm_8 (List.mem_of_getElem? (i := 5) rfl)) rfl
theorem q8_6 : (Cond.constant "TrustChainModel" (58 : Nat) (961987163 : Int32)) ∈ tb := tb_in (tm_8 (List.mem_of_getElem? (i := 6) rfl)) rfl
theorem q8_7 : (Cond.constant "TrustChainModel" (59 : Nat) (1508970993 : Int32)) ∈ tb := tb_in (tm_8 (List.mem_of_getElem? (i := 7) rfl)) rfl
theorem q8_8 : (Cond.constant "TrustChainModel" (60 : Nat) (-1841331548 : Int32)) ∈ tb := tb_in (tm_8 (List.mem_of_getElem? (i := 8) rfl)) rfl
theorem q8_9 : (Cond.constant "TrustChainModel" (61 : Nat) (-1424204075 : Int32)) ∈ tb := tb_in (tm_8 (List.mem_of_getElem? (i := 9) rfl)) rfl
theorem q8_10 : (Cond.constant "TrustChainModel" (62 : Nat) (-670586216 : Int32)) ∈ tb := tb_in (tm_8 (List.mem_of_getElem? (i := 10) rfl)) rfl
theorem q8_11 : (Cond.constant "TrustChainModel" (63 : Nat) (310598401 : Int32)) ∈ tb := tb_in (tm_8 (List.mem_of_getElem? (i := 11) rfl)) rfl
theorem q8_12 : (Cond.constant "TrustChainModel" (64 : Nat) (607225278 : Int32)) ∈ tb := tb_in (tm_8 (List.mem_of_getElem? (i := 12) rfl)) rfl
theorem q8_13 : (Cond.constant "TrustChainModel" (65 : Nat) (1426881987 : Int32)) ∈ tb := tb_in (tm_8 (List.mem_of_getElem? (i := 13) rfl)) rfl
theorem q8_14 : (Cond.constant "TrustChainModel" (66 : Nat) (1925078388 : Int32)) ∈ tb := tb_in (tm_8 (List.mem_of_getElem? (i := 14) rfl)) rfl
theorem q8_15 : (Cond.constant "TrustChainModel" (67 : Nat) (-2132889090 : Int32)) ∈ tb := tb_in (tm_8 (List.mem_of_getElem? (i := 15) rfl)) rfl
theorem q8_16 : (Cond.constant "TrustChainModel" (68 : Nat) (-1680079193 : Int32)) ∈ tb := tb_in (tm_8 (List.mem_of_getElem? (i := 16) rfl)) rfl
theorem q8_17 : (Cond.constant "TrustChainModel" (69 : Nat) (-1046744716 : Int32)) ∈ tb := tb_in (tm_8 (List.mem_of_getElem? (i := 17) rfl)) rfl
theorem q8_18 : (Cond.constant "TrustChainModel" (70 : Nat) (-459576895 : Int32)) ∈ tb := tb_in (tm_8 (List.mem_of_getElem? (i := 18) rfl)) rfl
theorem q8_19 : (Cond.constant "TrustChainModel" (71 : Nat) (-272742522 : Int32)) ∈ tb := tb_in (tm_8 (List.mem_of_getElem? (i := 19) rfl)) rfl
theorem q8_20 : (Cond.constant "TrustChainModel" (72 : Nat) (264347078 : Int32)) ∈ tb := tb_in (tm_8 (List.mem_of_getElem? (i := 20) rfl)) rfl
theorem q8_21 : (Cond.constant "TrustChainModel" (73 : Nat) (604807628 : Int32)) ∈ tb := tb_in (tm_8 (List.mem_of_getElem? (i := 21) rfl)) rfl
theorem q8_22 : (Cond.constant "TrustChainModel" (74 : Nat) (770255983 : Int32)) ∈ tb := tb_in (tm_8 (List.mem_of_getElem? (i := 22) rfl)) rfl
theorem q8_23 : (Cond.constant "TrustChainModel" (75 : Nat) (1249150122 : Int32)) ∈ tb := tb_in (tm_8 (List.mem_of_getElem? (i := 23) rfl)) rfl
theorem q8_24 : (Cond.constant "TrustChainModel" (76 : Nat) (1555081692 : Int32)) ∈ tb := tb_in (tm_8 (List.mem_of_getElem? (i := 24) rfl)) rfl
theorem q8_25 : (Cond.constant "TrustChainModel" (77 : Nat) (1996064986 : Int32)) ∈ tb := tb_in (tm_8 (List.mem_of_getElem? (i := 25) rfl)) rfl
theorem q8_26 : (Cond.constant "TrustChainModel" (78 : Nat) (-1740746414 : Int32)) ∈ tb := tb_in (tm_8 (List.mem_of_getElem? (i := 26) rfl)) rfl
theorem q8_27 : (Cond.constant "TrustChainModel" (79 : Nat) (-1473132947 : Int32)) ∈ tb := tb_in (tm_8 (List.mem_of_getElem? (i := 27) rfl)) rfl
theorem q8_28 : (Cond.constant "TrustChainModel" (80 : Nat) (-1341970488 : Int32)) ∈ tb := tb_in (tm_8 (List.mem_of_getElem? (i := 28) rfl)) rfl
theorem q8_29 : (Cond.constant "TrustChainModel" (81 : Nat) (-1084653625 : Int32)) ∈ tb := tb_in (tm_8 (List.mem_of_getElem? (i := 29) rfl)) rfl
theorem q8_30 : (Cond.constant "TrustChainModel" (82 : Nat) (-958395405 : Int32)) ∈ tb := tb_in (tm_8 (List.mem_of_getElem? (i := 30) rfl)) rfl
theorem q8_31 : (Cond.constant "TrustChainModel" (83 : Nat) (-710438585 : Int32)) ∈ tb := tb_in (tm_8 (List.mem_of_getElem? (i := 31) rfl)) rfl
theorem q8_32 : (Cond.constant "TrustChainModel" (84 : Nat) (113926993 : Int32)) ∈ tb := tb_in (tm_8 (List.mem_of_getElem? (i := 32) rfl)) rfl
theorem q8_33 : (Cond.constant "TrustChainModel" (85 : Nat) (338241895 : Int32)) ∈ tb := tb_in (tm_8 (List.mem_of_getElem? (i := 33) rfl)) rfl
theorem q8_34 : (Cond.constant "TrustChainModel" (86 : Nat) (666307205 : Int32)) ∈ tb := tb_in (tm_8 (List.mem_of_getElem? (i := 34) rfl)) rfl
theorem q8_35 : (Cond.constant "TrustChainModel" (87 : Nat) (773529912 : Int32)) ∈ tb := tb_in (tm_8 (List.mem_of_getElem? (i := 35) rfl)) rfl
theorem q8_36 : (Cond.constant "TrustChainModel" (88 : Nat) (1294757372 : Int32)) ∈ tb := tb_in (tm_8 (List.mem_of_getElem? (i := 36) rfl)) rfl
theorem q8_37 : (Cond.constant "TrustChainModel" (89 : Nat) (1396182291 : Int32)) ∈ tb := tb_in (tm_8 (List.mem_of_getElem? (i := 37) rfl)) rfl
theorem q8_38 : (Cond.constant "TrustChainModel" (90 : Nat) (1695183700 : Int32)) ∈ tb := tb_in (tm_8 (List.mem_of_getElem? (i := 38) rfl)) rfl
theorem q8_39 : (Cond.constant "TrustChainModel" (91 : Nat) (1986661051 : Int32)) ∈ tb := tb_in (tm_8 (List.mem_of_getElem? (i := 39) rfl)) rfl
theorem q8_40 : (Cond.constant "TrustChainModel" (92 : Nat) (-2117940946 : Int32)) ∈ tb := tb_in (tm_8 (List.mem_of_getElem? (i := 40) rfl)) rfl
theorem q8_41 : (Cond.constant "TrustChainModel" (93 : Nat) (-1838011259 : Int32)) ∈ tb := tb_in (tm_8 (List.mem_of_getElem? (i := 41) rfl)) rfl
theorem q8_42 : (Cond.constant "TrustChainModel" (94 : Nat) (-1564481375 : Int32)) ∈ tb := tb_in (tm_8 (List.mem_of_getElem? (i := 42) rfl)) rfl
theorem q8_43 : (Cond.constant "TrustChainModel" (95 : Nat) (-1474664885 : Int32)) ∈ tb := tb_in (tm_8 (List.mem_of_getElem? (i := 43) rfl)) rfl
theorem q8_44 : (Cond.constant "TrustChainModel" (96 : Nat) (-1035236496 : Int32)) ∈ tb := tb_in (tm_8 (List.mem_of_getElem? (i := 44) rfl)) rfl
theorem q8_45 : (Cond.constant "TrustChainModel" (97 : Nat) (-949202525 : Int32)) ∈ tb := tb_in (tm_8 (List.mem_of_getElem? (i := 45) rfl)) rfl
theorem q8_46 : (Cond.constant "TrustChainModel" (98 : Nat) (-778901479 : Int32)) ∈ tb := tb_in (tm_8 (List.mem_of_getElem? (i := 46) rfl)) rfl
theorem q8_47 : (Cond.constant "TrustChainModel" (99 : Nat) (-694614492 : Int32)) ∈ tb := tb_in (tm_8 (List.mem_of_getElem? (i := 47) rfl)) rfl
theorem q8_48 : (Cond.constant "TrustChainModel" (100 : Nat) (-200395387 : Int32)) ∈ tb := tb_in (tm_8 (List.mem_of_getElem? (i := 48) rfl)) rfl
theorem q8_49 : (Cond.constant "TrustChainModel" (101 : Nat) (275423344 : Int32)) ∈ tb := tb_in (tm_8 (List.mem_of_getElem? (i := 49) rfl)) rfl
theorem q8_50 : (Cond.constant "TrustChainModel" (102 : Nat) (430227734 : Int32)) ∈ tb := tb_in (tm_8 (List.mem_of_getElem? (i := 50) rfl)) rfl
theorem q8_51 : (Cond.constant "TrustChainModel" (103 : Nat) (506948616 : Int32)) ∈ tb := tb_in (tm_8 (List.mem_of_getElem? (i := 51) rfl)) rfl
theorem q8_52 : (Cond.constant "TrustChainModel" (104 : Nat) (659060556 : Int32)) ∈ tb := tb_in (tm_8 (List.mem_of_getElem? (i := 52) rfl)) rfl
theorem q8_53 : (Cond.constant "TrustChainModel" (105 : Nat) (883997877 : Int32)) ∈ tb := tb_in (tm_8 (List.mem_of_getElem? (i := 53) rfl)) rfl
theorem q8_54 : (Cond.constant "TrustChainModel" (106 : Nat) (958139571 : Int32)) ∈ tb := tb_in (tm_8 (List.mem_of_getElem? (i := 54) rfl)) rfl
theorem q8_55 : (Cond.constant "TrustChainModel" (107 : Nat) (1322822218 : Int32)) ∈ tb := tb_in (tm_8 (List.mem_of_getElem? (i := 55) rfl)) rfl
theorem q8_56 : (Cond.constant "TrustChainModel" (108 : Nat) (1537002063 : Int32)) ∈ tb := tb_in (tm_8 (List.mem_of_getElem? (i := 56) rfl)) rfl
theorem q8_57 : (Cond.constant "TrustChainModel" (109 : Nat) (1747873779 : Int32)) ∈ tb := tb_in (tm_8 (List.mem_of_getElem? (i := 57) rfl)) rfl
theorem q8_58 : (Cond.constant "TrustChainModel" (110 : Nat) (1955562222 : Int32)) ∈ tb := tb_in (tm_8 (List.mem_of_getElem? (i := 58) rfl)) rfl
theorem q8_59 : (Cond.constant "TrustChainModel" (111 : Nat) (2024104815 : Int32)) ∈ tb := tb_in (tm_8 (List.mem_of_getElem? (i := 59) rfl)) rfl
theorem q8_60 : (Cond.constant "TrustChainModel" (112 : Nat) (-2067236844 : Int32)) ∈ tb := tb_in (tm_8 (List.mem_of_getElem? (i := 60) rfl)) rfl
theorem q8_61 : (Cond.constant "TrustChainModel" (113 : Nat) (-1933114872 : Int32)) ∈ tb := tb_in (tm_8 (List.mem_of_getElem? (i := 61) rfl)) rfl
theorem q8_62 : (Cond.constant "TrustChainModel" (114 : Nat) (-1866530822 : Int32)) ∈ tb := tb_in (tm_8 (List.mem_of_getElem? (i := 62) rfl)) rfl
theorem q8_63 : (Cond.constant "TrustChainModel" (115 : Nat) (-1538233109 : Int32)) ∈ tb := tb_in (tm_8 (List.mem_of_getElem? (i := 63) rfl)) rfl
theorem q8_64 : (Cond.constant "TrustChainModel" (116 : Nat) (-1090935817 : Int32)) ∈ tb := tb_in (tm_8 (List.mem_of_getElem? (i := 64) rfl)) rfl
theorem q8_65 : (Cond.constant "TrustChainModel" (117 : Nat) (-965641998 : Int32)) ∈ tb := tb_in (tm_8 (List.mem_of_getElem? (i := 65) rfl)) rfl
theorem q8_66 : (Cond.fieldLink "TrustChainModel" (145 : Nat) "TrustChainModel" "err" "I") ∈ tb := tb_in (tm_8 (List.mem_of_getElem? (i := 66) rfl)) rfl
theorem q8_67 : (Cond.fieldLink "TrustChainModel" (173 : Nat) "TrustChainModel" "fed" "I") ∈ tb := tb_in (tm_8 (List.mem_of_getElem? (i := 67) rfl)) rfl
theorem q8_68 : (Cond.fieldLink "TrustChainModel" (7 : Nat) "TrustChainModel" "wrong" "I") ∈ tb := tb_in (tm_8 (List.mem_of_getElem? (i := 68) rfl)) rfl
theorem q8_69 : (Cond.fieldLink "TrustChainModel" (183 : Nat) "TrustChainModel" "certificates" "I") ∈ tb := tb_in (tm_8 (List.mem_of_getElem? (i := 69) rfl)) rfl
theorem q8_70 : (Cond.fieldLink "TrustChainModel" (180 : Nat) "TrustChainModel" "lists" "I") ∈ tb := tb_in (tm_8 (List.mem_of_getElem? (i := 70) rfl)) rfl
theorem q8_71 : (Cond.fieldLink "TrustChainModel" (13 : Nat) "TrustChainModel" "octets" "[I") ∈ tb := tb_in (tm_8 (List.mem_of_getElem? (i := 71) rfl)) rfl
theorem q8_72 : (Cond.fieldLink "TrustChainModel" (19 : Nat) "TrustChainModel" "stored" "[LTrustChainModel$Text;") ∈ tb := tb_in (tm_8 (List.mem_of_getElem? (i := 72) rfl)) rfl
theorem q8_73 : (Cond.fieldLink "TrustChainModel" (23 : Nat) "TrustChainModel" "revoked" "[LTrustChainModel$Text;") ∈ tb := tb_in (tm_8 (List.mem_of_getElem? (i := 73) rfl)) rfl
theorem q8_74 : (Cond.fieldLink "TrustChainModel" (27 : Nat) "TrustChainModel" "spare" "LTrustChainModel$Text;") ∈ tb := tb_in (tm_8 (List.mem_of_getElem? (i := 74) rfl)) rfl
theorem q8_75 : (Cond.fieldLink "TrustChainModel" (159 : Nat) "TrustChainModel" "quotientSize" "I") ∈ tb := tb_in (tm_8 (List.mem_of_getElem? (i := 75) rfl)) rfl
theorem q8_76 : (Cond.fieldLink "TrustChainModel" (31 : Nat) "TrustChainModel" "rs" "[I") ∈ tb := tb_in (tm_8 (List.mem_of_getElem? (i := 76) rfl)) rfl
theorem q8_77 : (Cond.fieldLink "TrustChainModel" (34 : Nat) "TrustChainModel" "block" "[I") ∈ tb := tb_in (tm_8 (List.mem_of_getElem? (i := 77) rfl)) rfl
theorem q8_78 : (Cond.fieldLink "TrustChainModel" (37 : Nat) "TrustChainModel" "w" "[I") ∈ tb := tb_in (tm_8 (List.mem_of_getElem? (i := 78) rfl)) rfl
theorem q8_79 : (Cond.fieldLink "TrustChainModel" (40 : Nat) "TrustChainModel" "h" "[I") ∈ tb := tb_in (tm_8 (List.mem_of_getElem? (i := 79) rfl)) rfl
theorem q8_80 : (Cond.fieldLink "TrustChainModel" (51 : Nat) "TrustChainModel" "first" "[I") ∈ tb := tb_in (tm_8 (List.mem_of_getElem? (i := 80) rfl)) rfl
theorem q8_81 : (Cond.fieldLink "TrustChainModel" (118 : Nat) "TrustChainModel" "primes" "[I") ∈ tb := tb_in (tm_8 (List.mem_of_getElem? (i := 81) rfl)) rfl
theorem q8_82 : (Cond.fieldLink "TrustChainModel" (121 : Nat) "TrustChainModel" "x" "[I") ∈ tb := tb_in (tm_8 (List.mem_of_getElem? (i := 82) rfl)) rfl
theorem q8_83 : (Cond.fieldLink "TrustChainModel" (124 : Nat) "TrustChainModel" "y" "[I") ∈ tb := tb_in (tm_8 (List.mem_of_getElem? (i := 83) rfl)) rfl
theorem q8_84 : (Cond.fieldLink "TrustChainModel" (127 : Nat) "TrustChainModel" "m" "[I") ∈ tb := tb_in (tm_8 (List.mem_of_getElem? (i := 84) rfl)) rfl
theorem q8_85 : (Cond.fieldLink "TrustChainModel" (130 : Nat) "TrustChainModel" "q" "[I") ∈ tb := tb_in (tm_8 (List.mem_of_getElem? (i := 85) rfl)) rfl
theorem q8_86 : (Cond.fieldLink "TrustChainModel" (133 : Nat) "TrustChainModel" "z" "[I") ∈ tb := tb_in (tm_8 (List.mem_of_getElem? (i := 86) rfl)) rfl
theorem q8_87 : (Cond.fieldLink "TrustChainModel" (136 : Nat) "TrustChainModel" "way" "[I") ∈ tb := tb_in (tm_8 (List.mem_of_getElem? (i := 87) rfl)) rfl
theorem q8_88 : (Cond.fieldLink "TrustChainModel" (139 : Nat) "TrustChainModel" "found" "[I") ∈ tb := tb_in (tm_8 (List.mem_of_getElem? (i := 88) rfl)) rfl
theorem q8_89 : (Cond.fieldLink "TrustChainModel" (333 : Nat) "TrustChainModel" "size" "I") ∈ tb := tb_in (tm_8 (List.mem_of_getElem? (i := 89) rfl)) rfl
theorem q8_90 : (Cond.fieldLink "TrustChainModel" (324 : Nat) "TrustChainModel" "chainSize" "I") ∈ tb := tb_in (tm_8 (List.mem_of_getElem? (i := 90) rfl)) rfl
theorem q8_91 : (Cond.fieldLink "TrustChainModel" (321 : Nat) "TrustChainModel" "chains" "I") ∈ tb := tb_in (tm_8 (List.mem_of_getElem? (i := 91) rfl)) rfl
theorem q8_92 : (Cond.fieldLink "TrustChainModel" (142 : Nat) "TrustChainModel" "faultAt" "I") ∈ tb := tb_in (tm_8 (List.mem_of_getElem? (i := 92) rfl)) rfl
theorem q8_93 : (Cond.fieldLink "TrustChainModel" (330 : Nat) "TrustChainModel" "put" "I") ∈ tb := tb_in (tm_8 (List.mem_of_getElem? (i := 93) rfl)) rfl
theorem q8_94 : (Cond.fieldLink "TrustChainModel" (315 : Nat) "TrustChainModel" "depth" "I") ∈ tb := tb_in (tm_8 (List.mem_of_getElem? (i := 94) rfl)) rfl
theorem q8_95 : (Cond.fieldLink "TrustChainModel" (327 : Nat) "TrustChainModel" "verdict" "I") ∈ tb := tb_in (tm_8 (List.mem_of_getElem? (i := 95) rfl)) rfl
theorem q8_96 : (Cond.fieldLink "TrustChainModel" (312 : Nat) "TrustChainModel" "now" "J") ∈ tb := tb_in (tm_8 (List.mem_of_getElem? (i := 96) rfl)) rfl
theorem q8_97 : (Cond.fieldLink "TrustChainModel" (318 : Nat) "TrustChainModel" "mustKnow" "Z") ∈ tb := tb_in (tm_8 (List.mem_of_getElem? (i := 97) rfl)) rfl
theorem q8_98 : (Cond.lays "TrustChainModel" "TrustChainModel" "err" "I") ∈ tb := tb_in (tm_8 (List.mem_of_getElem? (i := 98) rfl)) rfl
theorem q8_99 : (Cond.soleField "TrustChainModel" "err") ∈ tb := tb_in (tm_8 (List.mem_of_getElem? (i := 99) rfl)) rfl
theorem q8_100 : (Cond.lays "TrustChainModel" "TrustChainModel" "fed" "I") ∈ tb := tb_in (tm_8 (List.mem_of_getElem? (i := 100) rfl)) rfl
theorem q8_101 : (Cond.soleField "TrustChainModel" "fed") ∈ tb := tb_in (tm_8 (List.mem_of_getElem? (i := 101) rfl)) rfl
theorem q8_102 : (Cond.lays "TrustChainModel" "TrustChainModel" "wrong" "I") ∈ tb := tb_in (tm_8 (List.mem_of_getElem? (i := 102) rfl)) rfl
theorem q8_103 : (Cond.soleField "TrustChainModel" "wrong") ∈ tb := tb_in (tm_8 (List.mem_of_getElem? (i := 103) rfl)) rfl
theorem q8_104 : (Cond.lays "TrustChainModel" "TrustChainModel" "certificates" "I") ∈ tb := tb_in (tm_8 (List.mem_of_getElem? (i := 104) rfl)) rfl
theorem q8_105 : (Cond.soleField "TrustChainModel" "certificates") ∈ tb := tb_in (tm_8 (List.mem_of_getElem? (i := 105) rfl)) rfl
theorem q8_106 : (Cond.lays "TrustChainModel" "TrustChainModel" "lists" "I") ∈ tb := tb_in (tm_8 (List.mem_of_getElem? (i := 106) rfl)) rfl
theorem q8_107 : (Cond.soleField "TrustChainModel" "lists") ∈ tb := tb_in (tm_8 (List.mem_of_getElem? (i := 107) rfl)) rfl
theorem q8_108 : (Cond.laysFinal "TrustChainModel" "TrustChainModel" "octets" "[I") ∈ tb := tb_in (tm_8 (List.mem_of_getElem? (i := 108) rfl)) rfl
theorem q8_109 : (Cond.soleField "TrustChainModel" "octets") ∈ tb := tb_in (tm_8 (List.mem_of_getElem? (i := 109) rfl)) rfl
theorem q8_110 : (Cond.laysFinal "TrustChainModel" "TrustChainModel" "stored" "[LTrustChainModel$Text;") ∈ tb := tb_in (tm_8 (List.mem_of_getElem? (i := 110) rfl)) rfl
theorem q8_111 : (Cond.soleField "TrustChainModel" "stored") ∈ tb := tb_in (tm_8 (List.mem_of_getElem? (i := 111) rfl)) rfl
theorem q8_112 : (Cond.laysFinal "TrustChainModel" "TrustChainModel" "revoked" "[LTrustChainModel$Text;") ∈ tb := tb_in (tm_8 (List.mem_of_getElem? (i := 112) rfl)) rfl
theorem q8_113 : (Cond.soleField "TrustChainModel" "revoked") ∈ tb := tb_in (tm_8 (List.mem_of_getElem? (i := 113) rfl)) rfl
theorem q8_114 : (Cond.lays "TrustChainModel" "TrustChainModel" "spare" "LTrustChainModel$Text;") ∈ tb := tb_in (tm_8 (List.mem_of_getElem? (i := 114) rfl)) rfl
theorem q8_115 : (Cond.soleField "TrustChainModel" "spare") ∈ tb := tb_in (tm_8 (List.mem_of_getElem? (i := 115) rfl)) rfl
theorem q8_116 : (Cond.lays "TrustChainModel" "TrustChainModel" "quotientSize" "I") ∈ tb := tb_in (tm_8 (List.mem_of_getElem? (i := 116) rfl)) rfl
theorem q8_117 : (Cond.soleField "TrustChainModel" "quotientSize") ∈ tb := tb_in (tm_8 (List.mem_of_getElem? (i := 117) rfl)) rfl
theorem q8_118 : (Cond.laysFinal "TrustChainModel" "TrustChainModel" "rs" "[I") ∈ tb := tb_in (tm_8 (List.mem_of_getElem? (i := 118) rfl)) rfl
theorem q8_119 : (Cond.soleField "TrustChainModel" "rs") ∈ tb := tb_in (tm_8 (List.mem_of_getElem? (i := 119) rfl)) rfl
theorem q8_120 : (Cond.laysFinal "TrustChainModel" "TrustChainModel" "block" "[I") ∈ tb := tb_in (tm_8 (List.mem_of_getElem? (i := 120) rfl)) rfl
theorem q8_121 : (Cond.soleField "TrustChainModel" "block") ∈ tb := tb_in (tm_8 (List.mem_of_getElem? (i := 121) rfl)) rfl
theorem q8_122 : (Cond.laysFinal "TrustChainModel" "TrustChainModel" "w" "[I") ∈ tb := tb_in (tm_8 (List.mem_of_getElem? (i := 122) rfl)) rfl
theorem q8_123 : (Cond.soleField "TrustChainModel" "w") ∈ tb := tb_in (tm_8 (List.mem_of_getElem? (i := 123) rfl)) rfl
theorem q8_124 : (Cond.laysFinal "TrustChainModel" "TrustChainModel" "h" "[I") ∈ tb := tb_in (tm_8 (List.mem_of_getElem? (i := 124) rfl)) rfl
theorem q8_125 : (Cond.soleField "TrustChainModel" "h") ∈ tb := tb_in (tm_8 (List.mem_of_getElem? (i := 125) rfl)) rfl
theorem q8_126 : (Cond.laysFinal "TrustChainModel" "TrustChainModel" "first" "[I") ∈ tb := tb_in (tm_8 (List.mem_of_getElem? (i := 126) rfl)) rfl
theorem q8_127 : (Cond.soleField "TrustChainModel" "first") ∈ tb := tb_in (tm_8 (List.mem_of_getElem? (i := 127) rfl)) rfl
theorem q8_128 : (Cond.laysFinal "TrustChainModel" "TrustChainModel" "primes" "[I") ∈ tb := tb_in (tm_8 (List.mem_of_getElem? (i := 128) rfl)) rfl
theorem q8_129 : (Cond.soleField "TrustChainModel" "primes") ∈ tb := tb_in (tm_8 (List.mem_of_getElem? (i := 129) rfl)) rfl
theorem q8_130 : (Cond.laysFinal "TrustChainModel" "TrustChainModel" "x" "[I") ∈ tb := tb_in (tm_8 (List.mem_of_getElem? (i := 130) rfl)) rfl
theorem q8_131 : (Cond.soleField "TrustChainModel" "x") ∈ tb := tb_in (tm_8 (List.mem_of_getElem? (i := 131) rfl)) rfl
theorem q8_132 : (Cond.laysFinal "TrustChainModel" "TrustChainModel" "y" "[I") ∈ tb := tb_in (tm_8 (List.mem_of_getElem? (i := 132) rfl)) rfl
theorem q8_133 : (Cond.soleField "TrustChainModel" "y") ∈ tb := tb_in (tm_8 (List.mem_of_getElem? (i := 133) rfl)) rfl
theorem q8_134 : (Cond.laysFinal "TrustChainModel" "TrustChainModel" "m" "[I") ∈ tb := tb_in (tm_8 (List.mem_of_getElem? (i := 134) rfl)) rfl
theorem q8_135 : (Cond.soleField "TrustChainModel" "m") ∈ tb := tb_in (tm_8 (List.mem_of_getElem? (i := 135) rfl)) rfl
theorem q8_136 : (Cond.laysFinal "TrustChainModel" "TrustChainModel" "q" "[I") ∈ tb := tb_in (tm_8 (List.mem_of_getElem? (i := 136) rfl)) rfl
theorem q8_137 : (Cond.soleField "TrustChainModel" "q") ∈ tb := tb_in (tm_8 (List.mem_of_getElem? (i := 137) rfl)) rfl
theorem q8_138 : (Cond.laysFinal "TrustChainModel" "TrustChainModel" "z" "[I") ∈ tb := tb_in (tm_8 (List.mem_of_getElem? (i := 138) rfl)) rfl
theorem q8_139 : (Cond.soleField "TrustChainModel" "z") ∈ tb := tb_in (tm_8 (List.mem_of_getElem? (i := 139) rfl)) rfl
theorem q8_140 : (Cond.laysFinal "TrustChainModel" "TrustChainModel" "way" "[I") ∈ tb := tb_in (tm_8 (List.mem_of_getElem? (i := 140) rfl)) rfl
theorem q8_141 : (Cond.soleField "TrustChainModel" "way") ∈ tb := tb_in (tm_8 (List.mem_of_getElem? (i := 141) rfl)) rfl
theorem q8_142 : (Cond.laysFinal "TrustChainModel" "TrustChainModel" "found" "[I") ∈ tb := tb_in (tm_8 (List.mem_of_getElem? (i := 142) rfl)) rfl
theorem q8_143 : (Cond.soleField "TrustChainModel" "found") ∈ tb := tb_in (tm_8 (List.mem_of_getElem? (i := 143) rfl)) rfl
theorem q8_144 : (Cond.lays "TrustChainModel" "TrustChainModel" "size" "I") ∈ tb := tb_in (tm_8 (List.mem_of_getElem? (i := 144) rfl)) rfl
theorem q8_145 : (Cond.soleField "TrustChainModel" "size") ∈ tb := tb_in (tm_8 (List.mem_of_getElem? (i := 145) rfl)) rfl
theorem q8_146 : (Cond.lays "TrustChainModel" "TrustChainModel" "chainSize" "I") ∈ tb := tb_in (tm_8 (List.mem_of_getElem? (i := 146) rfl)) rfl
theorem q8_147 : (Cond.soleField "TrustChainModel" "chainSize") ∈ tb := tb_in (tm_8 (List.mem_of_getElem? (i := 147) rfl)) rfl
theorem q8_148 : (Cond.lays "TrustChainModel" "TrustChainModel" "chains" "I") ∈ tb := tb_in (tm_8 (List.mem_of_getElem? (i := 148) rfl)) rfl
theorem q8_149 : (Cond.soleField "TrustChainModel" "chains") ∈ tb := tb_in (tm_8 (List.mem_of_getElem? (i := 149) rfl)) rfl
theorem q8_150 : (Cond.lays "TrustChainModel" "TrustChainModel" "faultAt" "I") ∈ tb := tb_in (tm_8 (List.mem_of_getElem? (i := 150) rfl)) rfl
theorem q8_151 : (Cond.soleField "TrustChainModel" "faultAt") ∈ tb := tb_in (tm_8 (List.mem_of_getElem? (i := 151) rfl)) rfl
theorem q8_152 : (Cond.lays "TrustChainModel" "TrustChainModel" "put" "I") ∈ tb := tb_in (tm_8 (List.mem_of_getElem? (i := 152) rfl)) rfl
theorem q8_153 : (Cond.soleField "TrustChainModel" "put") ∈ tb := tb_in (tm_8 (List.mem_of_getElem? (i := 153) rfl)) rfl
theorem q8_154 : (Cond.lays "TrustChainModel" "TrustChainModel" "depth" "I") ∈ tb := tb_in (tm_8 (List.mem_of_getElem? (i := 154) rfl)) rfl
theorem q8_155 : (Cond.soleField "TrustChainModel" "depth") ∈ tb := tb_in (tm_8 (List.mem_of_getElem? (i := 155) rfl)) rfl
theorem q8_156 : (Cond.lays "TrustChainModel" "TrustChainModel" "verdict" "I") ∈ tb := tb_in (tm_8 (List.mem_of_getElem? (i := 156) rfl)) rfl
theorem q8_157 : (Cond.soleField "TrustChainModel" "verdict") ∈ tb := tb_in (tm_8 (List.mem_of_getElem? (i := 157) rfl)) rfl
theorem q8_158 : (Cond.lays "TrustChainModel" "TrustChainModel" "now" "J") ∈ tb := tb_in (tm_8 (List.mem_of_getElem? (i := 158) rfl)) rfl
theorem q8_159 : (Cond.soleField "TrustChainModel" "now") ∈ tb := tb_in (tm_8 (List.mem_of_getElem? (i := 159) rfl)) rfl
theorem q8_160 : (Cond.lays "TrustChainModel" "TrustChainModel" "mustKnow" "Z") ∈ tb := tb_in (tm_8 (List.mem_of_getElem? (i := 160) rfl)) rfl
theorem q8_161 : (Cond.soleField "TrustChainModel" "mustKnow") ∈ tb := tb_in (tm_8 (List.mem_of_getElem? (i := 161) rfl)) rfl
theorem q8_162 : (Cond.superclass "TrustChainModel" "java/lang/Object") ∈ tb := tb_in (tm_8 (List.mem_of_getElem? (i := 162) rfl)) rfl
theorem q8_163 : (Cond.methodLink "TrustChainLaw" (68 : Nat) ({ cls := "TrustChainModel", name := "thrown", desc := "()I" } : MethodName)) ∈ tb := tb_in (tm_8 (List.mem_of_getElem? (i := 163) rfl)) rfl
theorem q8_164 : (Cond.instanceMethod ({ cls := "TrustChainModel", name := "thrown", desc := "()I" } : MethodName)) ∈ tb := tb_in (tm_8 (List.mem_of_getElem? (i := 164) rfl)) rfl
theorem q8_165 : (Cond.selects "TrustChainModel" ({ cls := "TrustChainModel", name := "thrown", desc := "()I" } : MethodName) ({ cls := "TrustChainModel", name := "thrown", desc := "()I" } : MethodName)) ∈ tb := tb_in (tm_8 (List.mem_of_getElem? (i := 165) rfl)) rfl
theorem q8_166 : (Cond.code ({ cls := "TrustChainModel", name := "thrown", desc := "()I" } : MethodName) prog_14_method_2_code (1 : Nat) (some FieldType.int)) ∈ tb := tb_in (tm_8 (List.mem_of_getElem? (i := 166) rfl)) rfl
theorem q8_167 : (Cond.methodLink "TrustChainLaw" (67 : Nat) ({ cls := "TrustChainModel", name := "feed", desc := "(IIIII)I" } : MethodName)) ∈ tb := tb_in (tm_8 (List.mem_of_getElem? (i := 167) rfl)) rfl
theorem q8_168 : (Cond.instanceMethod ({ cls := "TrustChainModel", name := "feed", desc := "(IIIII)I" } : MethodName)) ∈ tb := tb_in (tm_8 (List.mem_of_getElem? (i := 168) rfl)) rfl
theorem q8_169 : (Cond.selects "TrustChainModel" ({ cls := "TrustChainModel", name := "feed", desc := "(IIIII)I" } : MethodName) ({ cls := "TrustChainModel", name := "feed", desc := "(IIIII)I" } : MethodName)) ∈ tb := tb_in (tm_8 (List.mem_of_getElem? (i := 169) rfl)) rfl
theorem q8_170 : (Cond.code ({ cls := "TrustChainModel", name := "feed", desc := "(IIIII)I" } : MethodName) prog_14_method_14_code (8 : Nat) (some FieldType.int)) ∈ tb := tb_in (tm_8 (List.mem_of_getElem? (i := 170) rfl)) rfl
theorem q8_171 : (Cond.methodLink "TrustChainModel" (176 : Nat) ({ cls := "TrustChainModel", name := "fails", desc := "(ZI)Z" } : MethodName)) ∈ tb := tb_in (tm_8 (List.mem_of_getElem? (i := 171) rfl)) rfl
theorem q8_172 : (Cond.privateMethod ({ cls := "TrustChainModel", name := "fails", desc := "(ZI)Z" } : MethodName)) ∈ lw_tbl := tm_8 (List.mem_of_getElem? (i := 172) rfl)
theorem q8_173 : (Cond.instanceMethod ({ cls := "TrustChainModel", name := "fails", desc := "(ZI)Z" } : MethodName)) ∈ tb := tb_in (tm_8 (List.mem_of_getElem? (i := 173) rfl)) rfl
theorem q8_174 : (Cond.code ({ cls := "TrustChainModel", name := "fails", desc := "(ZI)Z" } : MethodName) prog_14_method_13_code (3 : Nat) (some FieldType.boolean)) ∈ tb := tb_in (tm_8 (List.mem_of_getElem? (i := 174) rfl)) rfl
theorem q8_175 : (Cond.methodLink "TrustChainLaw" (75 : Nat) ({ cls := "TrustChainModel", name := "certificate", desc := "(IZ)I" } : MethodName)) ∈ tb := tb_in (tm_8 (List.mem_of_getElem? (i := 175) rfl)) rfl
theorem q8_176 : (Cond.instanceMethod ({ cls := "TrustChainModel", name := "certificate", desc := "(IZ)I" } : MethodName)) ∈ tb := tb_in (tm_8 (List.mem_of_getElem? (i := 176) rfl)) rfl
theorem q8_177 : (Cond.selects "TrustChainModel" ({ cls := "TrustChainModel", name := "certificate", desc := "(IZ)I" } : MethodName) ({ cls := "TrustChainModel", name := "certificate", desc := "(IZ)I" } : MethodName)) ∈ tb := tb_in (tm_8 (List.mem_of_getElem? (i := 177) rfl)) rfl
theorem q8_178 : (Cond.code ({ cls := "TrustChainModel", name := "certificate", desc := "(IZ)I" } : MethodName) prog_14_method_16_code (4 : Nat) (some FieldType.int)) ∈ tb := tb_in (tm_8 (List.mem_of_getElem? (i := 178) rfl)) rfl
theorem q8_179 : (Cond.methodLink "TrustChainModel" (197 : Nat) ({ cls := "TrustChainModel", name := "store", desc := "(IZ)I" } : MethodName)) ∈ tb := tb_in (tm_8 (List.mem_of_getElem? (i := 179) rfl)) rfl
theorem q8_180 : (Cond.privateMethod ({ cls := "TrustChainModel", name := "store", desc := "(IZ)I" } : MethodName)) ∈ lw_tbl := tm_8 (List.mem_of_getElem? (i := 180) rfl)
theorem q8_181 : (Cond.instanceMethod ({ cls := "TrustChainModel", name := "store", desc := "(IZ)I" } : MethodName)) ∈ tb := tb_in (tm_8 (List.mem_of_getElem? (i := 181) rfl)) rfl
theorem q8_182 : (Cond.code ({ cls := "TrustChainModel", name := "store", desc := "(IZ)I" } : MethodName) prog_14_method_15_code (6 : Nat) (some FieldType.int)) ∈ tb := tb_in (tm_8 (List.mem_of_getElem? (i := 182) rfl)) rfl
theorem q8_183 : (Cond.methodLink "TrustChainModel" (192 : Nat) ({ cls := "TrustChainModel$Text", name := "read", desc := "(Z)Z" } : MethodName)) ∈ tb := tb_in (tm_8 (List.mem_of_getElem? (i := 183) rfl)) rfl
theorem q8_184 : (Cond.instanceMethod ({ cls := "TrustChainModel$Text", name := "read", desc := "(Z)Z" } : MethodName)) ∈ tb := tb_in (tm_8 (List.mem_of_getElem? (i := 184) rfl)) rfl
theorem q8_185 : (Cond.selects "TrustChainModel$Text" ({ cls := "TrustChainModel$Text", name := "read", desc := "(Z)Z" } : MethodName) ({ cls := "TrustChainModel$Text", name := "read", desc := "(Z)Z" } : MethodName)) ∈ tb := tb_in (tm_8 (List.mem_of_getElem? (i := 185) rfl)) rfl
theorem q8_186 : (Cond.code ({ cls := "TrustChainModel$Text", name := "read", desc := "(Z)Z" } : MethodName) prog_15_method_28_code (3 : Nat) (some FieldType.boolean)) ∈ tb := tb_in (tm_8 (List.mem_of_getElem? (i := 186) rfl)) rfl
theorem q8_187 : (Cond.methodLink "TrustChainModel$Text" (68 : Nat) ({ cls := "TrustChainModel$Text", name := "element", desc := "(II)Z" } : MethodName)) ∈ tb := tb_in (tm_8 (List.mem_of_getElem? (i := 187) rfl)) rfl
theorem q8_188 : (Cond.instanceMethod ({ cls := "TrustChainModel$Text", name := "element", desc := "(II)Z" } : MethodName)) ∈ tb := tb_in (tm_8 (List.mem_of_getElem? (i := 188) rfl)) rfl
theorem q8_189 : (Cond.selects "TrustChainModel$Text" ({ cls := "TrustChainModel$Text", name := "element", desc := "(II)Z" } : MethodName) ({ cls := "TrustChainModel$Text", name := "element", desc := "(II)Z" } : MethodName)) ∈ tb := tb_in (tm_8 (List.mem_of_getElem? (i := 189) rfl)) rfl
theorem q8_190 : (Cond.code ({ cls := "TrustChainModel$Text", name := "element", desc := "(II)Z" } : MethodName) prog_15_method_4_code (5 : Nat) (some FieldType.boolean)) ∈ tb := tb_in (tm_8 (List.mem_of_getElem? (i := 190) rfl)) rfl
theorem q8_191 : (Cond.methodLink "TrustChainModel$Text" (55 : Nat) ({ cls := "TrustChainModel$Text", name := "bad", desc := "(I)Z" } : MethodName)) ∈ tb := tb_in (tm_8 (List.mem_of_getElem? (i := 191) rfl)) rfl
theorem q8_192 : (Cond.instanceMethod ({ cls := "TrustChainModel$Text", name := "bad", desc := "(I)Z" } : MethodName)) ∈ tb := tb_in (tm_8 (List.mem_of_getElem? (i := 192) rfl)) rfl
theorem q8_193 : (Cond.selects "TrustChainModel$Text" ({ cls := "TrustChainModel$Text", name := "bad", desc := "(I)Z" } : MethodName) ({ cls := "TrustChainModel$Text", name := "bad", desc := "(I)Z" } : MethodName)) ∈ tb := tb_in (tm_8 (List.mem_of_getElem? (i := 193) rfl)) rfl
theorem q8_194 : (Cond.code ({ cls := "TrustChainModel$Text", name := "bad", desc := "(I)Z" } : MethodName) prog_15_method_2_code (2 : Nat) (some FieldType.boolean)) ∈ tb := tb_in (tm_8 (List.mem_of_getElem? (i := 194) rfl)) rfl
theorem q8_195 : (Cond.methodLink "TrustChainModel$Text" (258 : Nat) ({ cls := "TrustChainModel$Text", name := "list", desc := "(I)Z" } : MethodName)) ∈ tb := tb_in (tm_8 (List.mem_of_getElem? (i := 195) rfl)) rfl
theorem q8_196 : (Cond.instanceMethod ({ cls := "TrustChainModel$Text", name := "list", desc := "(I)Z" } : MethodName)) ∈ tb := tb_in (tm_8 (List.mem_of_getElem? (i := 196) rfl)) rfl
theorem q8_197 : (Cond.selects "TrustChainModel$Text" ({ cls := "TrustChainModel$Text", name := "list", desc := "(I)Z" } : MethodName) ({ cls := "TrustChainModel$Text", name := "list", desc := "(I)Z" } : MethodName)) ∈ tb := tb_in (tm_8 (List.mem_of_getElem? (i := 197) rfl)) rfl
theorem q8_198 : (Cond.code ({ cls := "TrustChainModel$Text", name := "list", desc := "(I)Z" } : MethodName) prog_15_method_31_code (4 : Nat) (some FieldType.boolean)) ∈ tb := tb_in (tm_8 (List.mem_of_getElem? (i := 198) rfl)) rfl
theorem q8_199 : (Cond.methodLink "TrustChainModel$Text" (219 : Nat) ({ cls := "TrustChainModel$Text", name := "number", desc := "(III)Z" } : MethodName)) ∈ tb := tb_in (tm_8 (List.mem_of_getElem? (i := 199) rfl)) rfl
theorem q8_200 : (Cond.instanceMethod ({ cls := "TrustChainModel$Text", name := "number", desc := "(III)Z" } : MethodName)) ∈ tb := tb_in (tm_8 (List.mem_of_getElem? (i := 200) rfl)) rfl
theorem q8_201 : (Cond.selects "TrustChainModel$Text" ({ cls := "TrustChainModel$Text", name := "number", desc := "(III)Z" } : MethodName) ({ cls := "TrustChainModel$Text", name := "number", desc := "(III)Z" } : MethodName)) ∈ tb := tb_in (tm_8 (List.mem_of_getElem? (i := 201) rfl)) rfl
theorem q8_202 : (Cond.code ({ cls := "TrustChainModel$Text", name := "number", desc := "(III)Z" } : MethodName) prog_15_method_7_code (6 : Nat) (some FieldType.boolean)) ∈ tb := tb_in (tm_8 (List.mem_of_getElem? (i := 202) rfl)) rfl
theorem q8_203 : (Cond.methodLink "TrustChainModel$Text" (72 : Nat) ({ cls := "TrustChainModel$Text", name := "integer", desc := "(I)Z" } : MethodName)) ∈ tb := tb_in (tm_8 (List.mem_of_getElem? (i := 203) rfl)) rfl
theorem q8_204 : (Cond.instanceMethod ({ cls := "TrustChainModel$Text", name := "integer", desc := "(I)Z" } : MethodName)) ∈ tb := tb_in (tm_8 (List.mem_of_getElem? (i := 204) rfl)) rfl
theorem q8_205 : (Cond.selects "TrustChainModel$Text" ({ cls := "TrustChainModel$Text", name := "integer", desc := "(I)Z" } : MethodName) ({ cls := "TrustChainModel$Text", name := "integer", desc := "(I)Z" } : MethodName)) ∈ tb := tb_in (tm_8 (List.mem_of_getElem? (i := 205) rfl)) rfl
theorem q8_206 : (Cond.code ({ cls := "TrustChainModel$Text", name := "integer", desc := "(I)Z" } : MethodName) prog_15_method_6_code (3 : Nat) (some FieldType.boolean)) ∈ tb := tb_in (tm_8 (List.mem_of_getElem? (i := 206) rfl)) rfl
theorem q8_207 : (Cond.methodLinkNest "TrustChainModel$Text" (79 : Nat) ({ cls := "TrustChainModel", name := "in", desc := "(III)Z" } : MethodName) "TrustChainModel") ∈ lw_tbl := tm_8 (List.mem_of_getElem? (i := 207) rfl)
theorem q8_208 : (Cond.static ({ cls := "TrustChainModel", name := "in", desc := "(III)Z" } : MethodName)) ∈ tb := tb_in (tm_8 (List.mem_of_getElem? (i := 208) rfl)) rfl
theorem q8_209 : (Cond.code ({ cls := "TrustChainModel", name := "in", desc := "(III)Z" } : MethodName) prog_14_method_12_code (3 : Nat) (some FieldType.boolean)) ∈ tb := tb_in (tm_8 (List.mem_of_getElem? (i := 209) rfl)) rfl
theorem q8_210 : (Cond.stringRef "TrustChainModel$Text" (264 : Nat) "2A864886F70D01010B") ∈ lw_tbl := tm_8 (List.mem_of_getElem? (i := 210) rfl)
theorem q8_211 : (Cond.methodLink "TrustChainModel$Text" (266 : Nat) ({ cls := "TrustChainModel$Text", name := "algorithm", desc := "(ILjava/lang/String;)Z" } : MethodName)) ∈ tb := tb_in (tm_8 (List.mem_of_getElem? (i := 211) rfl)) rfl
theorem q8_212 : (Cond.instanceMethod ({ cls := "TrustChainModel$Text", name := "algorithm", desc := "(ILjava/lang/String;)Z" } : MethodName)) ∈ tb := tb_in (tm_8 (List.mem_of_getElem? (i := 212) rfl)) rfl
theorem q8_213 : (Cond.selects "TrustChainModel$Text" ({ cls := "TrustChainModel$Text", name := "algorithm", desc := "(ILjava/lang/String;)Z" } : MethodName) ({ cls := "TrustChainModel$Text", name := "algorithm", desc := "(ILjava/lang/String;)Z" } : MethodName)) ∈ tb := tb_in (tm_8 (List.mem_of_getElem? (i := 213) rfl)) rfl
theorem q8_214 : (Cond.code ({ cls := "TrustChainModel$Text", name := "algorithm", desc := "(ILjava/lang/String;)Z" } : MethodName) prog_15_method_11_code (4 : Nat) (some FieldType.boolean)) ∈ tb := tb_in (tm_8 (List.mem_of_getElem? (i := 214) rfl)) rfl
theorem q8_215 : (Cond.methodLink "TrustChainModel$Text" (97 : Nat) ({ cls := "TrustChainModel$Text", name := "oid", desc := "(I)Z" } : MethodName)) ∈ tb := tb_in (tm_8 (List.mem_of_getElem? (i := 215) rfl)) rfl
theorem q8_216 : (Cond.instanceMethod ({ cls := "TrustChainModel$Text", name := "oid", desc := "(I)Z" } : MethodName)) ∈ tb := tb_in (tm_8 (List.mem_of_getElem? (i := 216) rfl)) rfl
theorem q8_217 : (Cond.selects "TrustChainModel$Text" ({ cls := "TrustChainModel$Text", name := "oid", desc := "(I)Z" } : MethodName) ({ cls := "TrustChainModel$Text", name := "oid", desc := "(I)Z" } : MethodName)) ∈ tb := tb_in (tm_8 (List.mem_of_getElem? (i := 217) rfl)) rfl
theorem q8_218 : (Cond.code ({ cls := "TrustChainModel$Text", name := "oid", desc := "(I)Z" } : MethodName) prog_15_method_8_code (3 : Nat) (some FieldType.boolean)) ∈ tb := tb_in (tm_8 (List.mem_of_getElem? (i := 218) rfl)) rfl
theorem q8_219 : (Cond.methodLink "TrustChainModel$Text" (100 : Nat) ({ cls := "TrustChainModel$Text", name := "is", desc := "(Ljava/lang/String;)Z" } : MethodName)) ∈ tb := tb_in (tm_8 (List.mem_of_getElem? (i := 219) rfl)) rfl
theorem q8_220 : (Cond.instanceMethod ({ cls := "TrustChainModel$Text", name := "is", desc := "(Ljava/lang/String;)Z" } : MethodName)) ∈ tb := tb_in (tm_8 (List.mem_of_getElem? (i := 220) rfl)) rfl
theorem q8_221 : (Cond.selects "TrustChainModel$Text" ({ cls := "TrustChainModel$Text", name := "is", desc := "(Ljava/lang/String;)Z" } : MethodName) ({ cls := "TrustChainModel$Text", name := "is", desc := "(Ljava/lang/String;)Z" } : MethodName)) ∈ tb := tb_in (tm_8 (List.mem_of_getElem? (i := 221) rfl)) rfl
theorem q8_222 : (Cond.code ({ cls := "TrustChainModel$Text", name := "is", desc := "(Ljava/lang/String;)Z" } : MethodName) prog_15_method_9_code (3 : Nat) (some FieldType.boolean)) ∈ tb := tb_in (tm_8 (List.mem_of_getElem? (i := 222) rfl)) rfl
theorem q8_223 : (Cond.methodLink "TrustChainModel$Text" (83 : Nat) ({ cls := "java/lang/String", name := "length", desc := "()I" } : MethodName)) ∈ tb := tb_in (tm_8 (List.mem_of_getElem? (i := 223) rfl)) rfl
theorem q8_224 : (Cond.methodLink "TrustChainModel$Text" (89 : Nat) ({ cls := "java/lang/String", name := "charAt", desc := "(I)C" } : MethodName)) ∈ tb := tb_in (tm_8 (List.mem_of_getElem? (i := 224) rfl)) rfl
theorem q8_225 : (Cond.instanceMethod ({ cls := "java/lang/String", name := "charAt", desc := "(I)C" } : MethodName)) ∈ tb := tb_in (tm_8 (List.mem_of_getElem? (i := 225) rfl)) rfl
theorem q8_226 : (Cond.selects "java/lang/String" ({ cls := "java/lang/String", name := "charAt", desc := "(I)C" } : MethodName) ({ cls := "java/lang/String", name := "charAt", desc := "(I)C" } : MethodName)) ∈ tb := tb_in (tm_8 (List.mem_of_getElem? (i := 226) rfl)) rfl
theorem q8_227 : (Cond.code ({ cls := "java/lang/String", name := "charAt", desc := "(I)C" } : MethodName) prog_26_method_56_code (2 : Nat) (some FieldType.char)) ∈ tb := tb_in (tm_8 (List.mem_of_getElem? (i := 227) rfl)) rfl
theorem q8_228 : (Cond.methodLink "java/lang/String" (495 : Nat) ({ cls := "java/lang/StringLatin1", name := "charAt", desc := "([BI)C" } : MethodName)) ∈ tb := tb_in (tm_8 (List.mem_of_getElem? (i := 228) rfl)) rfl
theorem q8_229 : (Cond.static ({ cls := "java/lang/StringLatin1", name := "charAt", desc := "([BI)C" } : MethodName)) ∈ tb := tb_in (tm_8 (List.mem_of_getElem? (i := 229) rfl)) rfl
theorem q8_230 : (Cond.code ({ cls := "java/lang/StringLatin1", name := "charAt", desc := "([BI)C" } : MethodName) prog_27_method_2_code (2 : Nat) (some FieldType.char)) ∈ tb := tb_in (tm_8 (List.mem_of_getElem? (i := 230) rfl)) rfl
theorem q8_231 : (Cond.methodLink "java/lang/StringLatin1" (9 : Nat) ({ cls := "java/lang/String", name := "checkIndex", desc := "(II)V" } : MethodName)) ∈ tb := tb_in (tm_8 (List.mem_of_getElem? (i := 231) rfl)) rfl
theorem q8_232 : (Cond.static ({ cls := "java/lang/String", name := "checkIndex", desc := "(II)V" } : MethodName)) ∈ tb := tb_in (tm_8 (List.mem_of_getElem? (i := 232) rfl)) rfl
theorem q8_233 : (Cond.code ({ cls := "java/lang/String", name := "checkIndex", desc := "(II)V" } : MethodName) prog_26_method_155_code (2 : Nat) none) ∈ tb := tb_in (tm_8 (List.mem_of_getElem? (i := 233) rfl)) rfl
theorem q8_234 : (Cond.methodLink "java/lang/String" (1059 : Nat) ({ cls := "jdk/internal/util/Preconditions", name := "checkIndex", desc := "(IILjava/util/function/BiFunction;)I" } : MethodName)) ∈ tb := tb_in (tm_8 (List.mem_of_getElem? (i := 234) rfl)) rfl
theorem q8_235 : (Cond.methodLink "java/lang/String" (498 : Nat) ({ cls := "java/lang/StringUTF16", name := "charAt", desc := "([BI)C" } : MethodName)) ∈ tb := tb_in (tm_8 (List.mem_of_getElem? (i := 235) rfl)) rfl
theorem q8_236 : (Cond.static ({ cls := "java/lang/StringUTF16", name := "charAt", desc := "([BI)C" } : MethodName)) ∈ tb := tb_in (tm_8 (List.mem_of_getElem? (i := 236) rfl)) rfl
theorem q8_237 : (Cond.code ({ cls := "java/lang/StringUTF16", name := "charAt", desc := "([BI)C" } : MethodName) prog_28_method_83_code (2 : Nat) (some FieldType.char)) ∈ tb := tb_in (tm_8 (List.mem_of_getElem? (i := 237) rfl)) rfl
theorem q8_238 : (Cond.methodLink "java/lang/StringUTF16" (67 : Nat) ({ cls := "java/lang/StringUTF16", name := "checkIndex", desc := "(I[B)V" } : MethodName)) ∈ tb := tb_in (tm_8 (List.mem_of_getElem? (i := 238) rfl)) rfl
theorem q8_239 : (Cond.static ({ cls := "java/lang/StringUTF16", name := "checkIndex", desc := "(I[B)V" } : MethodName)) ∈ tb := tb_in (tm_8 (List.mem_of_getElem? (i := 239) rfl)) rfl
theorem q9_0 : (Cond.code ({ cls := "java/lang/StringUTF16", name := "checkIndex", desc := "(I[B)V" } : MethodName) prog_28_method_91_code (2 : Nat) none) ∈ tb := tb_in (tm_9 (List.mem_of_getElem? (i := 0) rfl)) rfl
theorem q9_1 : (Cond.methodLink "java/lang/StringUTF16" (414 : Nat) ({ cls := "java/lang/String", name := "checkIndex", desc := "(II)V" } : MethodName)) ∈ tb := tb_in (tm_9 (List.mem_of_getElem? (i := 1) rfl)) rfl
theorem q9_2 : (Cond.methodLinkNest "TrustChainModel$Text" (93 : Nat) ({ cls := "TrustChainModel", name := "hexOf", desc := "(I)I" } : MethodName) "TrustChainModel") ∈ lw_tbl := tm_9 (List.mem_of_getElem? (i := 2) rfl)
theorem q9_3 : (Cond.static ({ cls := "TrustChainModel", name := "hexOf", desc := "(I)I" } : MethodName)) ∈ tb := tb_in (tm_9 (List.mem_of_getElem? (i := 3) rfl)) rfl
theorem q9_4 : (Cond.code ({ cls := "TrustChainModel", name := "hexOf", desc := "(I)I" } : MethodName) prog_14_method_10_code (1 : Nat) (some FieldType.int)) ∈ tb := tb_in (tm_9 (List.mem_of_getElem? (i := 4) rfl)) rfl
theorem q9_5 : (Cond.methodLink "TrustChainModel$Text" (104 : Nat) ({ cls := "TrustChainModel$Text", name := "nothing", desc := "(I)Z" } : MethodName)) ∈ tb := tb_in (tm_9 (List.mem_of_getElem? (i := 5) rfl)) rfl
theorem q9_6 : (Cond.instanceMethod ({ cls := "TrustChainModel$Text", name := "nothing", desc := "(I)Z" } : MethodName)) ∈ tb := tb_in (tm_9 (List.mem_of_getElem? (i := 6) rfl)) rfl
theorem q9_7 : (Cond.selects "TrustChainModel$Text" ({ cls := "TrustChainModel$Text", name := "nothing", desc := "(I)Z" } : MethodName) ({ cls := "TrustChainModel$Text", name := "nothing", desc := "(I)Z" } : MethodName)) ∈ tb := tb_in (tm_9 (List.mem_of_getElem? (i := 7) rfl)) rfl
theorem q9_8 : (Cond.code ({ cls := "TrustChainModel$Text", name := "nothing", desc := "(I)Z" } : MethodName) prog_15_method_10_code (2 : Nat) (some FieldType.boolean)) ∈ tb := tb_in (tm_9 (List.mem_of_getElem? (i := 8) rfl)) rfl
theorem q9_9 : (Cond.methodLink "TrustChainModel$Text" (107 : Nat) ({ cls := "TrustChainModel$Text", name := "done", desc := "(I)Z" } : MethodName)) ∈ tb := tb_in (tm_9 (List.mem_of_getElem? (i := 9) rfl)) rfl
theorem q9_10 : (Cond.instanceMethod ({ cls := "TrustChainModel$Text", name := "done", desc := "(I)Z" } : MethodName)) ∈ tb := tb_in (tm_9 (List.mem_of_getElem? (i := 10) rfl)) rfl
theorem q9_11 : (Cond.selects "TrustChainModel$Text" ({ cls := "TrustChainModel$Text", name := "done", desc := "(I)Z" } : MethodName) ({ cls := "TrustChainModel$Text", name := "done", desc := "(I)Z" } : MethodName)) ∈ tb := tb_in (tm_9 (List.mem_of_getElem? (i := 11) rfl)) rfl
theorem q9_12 : (Cond.code ({ cls := "TrustChainModel$Text", name := "done", desc := "(I)Z" } : MethodName) prog_15_method_5_code (2 : Nat) (some FieldType.boolean)) ∈ tb := tb_in (tm_9 (List.mem_of_getElem? (i := 12) rfl)) rfl
theorem q9_13 : (Cond.methodLink "TrustChainModel$Text" (286 : Nat) ({ cls := "TrustChainModel$Text", name := "issuer", desc := "(I)Z" } : MethodName)) ∈ tb := tb_in (tm_9 (List.mem_of_getElem? (i := 13) rfl)) rfl
theorem q9_14 : (Cond.instanceMethod ({ cls := "TrustChainModel$Text", name := "issuer", desc := "(I)Z" } : MethodName)) ∈ tb := tb_in (tm_9 (List.mem_of_getElem? (i := 14) rfl)) rfl
theorem q9_15 : (Cond.selects "TrustChainModel$Text" ({ cls := "TrustChainModel$Text", name := "issuer", desc := "(I)Z" } : MethodName) ({ cls := "TrustChainModel$Text", name := "issuer", desc := "(I)Z" } : MethodName)) ∈ tb := tb_in (tm_9 (List.mem_of_getElem? (i := 15) rfl)) rfl
theorem q9_16 : (Cond.code ({ cls := "TrustChainModel$Text", name := "issuer", desc := "(I)Z" } : MethodName) prog_15_method_30_code (2 : Nat) (some FieldType.boolean)) ∈ tb := tb_in (tm_9 (List.mem_of_getElem? (i := 16) rfl)) rfl
theorem q9_17 : (Cond.methodLink "TrustChainModel$Text" (226 : Nat) ({ cls := "TrustChainModel$Text", name := "name", desc := "(I)Z" } : MethodName)) ∈ tb := tb_in (tm_9 (List.mem_of_getElem? (i := 17) rfl)) rfl
theorem q9_18 : (Cond.instanceMethod ({ cls := "TrustChainModel$Text", name := "name", desc := "(I)Z" } : MethodName)) ∈ tb := tb_in (tm_9 (List.mem_of_getElem? (i := 18) rfl)) rfl
theorem q9_19 : (Cond.selects "TrustChainModel$Text" ({ cls := "TrustChainModel$Text", name := "name", desc := "(I)Z" } : MethodName) ({ cls := "TrustChainModel$Text", name := "name", desc := "(I)Z" } : MethodName)) ∈ tb := tb_in (tm_9 (List.mem_of_getElem? (i := 19) rfl)) rfl
theorem q9_20 : (Cond.code ({ cls := "TrustChainModel$Text", name := "name", desc := "(I)Z" } : MethodName) prog_15_method_13_code (6 : Nat) (some FieldType.boolean)) ∈ tb := tb_in (tm_9 (List.mem_of_getElem? (i := 20) rfl)) rfl
theorem q9_21 : (Cond.methodLink "TrustChainModel$Text" (126 : Nat) ({ cls := "TrustChainModel$Text", name := "string", desc := "(I)Z" } : MethodName)) ∈ tb := tb_in (tm_9 (List.mem_of_getElem? (i := 21) rfl)) rfl
theorem q9_22 : (Cond.instanceMethod ({ cls := "TrustChainModel$Text", name := "string", desc := "(I)Z" } : MethodName)) ∈ tb := tb_in (tm_9 (List.mem_of_getElem? (i := 22) rfl)) rfl
theorem q9_23 : (Cond.selects "TrustChainModel$Text" ({ cls := "TrustChainModel$Text", name := "string", desc := "(I)Z" } : MethodName) ({ cls := "TrustChainModel$Text", name := "string", desc := "(I)Z" } : MethodName)) ∈ tb := tb_in (tm_9 (List.mem_of_getElem? (i := 23) rfl)) rfl
theorem q9_24 : (Cond.code ({ cls := "TrustChainModel$Text", name := "string", desc := "(I)Z" } : MethodName) prog_15_method_12_code (9 : Nat) (some FieldType.boolean)) ∈ tb := tb_in (tm_9 (List.mem_of_getElem? (i := 24) rfl)) rfl
theorem q9_25 : (Cond.methodLink "TrustChainModel$Text" (110 : Nat) ({ cls := "TrustChainModel$Text", name := "tag", desc := "(I)I" } : MethodName)) ∈ tb := tb_in (tm_9 (List.mem_of_getElem? (i := 25) rfl)) rfl
theorem q9_26 : (Cond.instanceMethod ({ cls := "TrustChainModel$Text", name := "tag", desc := "(I)I" } : MethodName)) ∈ tb := tb_in (tm_9 (List.mem_of_getElem? (i := 26) rfl)) rfl
theorem q9_27 : (Cond.selects "TrustChainModel$Text" ({ cls := "TrustChainModel$Text", name := "tag", desc := "(I)I" } : MethodName) ({ cls := "TrustChainModel$Text", name := "tag", desc := "(I)I" } : MethodName)) ∈ tb := tb_in (tm_9 (List.mem_of_getElem? (i := 27) rfl)) rfl
theorem q9_28 : (Cond.code ({ cls := "TrustChainModel$Text", name := "tag", desc := "(I)I" } : MethodName) prog_15_method_3_code (2 : Nat) (some FieldType.int)) ∈ tb := tb_in (tm_9 (List.mem_of_getElem? (i := 28) rfl)) rfl
theorem q9_29 : (Cond.stringRef "TrustChainModel$Text" (113 : Nat) " '()+,-./:=?") ∈ lw_tbl := tm_9 (List.mem_of_getElem? (i := 29) rfl)
theorem q9_30 : (Cond.methodLinkNest "TrustChainModel$Text" (115 : Nat) ({ cls := "TrustChainModel", name := "isIn", desc := "(ILjava/lang/String;)Z" } : MethodName) "TrustChainModel") ∈ lw_tbl := tm_9 (List.mem_of_getElem? (i := 30) rfl)
theorem q9_31 : (Cond.static ({ cls := "TrustChainModel", name := "isIn", desc := "(ILjava/lang/String;)Z" } : MethodName)) ∈ tb := tb_in (tm_9 (List.mem_of_getElem? (i := 31) rfl)) rfl
theorem q9_32 : (Cond.code ({ cls := "TrustChainModel", name := "isIn", desc := "(ILjava/lang/String;)Z" } : MethodName) prog_14_method_11_code (3 : Nat) (some FieldType.boolean)) ∈ tb := tb_in (tm_9 (List.mem_of_getElem? (i := 32) rfl)) rfl
theorem q9_33 : (Cond.methodLink "TrustChainModel" (163 : Nat) ({ cls := "java/lang/String", name := "length", desc := "()I" } : MethodName)) ∈ tb := tb_in (tm_9 (List.mem_of_getElem? (i := 33) rfl)) rfl
theorem q9_34 : (Cond.methodLink "TrustChainModel" (169 : Nat) ({ cls := "java/lang/String", name := "charAt", desc := "(I)C" } : MethodName)) ∈ tb := tb_in (tm_9 (List.mem_of_getElem? (i := 34) rfl)) rfl
theorem q9_35 : (Cond.constant "TrustChainModel$Text" (119 : Nat) (55296 : Int32)) ∈ tb := tb_in (tm_9 (List.mem_of_getElem? (i := 35) rfl)) rfl
theorem q9_36 : (Cond.constant "TrustChainModel$Text" (120 : Nat) (57343 : Int32)) ∈ tb := tb_in (tm_9 (List.mem_of_getElem? (i := 36) rfl)) rfl
theorem q9_37 : (Cond.constant "TrustChainModel$Text" (121 : Nat) (65536 : Int32)) ∈ tb := tb_in (tm_9 (List.mem_of_getElem? (i := 37) rfl)) rfl
theorem q9_38 : (Cond.constant "TrustChainModel$Text" (122 : Nat) (1114111 : Int32)) ∈ tb := tb_in (tm_9 (List.mem_of_getElem? (i := 38) rfl)) rfl
theorem q9_39 : (Cond.methodLink "TrustChainModel$Text" (289 : Nat) ({ cls := "TrustChainModel$Text", name := "time", desc := "(I)Z" } : MethodName)) ∈ tb := tb_in (tm_9 (List.mem_of_getElem? (i := 39) rfl)) rfl
theorem q9_40 : (Cond.instanceMethod ({ cls := "TrustChainModel$Text", name := "time", desc := "(I)Z" } : MethodName)) ∈ tb := tb_in (tm_9 (List.mem_of_getElem? (i := 40) rfl)) rfl
theorem q9_41 : (Cond.selects "TrustChainModel$Text" ({ cls := "TrustChainModel$Text", name := "time", desc := "(I)Z" } : MethodName) ({ cls := "TrustChainModel$Text", name := "time", desc := "(I)Z" } : MethodName)) ∈ tb := tb_in (tm_9 (List.mem_of_getElem? (i := 41) rfl)) rfl
theorem q9_42 : (Cond.code ({ cls := "TrustChainModel$Text", name := "time", desc := "(I)Z" } : MethodName) prog_15_method_15_code (16 : Nat) (some FieldType.boolean)) ∈ tb := tb_in (tm_9 (List.mem_of_getElem? (i := 42) rfl)) rfl
theorem q9_43 : (Cond.methodLink "TrustChainModel$Text" (135 : Nat) ({ cls := "TrustChainModel$Text", name := "two", desc := "(I)I" } : MethodName)) ∈ tb := tb_in (tm_9 (List.mem_of_getElem? (i := 43) rfl)) rfl
theorem q9_44 : (Cond.privateMethod ({ cls := "TrustChainModel$Text", name := "two", desc := "(I)I" } : MethodName)) ∈ lw_tbl := tm_9 (List.mem_of_getElem? (i := 44) rfl)
theorem q9_45 : (Cond.instanceMethod ({ cls := "TrustChainModel$Text", name := "two", desc := "(I)I" } : MethodName)) ∈ tb := tb_in (tm_9 (List.mem_of_getElem? (i := 45) rfl)) rfl
theorem q9_46 : (Cond.code ({ cls := "TrustChainModel$Text", name := "two", desc := "(I)I" } : MethodName) prog_15_method_14_code (2 : Nat) (some FieldType.int)) ∈ tb := tb_in (tm_9 (List.mem_of_getElem? (i := 46) rfl)) rfl
theorem q9_47 : (Cond.constantLong "TrustChainModel$Text" (138 : Nat) (366 : Int64)) ∈ tb := tb_in (tm_9 (List.mem_of_getElem? (i := 47) rfl)) rfl
theorem q9_48 : (Cond.constantLong "TrustChainModel$Text" (140 : Nat) (365 : Int64)) ∈ tb := tb_in (tm_9 (List.mem_of_getElem? (i := 48) rfl)) rfl
theorem q9_49 : (Cond.constantLong "TrustChainModel$Text" (142 : Nat) (29 : Int64)) ∈ tb := tb_in (tm_9 (List.mem_of_getElem? (i := 49) rfl)) rfl
theorem q9_50 : (Cond.constantLong "TrustChainModel$Text" (144 : Nat) (28 : Int64)) ∈ tb := tb_in (tm_9 (List.mem_of_getElem? (i := 50) rfl)) rfl
theorem q9_51 : (Cond.constantLong "TrustChainModel$Text" (146 : Nat) (30 : Int64)) ∈ tb := tb_in (tm_9 (List.mem_of_getElem? (i := 51) rfl)) rfl
theorem q9_52 : (Cond.constantLong "TrustChainModel$Text" (148 : Nat) (31 : Int64)) ∈ tb := tb_in (tm_9 (List.mem_of_getElem? (i := 52) rfl)) rfl
theorem q9_53 : (Cond.constantLong "TrustChainModel$Text" (150 : Nat) (24 : Int64)) ∈ tb := tb_in (tm_9 (List.mem_of_getElem? (i := 53) rfl)) rfl
theorem q9_54 : (Cond.constantLong "TrustChainModel$Text" (152 : Nat) (3600 : Int64)) ∈ tb := tb_in (tm_9 (List.mem_of_getElem? (i := 54) rfl)) rfl
theorem q9_55 : (Cond.constantLong "TrustChainModel$Text" (154 : Nat) (60 : Int64)) ∈ tb := tb_in (tm_9 (List.mem_of_getElem? (i := 55) rfl)) rfl
theorem q9_56 : (Cond.methodLink "TrustChainModel$Text" (278 : Nat) ({ cls := "TrustChainModel$Text", name := "serial", desc := "(I)Z" } : MethodName)) ∈ tb := tb_in (tm_9 (List.mem_of_getElem? (i := 56) rfl)) rfl
theorem q9_57 : (Cond.instanceMethod ({ cls := "TrustChainModel$Text", name := "serial", desc := "(I)Z" } : MethodName)) ∈ tb := tb_in (tm_9 (List.mem_of_getElem? (i := 57) rfl)) rfl
theorem q9_58 : (Cond.selects "TrustChainModel$Text" ({ cls := "TrustChainModel$Text", name := "serial", desc := "(I)Z" } : MethodName) ({ cls := "TrustChainModel$Text", name := "serial", desc := "(I)Z" } : MethodName)) ∈ tb := tb_in (tm_9 (List.mem_of_getElem? (i := 58) rfl)) rfl
theorem q9_59 : (Cond.code ({ cls := "TrustChainModel$Text", name := "serial", desc := "(I)Z" } : MethodName) prog_15_method_16_code (2 : Nat) (some FieldType.boolean)) ∈ tb := tb_in (tm_9 (List.mem_of_getElem? (i := 59) rfl)) rfl
theorem q9_60 : (Cond.methodLink "TrustChainModel$Text" (312 : Nat) ({ cls := "TrustChainModel$Text", name := "extensions", desc := "(II)Z" } : MethodName)) ∈ tb := tb_in (tm_9 (List.mem_of_getElem? (i := 60) rfl)) rfl
theorem q9_61 : (Cond.instanceMethod ({ cls := "TrustChainModel$Text", name := "extensions", desc := "(II)Z" } : MethodName)) ∈ tb := tb_in (tm_9 (List.mem_of_getElem? (i := 61) rfl)) rfl
theorem q9_62 : (Cond.selects "TrustChainModel$Text" ({ cls := "TrustChainModel$Text", name := "extensions", desc := "(II)Z" } : MethodName) ({ cls := "TrustChainModel$Text", name := "extensions", desc := "(II)Z" } : MethodName)) ∈ tb := tb_in (tm_9 (List.mem_of_getElem? (i := 62) rfl)) rfl
theorem q9_63 : (Cond.code ({ cls := "TrustChainModel$Text", name := "extensions", desc := "(II)Z" } : MethodName) prog_15_method_19_code (12 : Nat) (some FieldType.boolean)) ∈ tb := tb_in (tm_9 (List.mem_of_getElem? (i := 63) rfl)) rfl
theorem q9_64 : (Cond.methodLink "TrustChainModel$Text" (176 : Nat) ({ cls := "TrustChainModel$Text", name := "isKnown", desc := "(II)Z" } : MethodName)) ∈ tb := tb_in (tm_9 (List.mem_of_getElem? (i := 64) rfl)) rfl
theorem q9_65 : (Cond.instanceMethod ({ cls := "TrustChainModel$Text", name := "isKnown", desc := "(II)Z" } : MethodName)) ∈ tb := tb_in (tm_9 (List.mem_of_getElem? (i := 65) rfl)) rfl
theorem q9_66 : (Cond.selects "TrustChainModel$Text" ({ cls := "TrustChainModel$Text", name := "isKnown", desc := "(II)Z" } : MethodName) ({ cls := "TrustChainModel$Text", name := "isKnown", desc := "(II)Z" } : MethodName)) ∈ tb := tb_in (tm_9 (List.mem_of_getElem? (i := 66) rfl)) rfl
theorem q9_67 : (Cond.code ({ cls := "TrustChainModel$Text", name := "isKnown", desc := "(II)Z" } : MethodName) prog_15_method_20_code (3 : Nat) (some FieldType.boolean)) ∈ tb := tb_in (tm_9 (List.mem_of_getElem? (i := 67) rfl)) rfl
theorem q9_68 : (Cond.methodLink "TrustChainModel$Text" (182 : Nat) ({ cls := "TrustChainModel$Text", name := "content", desc := "(II)Z" } : MethodName)) ∈ tb := tb_in (tm_9 (List.mem_of_getElem? (i := 68) rfl)) rfl
theorem q9_69 : (Cond.instanceMethod ({ cls := "TrustChainModel$Text", name := "content", desc := "(II)Z" } : MethodName)) ∈ tb := tb_in (tm_9 (List.mem_of_getElem? (i := 69) rfl)) rfl
theorem q9_70 : (Cond.selects "TrustChainModel$Text" ({ cls := "TrustChainModel$Text", name := "content", desc := "(II)Z" } : MethodName) ({ cls := "TrustChainModel$Text", name := "content", desc := "(II)Z" } : MethodName)) ∈ tb := tb_in (tm_9 (List.mem_of_getElem? (i := 70) rfl)) rfl
theorem q9_71 : (Cond.code ({ cls := "TrustChainModel$Text", name := "content", desc := "(II)Z" } : MethodName) prog_15_method_21_code (4 : Nat) (some FieldType.boolean)) ∈ tb := tb_in (tm_9 (List.mem_of_getElem? (i := 71) rfl)) rfl
theorem q9_72 : (Cond.methodLink "TrustChainModel$Text" (189 : Nat) ({ cls := "TrustChainModel$Text", name := "basic", desc := "(I)Z" } : MethodName)) ∈ tb := tb_in (tm_9 (List.mem_of_getElem? (i := 72) rfl)) rfl
theorem q9_73 : (Cond.instanceMethod ({ cls := "TrustChainModel$Text", name := "basic", desc := "(I)Z" } : MethodName)) ∈ tb := tb_in (tm_9 (List.mem_of_getElem? (i := 73) rfl)) rfl
theorem q9_74 : (Cond.selects "TrustChainModel$Text" ({ cls := "TrustChainModel$Text", name := "basic", desc := "(I)Z" } : MethodName) ({ cls := "TrustChainModel$Text", name := "basic", desc := "(I)Z" } : MethodName)) ∈ tb := tb_in (tm_9 (List.mem_of_getElem? (i := 74) rfl)) rfl
theorem q9_75 : (Cond.code ({ cls := "TrustChainModel$Text", name := "basic", desc := "(I)Z" } : MethodName) prog_15_method_22_code (3 : Nat) (some FieldType.boolean)) ∈ tb := tb_in (tm_9 (List.mem_of_getElem? (i := 75) rfl)) rfl
theorem q9_76 : (Cond.methodLink "TrustChainModel$Text" (192 : Nat) ({ cls := "TrustChainModel$Text", name := "usage", desc := "(I)Z" } : MethodName)) ∈ tb := tb_in (tm_9 (List.mem_of_getElem? (i := 76) rfl)) rfl
theorem q9_77 : (Cond.instanceMethod ({ cls := "TrustChainModel$Text", name := "usage", desc := "(I)Z" } : MethodName)) ∈ tb := tb_in (tm_9 (List.mem_of_getElem? (i := 77) rfl)) rfl
theorem q9_78 : (Cond.selects "TrustChainModel$Text" ({ cls := "TrustChainModel$Text", name := "usage", desc := "(I)Z" } : MethodName) ({ cls := "TrustChainModel$Text", name := "usage", desc := "(I)Z" } : MethodName)) ∈ tb := tb_in (tm_9 (List.mem_of_getElem? (i := 78) rfl)) rfl
theorem q9_79 : (Cond.code ({ cls := "TrustChainModel$Text", name := "usage", desc := "(I)Z" } : MethodName) prog_15_method_23_code (6 : Nat) (some FieldType.boolean)) ∈ tb := tb_in (tm_9 (List.mem_of_getElem? (i := 79) rfl)) rfl
theorem q9_80 : (Cond.methodLink "TrustChainModel$Text" (195 : Nat) ({ cls := "TrustChainModel$Text", name := "names", desc := "(I)Z" } : MethodName)) ∈ tb := tb_in (tm_9 (List.mem_of_getElem? (i := 80) rfl)) rfl
theorem q9_81 : (Cond.instanceMethod ({ cls := "TrustChainModel$Text", name := "names", desc := "(I)Z" } : MethodName)) ∈ tb := tb_in (tm_9 (List.mem_of_getElem? (i := 81) rfl)) rfl
theorem q9_82 : (Cond.selects "TrustChainModel$Text" ({ cls := "TrustChainModel$Text", name := "names", desc := "(I)Z" } : MethodName) ({ cls := "TrustChainModel$Text", name := "names", desc := "(I)Z" } : MethodName)) ∈ tb := tb_in (tm_9 (List.mem_of_getElem? (i := 82) rfl)) rfl
theorem q9_83 : (Cond.code ({ cls := "TrustChainModel$Text", name := "names", desc := "(I)Z" } : MethodName) prog_15_method_25_code (5 : Nat) (some FieldType.boolean)) ∈ tb := tb_in (tm_9 (List.mem_of_getElem? (i := 83) rfl)) rfl
theorem q9_84 : (Cond.methodLink "TrustChainModel$Text" (232 : Nat) ({ cls := "TrustChainModel$Text", name := "visible", desc := "(I)Z" } : MethodName)) ∈ tb := tb_in (tm_9 (List.mem_of_getElem? (i := 84) rfl)) rfl
theorem q9_85 : (Cond.instanceMethod ({ cls := "TrustChainModel$Text", name := "visible", desc := "(I)Z" } : MethodName)) ∈ tb := tb_in (tm_9 (List.mem_of_getElem? (i := 85) rfl)) rfl
theorem q9_86 : (Cond.selects "TrustChainModel$Text" ({ cls := "TrustChainModel$Text", name := "visible", desc := "(I)Z" } : MethodName) ({ cls := "TrustChainModel$Text", name := "visible", desc := "(I)Z" } : MethodName)) ∈ tb := tb_in (tm_9 (List.mem_of_getElem? (i := 86) rfl)) rfl
theorem q9_87 : (Cond.code ({ cls := "TrustChainModel$Text", name := "visible", desc := "(I)Z" } : MethodName) prog_15_method_24_code (4 : Nat) (some FieldType.boolean)) ∈ tb := tb_in (tm_9 (List.mem_of_getElem? (i := 87) rfl)) rfl
theorem q9_88 : (Cond.methodLink "TrustChainModel$Text" (198 : Nat) ({ cls := "TrustChainModel$Text", name := "constraints", desc := "(I)Z" } : MethodName)) ∈ tb := tb_in (tm_9 (List.mem_of_getElem? (i := 88) rfl)) rfl
theorem q9_89 : (Cond.instanceMethod ({ cls := "TrustChainModel$Text", name := "constraints", desc := "(I)Z" } : MethodName)) ∈ tb := tb_in (tm_9 (List.mem_of_getElem? (i := 89) rfl)) rfl
theorem q9_90 : (Cond.selects "TrustChainModel$Text" ({ cls := "TrustChainModel$Text", name := "constraints", desc := "(I)Z" } : MethodName) ({ cls := "TrustChainModel$Text", name := "constraints", desc := "(I)Z" } : MethodName)) ∈ tb := tb_in (tm_9 (List.mem_of_getElem? (i := 90) rfl)) rfl
theorem q9_91 : (Cond.code ({ cls := "TrustChainModel$Text", name := "constraints", desc := "(I)Z" } : MethodName) prog_15_method_26_code (3 : Nat) (some FieldType.boolean)) ∈ tb := tb_in (tm_9 (List.mem_of_getElem? (i := 91) rfl)) rfl
theorem q9_92 : (Cond.methodLink "TrustChainModel$Text" (238 : Nat) ({ cls := "TrustChainModel$Text", name := "trees", desc := "(II)Z" } : MethodName)) ∈ tb := tb_in (tm_9 (List.mem_of_getElem? (i := 92) rfl)) rfl
theorem q9_93 : (Cond.instanceMethod ({ cls := "TrustChainModel$Text", name := "trees", desc := "(II)Z" } : MethodName)) ∈ tb := tb_in (tm_9 (List.mem_of_getElem? (i := 93) rfl)) rfl
theorem q9_94 : (Cond.selects "TrustChainModel$Text" ({ cls := "TrustChainModel$Text", name := "trees", desc := "(II)Z" } : MethodName) ({ cls := "TrustChainModel$Text", name := "trees", desc := "(II)Z" } : MethodName)) ∈ tb := tb_in (tm_9 (List.mem_of_getElem? (i := 94) rfl)) rfl
theorem q9_95 : (Cond.code ({ cls := "TrustChainModel$Text", name := "trees", desc := "(II)Z" } : MethodName) prog_15_method_27_code (7 : Nat) (some FieldType.boolean)) ∈ tb := tb_in (tm_9 (List.mem_of_getElem? (i := 95) rfl)) rfl
theorem q9_96 : (Cond.methodLink "TrustChainModel$Text" (185 : Nat) ({ cls := "TrustChainModel$Text", name := "same", desc := "(IILTrustChainModel$Text;II)Z" } : MethodName)) ∈ tb := tb_in (tm_9 (List.mem_of_getElem? (i := 96) rfl)) rfl
theorem q9_97 : (Cond.instanceMethod ({ cls := "TrustChainModel$Text", name := "same", desc := "(IILTrustChainModel$Text;II)Z" } : MethodName)) ∈ tb := tb_in (tm_9 (List.mem_of_getElem? (i := 97) rfl)) rfl
theorem q9_98 : (Cond.selects "TrustChainModel$Text" ({ cls := "TrustChainModel$Text", name := "same", desc := "(IILTrustChainModel$Text;II)Z" } : MethodName) ({ cls := "TrustChainModel$Text", name := "same", desc := "(IILTrustChainModel$Text;II)Z" } : MethodName)) ∈ tb := tb_in (tm_9 (List.mem_of_getElem? (i := 98) rfl)) rfl
theorem q9_99 : (Cond.code ({ cls := "TrustChainModel$Text", name := "same", desc := "(IILTrustChainModel$Text;II)Z" } : MethodName) prog_15_method_32_code (7 : Nat) (some FieldType.boolean)) ∈ tb := tb_in (tm_9 (List.mem_of_getElem? (i := 99) rfl)) rfl
theorem q9_100 : (Cond.methodLink "TrustChainModel$Text" (261 : Nat) ({ cls := "TrustChainModel$Text", name := "certificate", desc := "(I)Z" } : MethodName)) ∈ tb := tb_in (tm_9 (List.mem_of_getElem? (i := 100) rfl)) rfl
theorem q9_101 : (Cond.instanceMethod ({ cls := "TrustChainModel$Text", name := "certificate", desc := "(I)Z" } : MethodName)) ∈ tb := tb_in (tm_9 (List.mem_of_getElem? (i := 101) rfl)) rfl
theorem q9_102 : (Cond.selects "TrustChainModel$Text" ({ cls := "TrustChainModel$Text", name := "certificate", desc := "(I)Z" } : MethodName) ({ cls := "TrustChainModel$Text", name := "certificate", desc := "(I)Z" } : MethodName)) ∈ tb := tb_in (tm_9 (List.mem_of_getElem? (i := 102) rfl)) rfl
theorem q9_103 : (Cond.code ({ cls := "TrustChainModel$Text", name := "certificate", desc := "(I)Z" } : MethodName) prog_15_method_29_code (4 : Nat) (some FieldType.boolean)) ∈ tb := tb_in (tm_9 (List.mem_of_getElem? (i := 103) rfl)) rfl
theorem q9_104 : (Cond.stringRef "TrustChainModel$Text" (307 : Nat) "2A864886F70D010101") ∈ lw_tbl := tm_9 (List.mem_of_getElem? (i := 104) rfl)
theorem q9_105 : (Cond.methodLink "TrustChainModel$Text" (269 : Nat) ({ cls := "TrustChainModel$Text", name := "bits", desc := "(I)Z" } : MethodName)) ∈ tb := tb_in (tm_9 (List.mem_of_getElem? (i := 105) rfl)) rfl
theorem q9_106 : (Cond.instanceMethod ({ cls := "TrustChainModel$Text", name := "bits", desc := "(I)Z" } : MethodName)) ∈ tb := tb_in (tm_9 (List.mem_of_getElem? (i := 106) rfl)) rfl
theorem q9_107 : (Cond.selects "TrustChainModel$Text" ({ cls := "TrustChainModel$Text", name := "bits", desc := "(I)Z" } : MethodName) ({ cls := "TrustChainModel$Text", name := "bits", desc := "(I)Z" } : MethodName)) ∈ tb := tb_in (tm_9 (List.mem_of_getElem? (i := 107) rfl)) rfl
theorem q9_108 : (Cond.code ({ cls := "TrustChainModel$Text", name := "bits", desc := "(I)Z" } : MethodName) prog_15_method_17_code (2 : Nat) (some FieldType.boolean)) ∈ tb := tb_in (tm_9 (List.mem_of_getElem? (i := 108) rfl)) rfl
theorem q9_109 : (Cond.methodLink "TrustChainModel$Text" (309 : Nat) ({ cls := "TrustChainModel$Text", name := "key", desc := "(I)Z" } : MethodName)) ∈ tb := tb_in (tm_9 (List.mem_of_getElem? (i := 109) rfl)) rfl
theorem q9_110 : (Cond.instanceMethod ({ cls := "TrustChainModel$Text", name := "key", desc := "(I)Z" } : MethodName)) ∈ tb := tb_in (tm_9 (List.mem_of_getElem? (i := 110) rfl)) rfl
theorem q9_111 : (Cond.selects "TrustChainModel$Text" ({ cls := "TrustChainModel$Text", name := "key", desc := "(I)Z" } : MethodName) ({ cls := "TrustChainModel$Text", name := "key", desc := "(I)Z" } : MethodName)) ∈ tb := tb_in (tm_9 (List.mem_of_getElem? (i := 111) rfl)) rfl
theorem q9_112 : (Cond.code ({ cls := "TrustChainModel$Text", name := "key", desc := "(I)Z" } : MethodName) prog_15_method_18_code (10 : Nat) (some FieldType.boolean)) ∈ tb := tb_in (tm_9 (List.mem_of_getElem? (i := 112) rfl)) rfl
theorem q9_113 : (Cond.constantLong "TrustChainModel$Text" (162 : Nat) (1099511627776 : Int64)) ∈ tb := tb_in (tm_9 (List.mem_of_getElem? (i := 113) rfl)) rfl
theorem q9_114 : (Cond.constantLong "TrustChainModel$Text" (164 : Nat) (2 : Int64)) ∈ tb := tb_in (tm_9 (List.mem_of_getElem? (i := 114) rfl)) rfl
theorem q9_115 : (Cond.constantLong "TrustChainModel$Text" (166 : Nat) (3 : Int64)) ∈ tb := tb_in (tm_9 (List.mem_of_getElem? (i := 115) rfl)) rfl
theorem q9_116 : (Cond.constantLong "TrustChainModel$Text" (168 : Nat) (2147483647 : Int64)) ∈ tb := tb_in (tm_9 (List.mem_of_getElem? (i := 116) rfl)) rfl
theorem q9_117 : (Cond.methodLink "TrustChainLaw" (79 : Nat) ({ cls := "TrustChainModel", name := "list", desc := "(I)I" } : MethodName)) ∈ tb := tb_in (tm_9 (List.mem_of_getElem? (i := 117) rfl)) rfl
theorem q9_118 : (Cond.instanceMethod ({ cls := "TrustChainModel", name := "list", desc := "(I)I" } : MethodName)) ∈ tb := tb_in (tm_9 (List.mem_of_getElem? (i := 118) rfl)) rfl
theorem q9_119 : (Cond.selects "TrustChainModel" ({ cls := "TrustChainModel", name := "list", desc := "(I)I" } : MethodName) ({ cls := "TrustChainModel", name := "list", desc := "(I)I" } : MethodName)) ∈ tb := tb_in (tm_9 (List.mem_of_getElem? (i := 119) rfl)) rfl
theorem q9_120 : (Cond.code ({ cls := "TrustChainModel", name := "list", desc := "(I)I" } : MethodName) prog_14_method_17_code (3 : Nat) (some FieldType.int)) ∈ tb := tb_in (tm_9 (List.mem_of_getElem? (i := 120) rfl)) rfl
theorem q9_121 : (Cond.methodLink "TrustChainLaw" (83 : Nat) ({ cls := "TrustChainModel", name := "wrong", desc := "()I" } : MethodName)) ∈ tb := tb_in (tm_9 (List.mem_of_getElem? (i := 121) rfl)) rfl
theorem q9_122 : (Cond.instanceMethod ({ cls := "TrustChainModel", name := "wrong", desc := "()I" } : MethodName)) ∈ tb := tb_in (tm_9 (List.mem_of_getElem? (i := 122) rfl)) rfl
theorem q9_123 : (Cond.selects "TrustChainModel" ({ cls := "TrustChainModel", name := "wrong", desc := "()I" } : MethodName) ({ cls := "TrustChainModel", name := "wrong", desc := "()I" } : MethodName)) ∈ tb := tb_in (tm_9 (List.mem_of_getElem? (i := 123) rfl)) rfl
theorem q9_124 : (Cond.code ({ cls := "TrustChainModel", name := "wrong", desc := "()I" } : MethodName) prog_14_method_18_code (1 : Nat) (some FieldType.int)) ∈ tb := tb_in (tm_9 (List.mem_of_getElem? (i := 124) rfl)) rfl
theorem q9_125 : (Cond.methodLink "TrustChainLaw" (86 : Nat) ({ cls := "TrustChainModel", name := "trust", desc := "(IZ)Z" } : MethodName)) ∈ tb := tb_in (tm_9 (List.mem_of_getElem? (i := 125) rfl)) rfl
theorem q9_126 : (Cond.instanceMethod ({ cls := "TrustChainModel", name := "trust", desc := "(IZ)Z" } : MethodName)) ∈ tb := tb_in (tm_9 (List.mem_of_getElem? (i := 126) rfl)) rfl
theorem q9_127 : (Cond.selects "TrustChainModel" ({ cls := "TrustChainModel", name := "trust", desc := "(IZ)Z" } : MethodName) ({ cls := "TrustChainModel", name := "trust", desc := "(IZ)Z" } : MethodName)) ∈ tb := tb_in (tm_9 (List.mem_of_getElem? (i := 127) rfl)) rfl
theorem q9_128 : (Cond.code ({ cls := "TrustChainModel", name := "trust", desc := "(IZ)Z" } : MethodName) prog_14_method_20_code (4 : Nat) (some FieldType.boolean)) ∈ tb := tb_in (tm_9 (List.mem_of_getElem? (i := 128) rfl)) rfl
theorem q9_129 : (Cond.methodLink "TrustChainModel" (209 : Nat) ({ cls := "TrustChainModel", name := "noCertificate", desc := "(II)Z" } : MethodName)) ∈ tb := tb_in (tm_9 (List.mem_of_getElem? (i := 129) rfl)) rfl
theorem q9_130 : (Cond.privateMethod ({ cls := "TrustChainModel", name := "noCertificate", desc := "(II)Z" } : MethodName)) ∈ lw_tbl := tm_9 (List.mem_of_getElem? (i := 130) rfl)
theorem q9_131 : (Cond.instanceMethod ({ cls := "TrustChainModel", name := "noCertificate", desc := "(II)Z" } : MethodName)) ∈ tb := tb_in (tm_9 (List.mem_of_getElem? (i := 131) rfl)) rfl
theorem q9_132 : (Cond.code ({ cls := "TrustChainModel", name := "noCertificate", desc := "(II)Z" } : MethodName) prog_14_method_19_code (3 : Nat) (some FieldType.boolean)) ∈ tb := tb_in (tm_9 (List.mem_of_getElem? (i := 132) rfl)) rfl
theorem q9_133 : (Cond.methodLink "TrustChainModel" (205 : Nat) ({ cls := "TrustChainModel", name := "in", desc := "(III)Z" } : MethodName)) ∈ tb := tb_in (tm_9 (List.mem_of_getElem? (i := 133) rfl)) rfl
theorem q9_134 : (Cond.methodLink "TrustChainLaw" (90 : Nat) ({ cls := "TrustChainModel", name := "part", desc := "(II)J" } : MethodName)) ∈ tb := tb_in (tm_9 (List.mem_of_getElem? (i := 134) rfl)) rfl
theorem q9_135 : (Cond.instanceMethod ({ cls := "TrustChainModel", name := "part", desc := "(II)J" } : MethodName)) ∈ tb := tb_in (tm_9 (List.mem_of_getElem? (i := 135) rfl)) rfl
theorem q9_136 : (Cond.selects "TrustChainModel" ({ cls := "TrustChainModel", name := "part", desc := "(II)J" } : MethodName) ({ cls := "TrustChainModel", name := "part", desc := "(II)J" } : MethodName)) ∈ tb := tb_in (tm_9 (List.mem_of_getElem? (i := 136) rfl)) rfl
theorem q9_137 : (Cond.code ({ cls := "TrustChainModel", name := "part", desc := "(II)J" } : MethodName) prog_14_method_21_code (6 : Nat) (some FieldType.long)) ∈ tb := tb_in (tm_9 (List.mem_of_getElem? (i := 137) rfl)) rfl
theorem q9_138 : (Cond.methodLink "TrustChainLaw" (93 : Nat) ({ cls := "TrustChainModel", name := "listPart", desc := "(II)J" } : MethodName)) ∈ tb := tb_in (tm_9 (List.mem_of_getElem? (i := 138) rfl)) rfl
theorem q9_139 : (Cond.instanceMethod ({ cls := "TrustChainModel", name := "listPart", desc := "(II)J" } : MethodName)) ∈ tb := tb_in (tm_9 (List.mem_of_getElem? (i := 139) rfl)) rfl
theorem q9_140 : (Cond.selects "TrustChainModel" ({ cls := "TrustChainModel", name := "listPart", desc := "(II)J" } : MethodName) ({ cls := "TrustChainModel", name := "listPart", desc := "(II)J" } : MethodName)) ∈ tb := tb_in (tm_9 (List.mem_of_getElem? (i := 140) rfl)) rfl
theorem q9_141 : (Cond.code ({ cls := "TrustChainModel", name := "listPart", desc := "(II)J" } : MethodName) prog_14_method_22_code (4 : Nat) (some FieldType.long)) ∈ tb := tb_in (tm_9 (List.mem_of_getElem? (i := 141) rfl)) rfl
theorem q9_142 : (Cond.methodLink "TrustChainLaw" (100 : Nat) ({ cls := "TrustChainModel", name := "digest", desc := "(II)I" } : MethodName)) ∈ tb := tb_in (tm_9 (List.mem_of_getElem? (i := 142) rfl)) rfl
theorem q9_143 : (Cond.instanceMethod ({ cls := "TrustChainModel", name := "digest", desc := "(II)I" } : MethodName)) ∈ tb := tb_in (tm_9 (List.mem_of_getElem? (i := 143) rfl)) rfl
theorem q9_144 : (Cond.selects "TrustChainModel" ({ cls := "TrustChainModel", name := "digest", desc := "(II)I" } : MethodName) ({ cls := "TrustChainModel", name := "digest", desc := "(II)I" } : MethodName)) ∈ tb := tb_in (tm_9 (List.mem_of_getElem? (i := 144) rfl)) rfl
theorem q9_145 : (Cond.code ({ cls := "TrustChainModel", name := "digest", desc := "(II)I" } : MethodName) prog_14_method_26_code (3 : Nat) (some FieldType.int)) ∈ tb := tb_in (tm_9 (List.mem_of_getElem? (i := 145) rfl)) rfl
theorem q9_146 : (Cond.methodLink "TrustChainModel" (272 : Nat) ({ cls := "TrustChainModel", name := "digest", desc := "(LTrustChainModel$Text;)V" } : MethodName)) ∈ tb := tb_in (tm_9 (List.mem_of_getElem? (i := 146) rfl)) rfl
theorem q9_147 : (Cond.privateMethod ({ cls := "TrustChainModel", name := "digest", desc := "(LTrustChainModel$Text;)V" } : MethodName)) ∈ lw_tbl := tm_9 (List.mem_of_getElem? (i := 147) rfl)
theorem q9_148 : (Cond.instanceMethod ({ cls := "TrustChainModel", name := "digest", desc := "(LTrustChainModel$Text;)V" } : MethodName)) ∈ tb := tb_in (tm_9 (List.mem_of_getElem? (i := 148) rfl)) rfl
theorem q9_149 : (Cond.code ({ cls := "TrustChainModel", name := "digest", desc := "(LTrustChainModel$Text;)V" } : MethodName) prog_14_method_23_code (5 : Nat) none) ∈ tb := tb_in (tm_9 (List.mem_of_getElem? (i := 149) rfl)) rfl
theorem q9_150 : (Cond.methodLink "TrustChainModel" (264 : Nat) ({ cls := "TrustChainModel", name := "compress", desc := "(I)V" } : MethodName)) ∈ tb := tb_in (tm_9 (List.mem_of_getElem? (i := 150) rfl)) rfl
theorem q9_151 : (Cond.privateMethod ({ cls := "TrustChainModel", name := "compress", desc := "(I)V" } : MethodName)) ∈ lw_tbl := tm_9 (List.mem_of_getElem? (i := 151) rfl)
theorem q9_152 : (Cond.instanceMethod ({ cls := "TrustChainModel", name := "compress", desc := "(I)V" } : MethodName)) ∈ tb := tb_in (tm_9 (List.mem_of_getElem? (i := 152) rfl)) rfl
theorem q9_153 : (Cond.code ({ cls := "TrustChainModel", name := "compress", desc := "(I)V" } : MethodName) prog_14_method_25_code (13 : Nat) none) ∈ tb := tb_in (tm_9 (List.mem_of_getElem? (i := 153) rfl)) rfl
theorem q9_154 : (Cond.methodLink "TrustChainModel" (268 : Nat) ({ cls := "TrustChainModel", name := "turn", desc := "(II)I" } : MethodName)) ∈ tb := tb_in (tm_9 (List.mem_of_getElem? (i := 154) rfl)) rfl
theorem q9_155 : (Cond.static ({ cls := "TrustChainModel", name := "turn", desc := "(II)I" } : MethodName)) ∈ tb := tb_in (tm_9 (List.mem_of_getElem? (i := 155) rfl)) rfl
theorem q9_156 : (Cond.code ({ cls := "TrustChainModel", name := "turn", desc := "(II)I" } : MethodName) prog_14_method_24_code (2 : Nat) (some FieldType.int)) ∈ tb := tb_in (tm_9 (List.mem_of_getElem? (i := 156) rfl)) rfl
theorem q9_157 : (Cond.methodLink "TrustChainLaw" (97 : Nat) ({ cls := "TrustChainModel", name := "signed", desc := "(ZII)Z" } : MethodName)) ∈ tb := tb_in (tm_9 (List.mem_of_getElem? (i := 157) rfl)) rfl
theorem q9_158 : (Cond.instanceMethod ({ cls := "TrustChainModel", name := "signed", desc := "(ZII)Z" } : MethodName)) ∈ tb := tb_in (tm_9 (List.mem_of_getElem? (i := 158) rfl)) rfl
theorem q9_159 : (Cond.selects "TrustChainModel" ({ cls := "TrustChainModel", name := "signed", desc := "(ZII)Z" } : MethodName) ({ cls := "TrustChainModel", name := "signed", desc := "(ZII)Z" } : MethodName)) ∈ tb := tb_in (tm_9 (List.mem_of_getElem? (i := 159) rfl)) rfl
theorem q9_160 : (Cond.code ({ cls := "TrustChainModel", name := "signed", desc := "(ZII)Z" } : MethodName) prog_14_method_30_code (4 : Nat) (some FieldType.boolean)) ∈ tb := tb_in (tm_9 (List.mem_of_getElem? (i := 160) rfl)) rfl
theorem q9_161 : (Cond.methodLink "TrustChainModel" (308 : Nat) ({ cls := "TrustChainModel", name := "isSigned", desc := "(LTrustChainModel$Text;LTrustChainModel$Text;)Z" } : MethodName)) ∈ tb := tb_in (tm_9 (List.mem_of_getElem? (i := 161) rfl)) rfl
theorem q9_162 : (Cond.privateMethod ({ cls := "TrustChainModel", name := "isSigned", desc := "(LTrustChainModel$Text;LTrustChainModel$Text;)Z" } : MethodName)) ∈ lw_tbl := tm_9 (List.mem_of_getElem? (i := 162) rfl)
theorem q9_163 : (Cond.instanceMethod ({ cls := "TrustChainModel", name := "isSigned", desc := "(LTrustChainModel$Text;LTrustChainModel$Text;)Z" } : MethodName)) ∈ tb := tb_in (tm_9 (List.mem_of_getElem? (i := 163) rfl)) rfl
theorem q9_164 : (Cond.code ({ cls := "TrustChainModel", name := "isSigned", desc := "(LTrustChainModel$Text;LTrustChainModel$Text;)Z" } : MethodName) prog_14_method_28_code (14 : Nat) (some FieldType.boolean)) ∈ tb := tb_in (tm_9 (List.mem_of_getElem? (i := 164) rfl)) rfl
theorem q9_165 : (Cond.methodLink "TrustChainModel" (282 : Nat) ({ cls := "TrustChainModel", name := "limbs", desc := "(LTrustChainModel$Text;II[I)I" } : MethodName)) ∈ tb := tb_in (tm_9 (List.mem_of_getElem? (i := 165) rfl)) rfl
theorem q9_166 : (Cond.static ({ cls := "TrustChainModel", name := "limbs", desc := "(LTrustChainModel$Text;II[I)I" } : MethodName)) ∈ tb := tb_in (tm_9 (List.mem_of_getElem? (i := 166) rfl)) rfl
theorem q9_167 : (Cond.code ({ cls := "TrustChainModel", name := "limbs", desc := "(LTrustChainModel$Text;II[I)I" } : MethodName) prog_14_method_27_code (6 : Nat) (some FieldType.int)) ∈ tb := tb_in (tm_9 (List.mem_of_getElem? (i := 167) rfl)) rfl
theorem q9_168 : (Cond.methodLink "TrustChainModel" (149 : Nat) ({ cls := "TrustChainModel", name := "trim", desc := "([II)I" } : MethodName)) ∈ tb := tb_in (tm_9 (List.mem_of_getElem? (i := 168) rfl)) rfl
theorem q9_169 : (Cond.static ({ cls := "TrustChainModel", name := "trim", desc := "([II)I" } : MethodName)) ∈ tb := tb_in (tm_9 (List.mem_of_getElem? (i := 169) rfl)) rfl
theorem q9_170 : (Cond.code ({ cls := "TrustChainModel", name := "trim", desc := "([II)I" } : MethodName) prog_14_method_6_code (3 : Nat) (some FieldType.int)) ∈ tb := tb_in (tm_9 (List.mem_of_getElem? (i := 170) rfl)) rfl
theorem q9_171 : (Cond.methodLink "TrustChainModel" (155 : Nat) ({ cls := "TrustChainModel", name := "compared", desc := "([II[II)I" } : MethodName)) ∈ tb := tb_in (tm_9 (List.mem_of_getElem? (i := 171) rfl)) rfl
theorem q9_172 : (Cond.static ({ cls := "TrustChainModel", name := "compared", desc := "([II[II)I" } : MethodName)) ∈ tb := tb_in (tm_9 (List.mem_of_getElem? (i := 172) rfl)) rfl
theorem q9_173 : (Cond.code ({ cls := "TrustChainModel", name := "compared", desc := "([II[II)I" } : MethodName) prog_14_method_3_code (5 : Nat) (some FieldType.int)) ∈ tb := tb_in (tm_9 (List.mem_of_getElem? (i := 173) rfl)) rfl
theorem q9_174 : (Cond.methodLink "TrustChainModel" (286 : Nat) ({ cls := "java/lang/Integer", name := "numberOfLeadingZeros", desc := "(I)I" } : MethodName)) ∈ tb := tb_in (tm_9 (List.mem_of_getElem? (i := 174) rfl)) rfl
theorem q9_175 : (Cond.static ({ cls := "java/lang/Integer", name := "numberOfLeadingZeros", desc := "(I)I" } : MethodName)) ∈ tb := tb_in (tm_9 (List.mem_of_getElem? (i := 175) rfl)) rfl
theorem q9_176 : (Cond.code ({ cls := "java/lang/Integer", name := "numberOfLeadingZeros", desc := "(I)I" } : MethodName) prog_22_method_47_code (2 : Nat) (some FieldType.int)) ∈ tb := tb_in (tm_9 (List.mem_of_getElem? (i := 176) rfl)) rfl
theorem q9_177 : (Cond.constant "java/lang/Integer" (264 : Nat) (65536 : Int32)) ∈ tb := tb_in (tm_9 (List.mem_of_getElem? (i := 177) rfl)) rfl
theorem q9_178 : (Cond.methodLink "TrustChainModel" (292 : Nat) ({ cls := "TrustChainModel", name := "reduced", desc := "([II[III)I" } : MethodName)) ∈ tb := tb_in (tm_9 (List.mem_of_getElem? (i := 178) rfl)) rfl
theorem q9_179 : (Cond.privateMethod ({ cls := "TrustChainModel", name := "reduced", desc := "([II[III)I" } : MethodName)) ∈ lw_tbl := tm_9 (List.mem_of_getElem? (i := 179) rfl)
theorem q9_180 : (Cond.instanceMethod ({ cls := "TrustChainModel", name := "reduced", desc := "([II[III)I" } : MethodName)) ∈ tb := tb_in (tm_9 (List.mem_of_getElem? (i := 180) rfl)) rfl
theorem q9_181 : (Cond.code ({ cls := "TrustChainModel", name := "reduced", desc := "([II[III)I" } : MethodName) prog_14_method_29_code (8 : Nat) (some FieldType.int)) ∈ tb := tb_in (tm_9 (List.mem_of_getElem? (i := 181) rfl)) rfl
theorem q9_182 : (Cond.methodLink "TrustChainModel" (301 : Nat) ({ cls := "TrustChainModel", name := "times", desc := "([II[II[I)I" } : MethodName)) ∈ tb := tb_in (tm_9 (List.mem_of_getElem? (i := 182) rfl)) rfl
theorem q9_183 : (Cond.static ({ cls := "TrustChainModel", name := "times", desc := "([II[II[I)I" } : MethodName)) ∈ tb := tb_in (tm_9 (List.mem_of_getElem? (i := 183) rfl)) rfl
theorem q9_184 : (Cond.code ({ cls := "TrustChainModel", name := "times", desc := "([II[II[I)I" } : MethodName) prog_14_method_7_code (9 : Nat) (some FieldType.int)) ∈ tb := tb_in (tm_9 (List.mem_of_getElem? (i := 184) rfl)) rfl
theorem q9_185 : (Cond.constantLong "TrustChainModel" (153 : Nat) (65535 : Int64)) ∈ tb := tb_in (tm_9 (List.mem_of_getElem? (i := 185) rfl)) rfl
theorem q9_186 : (Cond.methodLink "TrustChainModel" (305 : Nat) ({ cls := "TrustChainModel", name := "divided", desc := "([II[II[I)I" } : MethodName)) ∈ tb := tb_in (tm_9 (List.mem_of_getElem? (i := 186) rfl)) rfl
theorem q9_187 : (Cond.privateMethod ({ cls := "TrustChainModel", name := "divided", desc := "([II[II[I)I" } : MethodName)) ∈ lw_tbl := tm_9 (List.mem_of_getElem? (i := 187) rfl)
theorem q9_188 : (Cond.instanceMethod ({ cls := "TrustChainModel", name := "divided", desc := "([II[II[I)I" } : MethodName)) ∈ tb := tb_in (tm_9 (List.mem_of_getElem? (i := 188) rfl)) rfl
theorem q9_189 : (Cond.code ({ cls := "TrustChainModel", name := "divided", desc := "([II[II[I)I" } : MethodName) prog_14_method_8_code (18 : Nat) (some FieldType.int)) ∈ tb := tb_in (tm_9 (List.mem_of_getElem? (i := 189) rfl)) rfl
theorem q9_190 : (Cond.constant "TrustChainModel" (162 : Nat) (32768 : Int32)) ∈ tb := tb_in (tm_9 (List.mem_of_getElem? (i := 190) rfl)) rfl
theorem q9_191 : (Cond.constant "TrustChainModel" (148 : Nat) (65535 : Int32)) ∈ tb := tb_in (tm_9 (List.mem_of_getElem? (i := 191) rfl)) rfl
theorem q9_192 : (Cond.stringRef "TrustChainModel" (296 : Nat) "3031300D060960864801650304020105000420") ∈ lw_tbl := tm_9 (List.mem_of_getElem? (i := 192) rfl)
theorem q9_193 : (Cond.methodLink "TrustChainModel" (298 : Nat) ({ cls := "TrustChainModel", name := "hexOf", desc := "(I)I" } : MethodName)) ∈ tb := tb_in (tm_9 (List.mem_of_getElem? (i := 193) rfl)) rfl
theorem q9_194 : (Cond.methodLink "TrustChainLaw" (106 : Nat) ({ cls := "TrustChainModel", name := "validate", desc := "(IJIZ)I" } : MethodName)) ∈ tb := tb_in (tm_9 (List.mem_of_getElem? (i := 194) rfl)) rfl
theorem q9_195 : (Cond.instanceMethod ({ cls := "TrustChainModel", name := "validate", desc := "(IJIZ)I" } : MethodName)) ∈ tb := tb_in (tm_9 (List.mem_of_getElem? (i := 195) rfl)) rfl
theorem q9_196 : (Cond.selects "TrustChainModel" ({ cls := "TrustChainModel", name := "validate", desc := "(IJIZ)I" } : MethodName) ({ cls := "TrustChainModel", name := "validate", desc := "(IJIZ)I" } : MethodName)) ∈ tb := tb_in (tm_9 (List.mem_of_getElem? (i := 196) rfl)) rfl
theorem q9_197 : (Cond.code ({ cls := "TrustChainModel", name := "validate", desc := "(IJIZ)I" } : MethodName) prog_14_method_31_code (6 : Nat) (some FieldType.int)) ∈ tb := tb_in (tm_9 (List.mem_of_getElem? (i := 197) rfl)) rfl
theorem q9_198 : (Cond.methodLink "TrustChainModel" (336 : Nat) ({ cls := "TrustChainModel", name := "goOn", desc := "()Z" } : MethodName)) ∈ tb := tb_in (tm_9 (List.mem_of_getElem? (i := 198) rfl)) rfl
theorem q9_199 : (Cond.privateMethod ({ cls := "TrustChainModel", name := "goOn", desc := "()Z" } : MethodName)) ∈ lw_tbl := tm_9 (List.mem_of_getElem? (i := 199) rfl)
theorem q9_200 : (Cond.instanceMethod ({ cls := "TrustChainModel", name := "goOn", desc := "()Z" } : MethodName)) ∈ tb := tb_in (tm_9 (List.mem_of_getElem? (i := 200) rfl)) rfl
theorem q9_201 : (Cond.code ({ cls := "TrustChainModel", name := "goOn", desc := "()Z" } : MethodName) prog_14_method_32_code (4 : Nat) (some FieldType.boolean)) ∈ tb := tb_in (tm_9 (List.mem_of_getElem? (i := 201) rfl)) rfl
theorem q9_202 : (Cond.methodLink "TrustChainModel" (340 : Nat) ({ cls := "TrustChainModel", name := "judged", desc := "()Z" } : MethodName)) ∈ tb := tb_in (tm_9 (List.mem_of_getElem? (i := 202) rfl)) rfl
theorem q9_203 : (Cond.privateMethod ({ cls := "TrustChainModel", name := "judged", desc := "()Z" } : MethodName)) ∈ lw_tbl := tm_9 (List.mem_of_getElem? (i := 203) rfl)
theorem q9_204 : (Cond.instanceMethod ({ cls := "TrustChainModel", name := "judged", desc := "()Z" } : MethodName)) ∈ tb := tb_in (tm_9 (List.mem_of_getElem? (i := 204) rfl)) rfl
theorem q9_205 : (Cond.code ({ cls := "TrustChainModel", name := "judged", desc := "()Z" } : MethodName) prog_14_method_34_code (4 : Nat) (some FieldType.boolean)) ∈ tb := tb_in (tm_9 (List.mem_of_getElem? (i := 205) rfl)) rfl
theorem q9_206 : (Cond.methodLink "TrustChainModel" (375 : Nat) ({ cls := "TrustChainModel", name := "faultOf", desc := "(I)I" } : MethodName)) ∈ tb := tb_in (tm_9 (List.mem_of_getElem? (i := 206) rfl)) rfl
theorem q9_207 : (Cond.privateMethod ({ cls := "TrustChainModel", name := "faultOf", desc := "(I)I" } : MethodName)) ∈ lw_tbl := tm_9 (List.mem_of_getElem? (i := 207) rfl)
theorem q9_208 : (Cond.instanceMethod ({ cls := "TrustChainModel", name := "faultOf", desc := "(I)I" } : MethodName)) ∈ tb := tb_in (tm_9 (List.mem_of_getElem? (i := 208) rfl)) rfl
theorem q9_209 : (Cond.code ({ cls := "TrustChainModel", name := "faultOf", desc := "(I)I" } : MethodName) prog_14_method_35_code (9 : Nat) (some FieldType.int)) ∈ tb := tb_in (tm_9 (List.mem_of_getElem? (i := 209) rfl)) rfl
theorem q9_210 : (Cond.methodLink "TrustChainModel" (359 : Nat) ({ cls := "TrustChainModel$Text", name := "same", desc := "(IILTrustChainModel$Text;II)Z" } : MethodName)) ∈ tb := tb_in (tm_9 (List.mem_of_getElem? (i := 210) rfl)) rfl
theorem q9_211 : (Cond.methodLink "TrustChainModel" (384 : Nat) ({ cls := "TrustChainModel$Text", name := "isOwn", desc := "()Z" } : MethodName)) ∈ tb := tb_in (tm_9 (List.mem_of_getElem? (i := 211) rfl)) rfl
theorem q9_212 : (Cond.instanceMethod ({ cls := "TrustChainModel$Text", name := "isOwn", desc := "()Z" } : MethodName)) ∈ tb := tb_in (tm_9 (List.mem_of_getElem? (i := 212) rfl)) rfl
theorem q9_213 : (Cond.selects "TrustChainModel$Text" ({ cls := "TrustChainModel$Text", name := "isOwn", desc := "()Z" } : MethodName) ({ cls := "TrustChainModel$Text", name := "isOwn", desc := "()Z" } : MethodName)) ∈ tb := tb_in (tm_9 (List.mem_of_getElem? (i := 213) rfl)) rfl
theorem q9_214 : (Cond.code ({ cls := "TrustChainModel$Text", name := "isOwn", desc := "()Z" } : MethodName) prog_15_method_33_code (1 : Nat) (some FieldType.boolean)) ∈ tb := tb_in (tm_9 (List.mem_of_getElem? (i := 214) rfl)) rfl
theorem q9_215 : (Cond.methodLink "TrustChainModel" (387 : Nat) ({ cls := "TrustChainModel", name := "namesMayBe", desc := "(LTrustChainModel$Text;I)Z" } : MethodName)) ∈ tb := tb_in (tm_9 (List.mem_of_getElem? (i := 215) rfl)) rfl
theorem q9_216 : (Cond.privateMethod ({ cls := "TrustChainModel", name := "namesMayBe", desc := "(LTrustChainModel$Text;I)Z" } : MethodName)) ∈ lw_tbl := tm_9 (List.mem_of_getElem? (i := 216) rfl)
theorem q9_217 : (Cond.instanceMethod ({ cls := "TrustChainModel", name := "namesMayBe", desc := "(LTrustChainModel$Text;I)Z" } : MethodName)) ∈ tb := tb_in (tm_9 (List.mem_of_getElem? (i := 217) rfl)) rfl
theorem q9_218 : (Cond.code ({ cls := "TrustChainModel", name := "namesMayBe", desc := "(LTrustChainModel$Text;I)Z" } : MethodName) prog_14_method_36_code (6 : Nat) (some FieldType.boolean)) ∈ tb := tb_in (tm_9 (List.mem_of_getElem? (i := 218) rfl)) rfl
theorem q9_219 : (Cond.methodLink "TrustChainModel" (390 : Nat) ({ cls := "TrustChainModel", name := "mayBe", desc := "(LTrustChainModel$Text;LTrustChainModel$Text;III)Z" } : MethodName)) ∈ tb := tb_in (tm_9 (List.mem_of_getElem? (i := 219) rfl)) rfl
theorem q9_220 : (Cond.privateMethod ({ cls := "TrustChainModel", name := "mayBe", desc := "(LTrustChainModel$Text;LTrustChainModel$Text;III)Z" } : MethodName)) ∈ lw_tbl := tm_9 (List.mem_of_getElem? (i := 220) rfl)
theorem q9_221 : (Cond.instanceMethod ({ cls := "TrustChainModel", name := "mayBe", desc := "(LTrustChainModel$Text;LTrustChainModel$Text;III)Z" } : MethodName)) ∈ tb := tb_in (tm_9 (List.mem_of_getElem? (i := 221) rfl)) rfl
theorem q9_222 : (Cond.code ({ cls := "TrustChainModel", name := "mayBe", desc := "(LTrustChainModel$Text;LTrustChainModel$Text;III)Z" } : MethodName) prog_14_method_37_code (10 : Nat) (some FieldType.boolean)) ∈ tb := tb_in (tm_9 (List.mem_of_getElem? (i := 222) rfl)) rfl
theorem q9_223 : (Cond.methodLink "TrustChainModel" (421 : Nat) ({ cls := "TrustChainModel", name := "begins", desc := "(LTrustChainModel$Text;IILTrustChainModel$Text;II)Z" } : MethodName)) ∈ tb := tb_in (tm_9 (List.mem_of_getElem? (i := 223) rfl)) rfl
theorem q9_224 : (Cond.static ({ cls := "TrustChainModel", name := "begins", desc := "(LTrustChainModel$Text;IILTrustChainModel$Text;II)Z" } : MethodName)) ∈ tb := tb_in (tm_9 (List.mem_of_getElem? (i := 224) rfl)) rfl
theorem q9_225 : (Cond.code ({ cls := "TrustChainModel", name := "begins", desc := "(LTrustChainModel$Text;IILTrustChainModel$Text;II)Z" } : MethodName) prog_14_method_39_code (9 : Nat) (some FieldType.boolean)) ∈ tb := tb_in (tm_9 (List.mem_of_getElem? (i := 225) rfl)) rfl
theorem q9_226 : (Cond.methodLink "TrustChainModel" (428 : Nat) ({ cls := "TrustChainModel", name := "inside", desc := "(LTrustChainModel$Text;I)I" } : MethodName)) ∈ tb := tb_in (tm_9 (List.mem_of_getElem? (i := 226) rfl)) rfl
theorem q9_227 : (Cond.static ({ cls := "TrustChainModel", name := "inside", desc := "(LTrustChainModel$Text;I)I" } : MethodName)) ∈ tb := tb_in (tm_9 (List.mem_of_getElem? (i := 227) rfl)) rfl
theorem q9_228 : (Cond.code ({ cls := "TrustChainModel", name := "inside", desc := "(LTrustChainModel$Text;I)I" } : MethodName) prog_14_method_38_code (2 : Nat) (some FieldType.int)) ∈ tb := tb_in (tm_9 (List.mem_of_getElem? (i := 228) rfl)) rfl
theorem q9_229 : (Cond.methodLink "TrustChainModel" (425 : Nat) ({ cls := "TrustChainModel", name := "ends", desc := "(LTrustChainModel$Text;IILTrustChainModel$Text;II)Z" } : MethodName)) ∈ tb := tb_in (tm_9 (List.mem_of_getElem? (i := 229) rfl)) rfl
theorem q9_230 : (Cond.static ({ cls := "TrustChainModel", name := "ends", desc := "(LTrustChainModel$Text;IILTrustChainModel$Text;II)Z" } : MethodName)) ∈ tb := tb_in (tm_9 (List.mem_of_getElem? (i := 230) rfl)) rfl
theorem q9_231 : (Cond.code ({ cls := "TrustChainModel", name := "ends", desc := "(LTrustChainModel$Text;IILTrustChainModel$Text;II)Z" } : MethodName) prog_14_method_41_code (9 : Nat) (some FieldType.boolean)) ∈ tb := tb_in (tm_9 (List.mem_of_getElem? (i := 231) rfl)) rfl
theorem q9_232 : (Cond.methodLink "TrustChainModel" (432 : Nat) ({ cls := "TrustChainModel", name := "small", desc := "(I)I" } : MethodName)) ∈ tb := tb_in (tm_9 (List.mem_of_getElem? (i := 232) rfl)) rfl
theorem q9_233 : (Cond.static ({ cls := "TrustChainModel", name := "small", desc := "(I)I" } : MethodName)) ∈ tb := tb_in (tm_9 (List.mem_of_getElem? (i := 233) rfl)) rfl
theorem q9_234 : (Cond.code ({ cls := "TrustChainModel", name := "small", desc := "(I)I" } : MethodName) prog_14_method_40_code (1 : Nat) (some FieldType.int)) ∈ tb := tb_in (tm_9 (List.mem_of_getElem? (i := 234) rfl)) rfl
theorem q9_235 : (Cond.methodLink "TrustChainModel" (343 : Nat) ({ cls := "TrustChainModel", name := "mayFollow", desc := "(LTrustChainModel$Text;I)Z" } : MethodName)) ∈ tb := tb_in (tm_9 (List.mem_of_getElem? (i := 235) rfl)) rfl
theorem q9_236 : (Cond.privateMethod ({ cls := "TrustChainModel", name := "mayFollow", desc := "(LTrustChainModel$Text;I)Z" } : MethodName)) ∈ lw_tbl := tm_9 (List.mem_of_getElem? (i := 236) rfl)
theorem q9_237 : (Cond.instanceMethod ({ cls := "TrustChainModel", name := "mayFollow", desc := "(LTrustChainModel$Text;I)Z" } : MethodName)) ∈ tb := tb_in (tm_9 (List.mem_of_getElem? (i := 237) rfl)) rfl
theorem q9_238 : (Cond.code ({ cls := "TrustChainModel", name := "mayFollow", desc := "(LTrustChainModel$Text;I)Z" } : MethodName) prog_14_method_33_code (4 : Nat) (some FieldType.boolean)) ∈ tb := tb_in (tm_9 (List.mem_of_getElem? (i := 238) rfl)) rfl
theorem q9_239 : (Cond.methodLink "TrustChainLaw" (109 : Nat) ({ cls := "TrustChainModel", name := "chain", desc := "(I)I" } : MethodName)) ∈ tb := tb_in (tm_9 (List.mem_of_getElem? (i := 239) rfl)) rfl
theorem q10_0 : (Cond.instanceMethod ({ cls := "TrustChainModel", name := "chain", desc := "(I)I" } : MethodName)) ∈ tb := tb_in (tm_10 (List.mem_of_getElem? (i := 0) rfl)) rfl
theorem q10_1 : (Cond.selects "TrustChainModel" ({ cls := "TrustChainModel", name := "chain", desc := "(I)I" } : MethodName) ({ cls := "TrustChainModel", name := "chain", desc := "(I)I" } : MethodName)) ∈ tb := tb_in (tm_10 (List.mem_of_getElem? (i := 1) rfl)) rfl
theorem q10_2 : (Cond.code ({ cls := "TrustChainModel", name := "chain", desc := "(I)I" } : MethodName) prog_14_method_42_code (2 : Nat) (some FieldType.int)) ∈ tb := tb_in (tm_10 (List.mem_of_getElem? (i := 2) rfl)) rfl
theorem q10_3 : (Cond.methodLink "TrustChainLaw" (112 : Nat) ({ cls := "TrustChainModel", name := "count", desc := "(I)I" } : MethodName)) ∈ tb := tb_in (tm_10 (List.mem_of_getElem? (i := 3) rfl)) rfl
theorem q10_4 : (Cond.instanceMethod ({ cls := "TrustChainModel", name := "count", desc := "(I)I" } : MethodName)) ∈ tb := tb_in (tm_10 (List.mem_of_getElem? (i := 4) rfl)) rfl
theorem q10_5 : (Cond.selects "TrustChainModel" ({ cls := "TrustChainModel", name := "count", desc := "(I)I" } : MethodName) ({ cls := "TrustChainModel", name := "count", desc := "(I)I" } : MethodName)) ∈ tb := tb_in (tm_10 (List.mem_of_getElem? (i := 5) rfl)) rfl
theorem q10_6 : (Cond.code ({ cls := "TrustChainModel", name := "count", desc := "(I)I" } : MethodName) prog_14_method_43_code (2 : Nat) (some FieldType.int)) ∈ tb := tb_in (tm_10 (List.mem_of_getElem? (i := 6) rfl)) rfl
theorem q10_7 : (Cond.methodLink "TrustChainLaw" (116 : Nat) ({ cls := "TrustChainModel", name := "covers", desc := "(IJJJJ)Z" } : MethodName)) ∈ tb := tb_in (tm_10 (List.mem_of_getElem? (i := 7) rfl)) rfl
theorem q10_8 : (Cond.instanceMethod ({ cls := "TrustChainModel", name := "covers", desc := "(IJJJJ)Z" } : MethodName)) ∈ tb := tb_in (tm_10 (List.mem_of_getElem? (i := 8) rfl)) rfl
theorem q10_9 : (Cond.selects "TrustChainModel" ({ cls := "TrustChainModel", name := "covers", desc := "(IJJJJ)Z" } : MethodName) ({ cls := "TrustChainModel", name := "covers", desc := "(IJJJJ)Z" } : MethodName)) ∈ tb := tb_in (tm_10 (List.mem_of_getElem? (i := 9) rfl)) rfl
theorem q10_10 : (Cond.code ({ cls := "TrustChainModel", name := "covers", desc := "(IJJJJ)Z" } : MethodName) prog_14_method_44_code (16 : Nat) (some FieldType.boolean)) ∈ tb := tb_in (tm_10 (List.mem_of_getElem? (i := 10) rfl)) rfl
theorem q10_11 : (Cond.methodLink "TrustChainModel" (435 : Nat) ({ cls := "TrustChainModel", name := "alike", desc := "(LTrustChainModel$Text;IIII)Z" } : MethodName)) ∈ tb := tb_in (tm_10 (List.mem_of_getElem? (i := 11) rfl)) rfl
theorem q10_12 : (Cond.privateMethod ({ cls := "TrustChainModel", name := "alike", desc := "(LTrustChainModel$Text;IIII)Z" } : MethodName)) ∈ lw_tbl := tm_10 (List.mem_of_getElem? (i := 12) rfl)
theorem q10_13 : (Cond.instanceMethod ({ cls := "TrustChainModel", name := "alike", desc := "(LTrustChainModel$Text;IIII)Z" } : MethodName)) ∈ tb := tb_in (tm_10 (List.mem_of_getElem? (i := 13) rfl)) rfl
theorem q10_14 : (Cond.code ({ cls := "TrustChainModel", name := "alike", desc := "(LTrustChainModel$Text;IIII)Z" } : MethodName) prog_14_method_45_code (7 : Nat) (some FieldType.boolean)) ∈ tb := tb_in (tm_10 (List.mem_of_getElem? (i := 14) rfl)) rfl
theorem q10_15 : (Cond.constantLong "TrustChainLaw" (101 : Nat) (4294967295 : Int64)) ∈ tb := tb_in (tm_10 (List.mem_of_getElem? (i := 15) rfl)) rfl
theorem q10_16 : (Cond.sameMethod "java/lang/Throwable" "java/lang/Throwable" "fillInStackTrace" "(I)Ljava/lang/Throwable;") ∈ tb := tb_in (tm_10 (List.mem_of_getElem? (i := 16) rfl)) rfl
theorem q10_17 : (Cond.sameMethod "TrustChain$Reader" "TrustChain$Reader" "open" "(II)I") ∈ tb := tb_in (tm_10 (List.mem_of_getElem? (i := 17) rfl)) rfl
theorem q10_18 : (Cond.selects "TrustChain$CertificateReader" ({ cls := "TrustChain$Reader", name := "open", desc := "(II)I" } : MethodName) ({ cls := "TrustChain$Reader", name := "open", desc := "(II)I" } : MethodName)) ∈ tb := tb_in (tm_10 (List.mem_of_getElem? (i := 18) rfl)) rfl
theorem q10_19 : (Cond.selects "TrustChain$ListReader" ({ cls := "TrustChain$Reader", name := "open", desc := "(II)I" } : MethodName) ({ cls := "TrustChain$Reader", name := "open", desc := "(II)I" } : MethodName)) ∈ tb := tb_in (tm_10 (List.mem_of_getElem? (i := 19) rfl)) rfl
theorem q10_20 : (Cond.sameMethod "TrustChain$Reader" "TrustChain$Reader" "number" "(II)LTrustChain$Slice;") ∈ tb := tb_in (tm_10 (List.mem_of_getElem? (i := 20) rfl)) rfl
theorem q10_21 : (Cond.selects "TrustChain$CertificateReader" ({ cls := "TrustChain$Reader", name := "number", desc := "(II)LTrustChain$Slice;" } : MethodName) ({ cls := "TrustChain$Reader", name := "number", desc := "(II)LTrustChain$Slice;" } : MethodName)) ∈ tb := tb_in (tm_10 (List.mem_of_getElem? (i := 21) rfl)) rfl
theorem q10_22 : (Cond.selects "TrustChain$ListReader" ({ cls := "TrustChain$Reader", name := "number", desc := "(II)LTrustChain$Slice;" } : MethodName) ({ cls := "TrustChain$Reader", name := "number", desc := "(II)LTrustChain$Slice;" } : MethodName)) ∈ tb := tb_in (tm_10 (List.mem_of_getElem? (i := 22) rfl)) rfl
theorem q10_23 : (Cond.sameMethod "TrustChain$Reader" "TrustChain$Reader" "require" "(Z)V") ∈ tb := tb_in (tm_10 (List.mem_of_getElem? (i := 23) rfl)) rfl
theorem q10_24 : (Cond.selects "TrustChain$CertificateReader" ({ cls := "TrustChain$Reader", name := "require", desc := "(Z)V" } : MethodName) ({ cls := "TrustChain$Reader", name := "require", desc := "(Z)V" } : MethodName)) ∈ tb := tb_in (tm_10 (List.mem_of_getElem? (i := 24) rfl)) rfl
theorem q10_25 : (Cond.selects "TrustChain$ListReader" ({ cls := "TrustChain$Reader", name := "require", desc := "(Z)V" } : MethodName) ({ cls := "TrustChain$Reader", name := "require", desc := "(Z)V" } : MethodName)) ∈ tb := tb_in (tm_10 (List.mem_of_getElem? (i := 25) rfl)) rfl
theorem q10_26 : (Cond.sameMethod "TrustChain$Reader" "TrustChain$Reader" "finish" "(I)V") ∈ tb := tb_in (tm_10 (List.mem_of_getElem? (i := 26) rfl)) rfl
theorem q10_27 : (Cond.selects "TrustChain$CertificateReader" ({ cls := "TrustChain$Reader", name := "finish", desc := "(I)V" } : MethodName) ({ cls := "TrustChain$Reader", name := "finish", desc := "(I)V" } : MethodName)) ∈ tb := tb_in (tm_10 (List.mem_of_getElem? (i := 27) rfl)) rfl
theorem q10_28 : (Cond.selects "TrustChain$ListReader" ({ cls := "TrustChain$Reader", name := "finish", desc := "(I)V" } : MethodName) ({ cls := "TrustChain$Reader", name := "finish", desc := "(I)V" } : MethodName)) ∈ tb := tb_in (tm_10 (List.mem_of_getElem? (i := 28) rfl)) rfl
theorem q10_29 : (Cond.sameMethod "TrustChain$Reader" "TrustChain$Reader" "isOid" "(II)Z") ∈ tb := tb_in (tm_10 (List.mem_of_getElem? (i := 29) rfl)) rfl
theorem q10_30 : (Cond.sameMethod "TrustChain$Reader" "TrustChain$Reader" "isUtf8" "(II)Z") ∈ tb := tb_in (tm_10 (List.mem_of_getElem? (i := 30) rfl)) rfl
theorem q10_31 : (Cond.sameMethod "TrustChain$Reader" "TrustChain$Reader" "isSimple" "(III)Z") ∈ tb := tb_in (tm_10 (List.mem_of_getElem? (i := 31) rfl)) rfl
theorem q10_32 : (Cond.sameMethod "TrustChain$Reader" "TrustChain$Reader" "digits" "(I)I") ∈ tb := tb_in (tm_10 (List.mem_of_getElem? (i := 32) rfl)) rfl
theorem q10_33 : (Cond.sameMethod "TrustChain$Reader" "TrustChain$Reader" "areDigits" "(II)Z") ∈ tb := tb_in (tm_10 (List.mem_of_getElem? (i := 33) rfl)) rfl
theorem q10_34 : (Cond.sameMethod "TrustChain$Reader" "TrustChain$Reader" "plain" "(III)LTrustChain$Slice;") ∈ tb := tb_in (tm_10 (List.mem_of_getElem? (i := 34) rfl)) rfl
theorem q10_35 : (Cond.selects "TrustChain$CertificateReader" ({ cls := "TrustChain$Reader", name := "plain", desc := "(III)LTrustChain$Slice;" } : MethodName) ({ cls := "TrustChain$Reader", name := "plain", desc := "(III)LTrustChain$Slice;" } : MethodName)) ∈ tb := tb_in (tm_10 (List.mem_of_getElem? (i := 35) rfl)) rfl
theorem q10_36 : (Cond.selects "TrustChain$ListReader" ({ cls := "TrustChain$Reader", name := "plain", desc := "(III)LTrustChain$Slice;" } : MethodName) ({ cls := "TrustChain$Reader", name := "plain", desc := "(III)LTrustChain$Slice;" } : MethodName)) ∈ tb := tb_in (tm_10 (List.mem_of_getElem? (i := 36) rfl)) rfl
theorem q10_37 : (Cond.sameMethod "TrustChain$Reader" "TrustChain$Reader" "isRepeated" "(LTrustChain$Slice;)Z") ∈ tb := tb_in (tm_10 (List.mem_of_getElem? (i := 37) rfl)) rfl
theorem q10_38 : (Cond.sameMethod "TrustChain$Reader" "TrustChain$Reader" "algorithm" "(II)V") ∈ tb := tb_in (tm_10 (List.mem_of_getElem? (i := 38) rfl)) rfl
theorem q10_39 : (Cond.selects "TrustChain$CertificateReader" ({ cls := "TrustChain$Reader", name := "algorithm", desc := "(II)V" } : MethodName) ({ cls := "TrustChain$Reader", name := "algorithm", desc := "(II)V" } : MethodName)) ∈ tb := tb_in (tm_10 (List.mem_of_getElem? (i := 39) rfl)) rfl
theorem q10_40 : (Cond.selects "TrustChain$ListReader" ({ cls := "TrustChain$Reader", name := "algorithm", desc := "(II)V" } : MethodName) ({ cls := "TrustChain$Reader", name := "algorithm", desc := "(II)V" } : MethodName)) ∈ tb := tb_in (tm_10 (List.mem_of_getElem? (i := 40) rfl)) rfl
theorem q10_41 : (Cond.sameMethod "TrustChain$Reader" "TrustChain$Reader" "openBits" "(I)I") ∈ tb := tb_in (tm_10 (List.mem_of_getElem? (i := 41) rfl)) rfl
theorem q10_42 : (Cond.selects "TrustChain$CertificateReader" ({ cls := "TrustChain$Reader", name := "openBits", desc := "(I)I" } : MethodName) ({ cls := "TrustChain$Reader", name := "openBits", desc := "(I)I" } : MethodName)) ∈ tb := tb_in (tm_10 (List.mem_of_getElem? (i := 42) rfl)) rfl
theorem q10_43 : (Cond.selects "TrustChain$ListReader" ({ cls := "TrustChain$Reader", name := "openBits", desc := "(I)I" } : MethodName) ({ cls := "TrustChain$Reader", name := "openBits", desc := "(I)I" } : MethodName)) ∈ tb := tb_in (tm_10 (List.mem_of_getElem? (i := 43) rfl)) rfl
theorem q10_44 : (Cond.sameMethod "TrustChain$Paper" "TrustChain$Paper" "isAt" "(J)Z") ∈ tb := tb_in (tm_10 (List.mem_of_getElem? (i := 44) rfl)) rfl
theorem q10_45 : (Cond.selects "TrustChain$Certificate" ({ cls := "TrustChain$Paper", name := "isAt", desc := "(J)Z" } : MethodName) ({ cls := "TrustChain$Paper", name := "isAt", desc := "(J)Z" } : MethodName)) ∈ tb := tb_in (tm_10 (List.mem_of_getElem? (i := 45) rfl)) rfl
theorem q10_46 : (Cond.selects "TrustChain$Paper" ({ cls := "TrustChain$Paper", name := "isAt", desc := "(J)Z" } : MethodName) ({ cls := "TrustChain$Paper", name := "isAt", desc := "(J)Z" } : MethodName)) ∈ tb := tb_in (tm_10 (List.mem_of_getElem? (i := 46) rfl)) rfl
theorem q10_47 : (Cond.castable "TrustChain$Slice" "TrustChain$Slice") ∈ lw_tbl := tm_10 (List.mem_of_getElem? (i := 47) rfl)
theorem q10_48 : (Cond.castable "TrustChain$Certificate" "TrustChain$Certificate") ∈ lw_tbl := tm_10 (List.mem_of_getElem? (i := 48) rfl)
theorem q10_49 : (Cond.castable "TrustChain$Certificate" "TrustChain$Paper") ∈ lw_tbl := tm_10 (List.mem_of_getElem? (i := 49) rfl)
theorem q10_50 : (Cond.castable "TrustChain$Paper" "TrustChain$Paper") ∈ lw_tbl := tm_10 (List.mem_of_getElem? (i := 50) rfl)
theorem q10_51 : (Cond.sameMethod "[Ljava/lang/Object;" "java/lang/Object" "getClass" "()Ljava/lang/Class;") ∈ tb := tb_in (tm_10 (List.mem_of_getElem? (i := 51) rfl)) rfl
theorem q10_52 : (Cond.selects "[Ljava/lang/Object;" ({ cls := "java/lang/Object", name := "getClass", desc := "()Ljava/lang/Class;" } : MethodName) ({ cls := "java/lang/Object", name := "getClass", desc := "()Ljava/lang/Class;" } : MethodName)) ∈ tb := tb_in (tm_10 (List.mem_of_getElem? (i := 52) rfl)) rfl
theorem q10_53 : (Cond.declares ({ cls := "java/lang/Object", name := "getClass", desc := "()Ljava/lang/Class;" } : MethodName)) ∈ lw_tbl := tm_10 (List.mem_of_getElem? (i := 53) rfl)
theorem q10_54 : (Cond.castable "TrustChain" "java/lang/Object") ∈ lw_tbl := tm_10 (List.mem_of_getElem? (i := 54) rfl)
theorem q10_55 : (Cond.castable "TrustChain$Sha256" "java/lang/Object") ∈ lw_tbl := tm_10 (List.mem_of_getElem? (i := 55) rfl)
theorem q10_56 : (Cond.castable "TrustChain$Rsa" "java/lang/Object") ∈ lw_tbl := tm_10 (List.mem_of_getElem? (i := 56) rfl)
theorem q10_57 : (Cond.castable "TrustChain$Search" "java/lang/Object") ∈ lw_tbl := tm_10 (List.mem_of_getElem? (i := 57) rfl)
theorem q10_58 : (Cond.castable "TrustChain$PathCheck" "java/lang/Object") ∈ lw_tbl := tm_10 (List.mem_of_getElem? (i := 58) rfl)
theorem q10_59 : (Cond.castable "TrustChainModel" "java/lang/Object") ∈ lw_tbl := tm_10 (List.mem_of_getElem? (i := 59) rfl)
theorem q10_60 : (Cond.castable "TrustChainModel$Text" "java/lang/Object") ∈ lw_tbl := tm_10 (List.mem_of_getElem? (i := 60) rfl)
theorem q10_61 : (Cond.castable "TrustChain$CertificateReader" "java/lang/Object") ∈ lw_tbl := tm_10 (List.mem_of_getElem? (i := 61) rfl)
theorem q10_62 : (Cond.castable "TrustChain$Slice" "java/lang/Object") ∈ lw_tbl := tm_10 (List.mem_of_getElem? (i := 62) rfl)
theorem q10_63 : (Cond.castable "TrustChain$Certificate" "java/lang/Object") ∈ lw_tbl := tm_10 (List.mem_of_getElem? (i := 63) rfl)
theorem q10_64 : (Cond.castable "TrustChain$NameSet" "java/lang/Object") ∈ lw_tbl := tm_10 (List.mem_of_getElem? (i := 64) rfl)
theorem q10_65 : (Cond.castable "TrustChain$ListReader" "java/lang/Object") ∈ lw_tbl := tm_10 (List.mem_of_getElem? (i := 65) rfl)
theorem q10_66 : (Cond.castable "TrustChain$Paper" "java/lang/Object") ∈ lw_tbl := tm_10 (List.mem_of_getElem? (i := 66) rfl)
theorem q10_67 : (Cond.castable "java/lang/String" "java/lang/Object") ∈ lw_tbl := tm_10 (List.mem_of_getElem? (i := 67) rfl)
theorem q10_68 : (Cond.fieldLink "java/lang/String" (15 : Nat) "java/lang/String" "coder" "B") ∈ tb := tb_in (tm_10 (List.mem_of_getElem? (i := 68) rfl)) rfl
theorem q10_69 : (Cond.fieldLink "java/lang/String" (9 : Nat) "java/lang/String" "value" "[B") ∈ tb := tb_in (tm_10 (List.mem_of_getElem? (i := 69) rfl)) rfl
theorem qp_0 : Cond.selects "java/lang/Throwable" ⟨"java/lang/Throwable", "fillInStackTrace", "(I)Ljava/lang/Throwable;"⟩ ⟨"java/lang/Throwable", "fillInStackTrace", "(I)Ljava/lang/Throwable;"⟩ ∈ tb := tb_in (List.mem_append_left _ (List.mem_map.mpr ⟨(⟨"java/lang/Throwable", "fillInStackTrace", "(I)Ljava/lang/Throwable;"⟩, 6), List.mem_of_getElem? (i := 0) rfl, rfl⟩)) rfl
theorem qp_1 : Cond.selects "TrustChain" ⟨"TrustChain", "takeWord", "(I)V"⟩ ⟨"TrustChain", "takeWord", "(I)V"⟩ ∈ tb := tb_in (List.mem_append_left _ (List.mem_map.mpr ⟨(⟨"TrustChain", "takeWord", "(I)V"⟩, 14), List.mem_of_getElem? (i := 1) rfl, rfl⟩)) rfl
theorem qp_2 : Cond.selects "TrustChain" ⟨"TrustChain", "isFed", "(I)Z"⟩ ⟨"TrustChain", "isFed", "(I)Z"⟩ ∈ tb := tb_in (List.mem_append_left _ (List.mem_map.mpr ⟨(⟨"TrustChain", "isFed", "(I)Z"⟩, 14), List.mem_of_getElem? (i := 2) rfl, rfl⟩)) rfl
theorem qp_3 : Cond.selects "TrustChain" ⟨"TrustChain", "takeText", "(I)[B"⟩ ⟨"TrustChain", "takeText", "(I)[B"⟩ ∈ tb := tb_in (List.mem_append_left _ (List.mem_map.mpr ⟨(⟨"TrustChain", "takeText", "(I)[B"⟩, 14), List.mem_of_getElem? (i := 3) rfl, rfl⟩)) rfl
theorem qp_4 : Cond.selects "TrustChain$CertificateReader" ⟨"TrustChain$CertificateReader", "readHead", "(I)V"⟩ ⟨"TrustChain$CertificateReader", "readHead", "(I)V"⟩ ∈ tb := tb_in (List.mem_append_left _ (List.mem_map.mpr ⟨(⟨"TrustChain$CertificateReader", "readHead", "(I)V"⟩, 10), List.mem_of_getElem? (i := 4) rfl, rfl⟩)) rfl
theorem qp_5 : Cond.selects "TrustChain$CertificateReader" ⟨"TrustChain$CertificateReader", "readKey", "(I)V"⟩ ⟨"TrustChain$CertificateReader", "readKey", "(I)V"⟩ ∈ tb := tb_in (List.mem_append_left _ (List.mem_map.mpr ⟨(⟨"TrustChain$CertificateReader", "readKey", "(I)V"⟩, 10), List.mem_of_getElem? (i := 5) rfl, rfl⟩)) rfl
theorem qp_6 : Cond.selects "TrustChain$CertificateReader" ⟨"TrustChain$CertificateReader", "readModulus", "(I)V"⟩ ⟨"TrustChain$CertificateReader", "readModulus", "(I)V"⟩ ∈ tb := tb_in (List.mem_append_left _ (List.mem_map.mpr ⟨(⟨"TrustChain$CertificateReader", "readModulus", "(I)V"⟩, 10), List.mem_of_getElem? (i := 6) rfl, rfl⟩)) rfl
theorem qp_7 : Cond.selects "TrustChain$CertificateReader" ⟨"TrustChain$CertificateReader", "readUsage", "(I)V"⟩ ⟨"TrustChain$CertificateReader", "readUsage", "(I)V"⟩ ∈ tb := tb_in (List.mem_append_left _ (List.mem_map.mpr ⟨(⟨"TrustChain$CertificateReader", "readUsage", "(I)V"⟩, 10), List.mem_of_getElem? (i := 7) rfl, rfl⟩)) rfl
theorem qp_8 : Cond.selects "TrustChain$CertificateReader" ⟨"TrustChain$CertificateReader", "readNames", "(I)V"⟩ ⟨"TrustChain$CertificateReader", "readNames", "(I)V"⟩ ∈ tb := tb_in (List.mem_append_left _ (List.mem_map.mpr ⟨(⟨"TrustChain$CertificateReader", "readNames", "(I)V"⟩, 10), List.mem_of_getElem? (i := 8) rfl, rfl⟩)) rfl
theorem qp_9 : Cond.selects "java/util/ArrayList" ⟨"java/util/ArrayList", "add", "(Ljava/lang/Object;[Ljava/lang/Object;I)V"⟩ ⟨"java/util/ArrayList", "add", "(Ljava/lang/Object;[Ljava/lang/Object;I)V"⟩ ∈ tb := tb_in (List.mem_append_left _ (List.mem_map.mpr ⟨(⟨"java/util/ArrayList", "add", "(Ljava/lang/Object;[Ljava/lang/Object;I)V"⟩, 3), List.mem_of_getElem? (i := 9) rfl, rfl⟩)) rfl
theorem qp_10 : Cond.selects "java/util/ArrayList" ⟨"java/util/ArrayList", "grow", "()[Ljava/lang/Object;"⟩ ⟨"java/util/ArrayList", "grow", "()[Ljava/lang/Object;"⟩ ∈ tb := tb_in (List.mem_append_left _ (List.mem_map.mpr ⟨(⟨"java/util/ArrayList", "grow", "()[Ljava/lang/Object;"⟩, 3), List.mem_of_getElem? (i := 10) rfl, rfl⟩)) rfl
theorem qp_11 : Cond.selects "java/util/ArrayList" ⟨"java/util/ArrayList", "grow", "(I)[Ljava/lang/Object;"⟩ ⟨"java/util/ArrayList", "grow", "(I)[Ljava/lang/Object;"⟩ ∈ tb := tb_in (List.mem_append_left _ (List.mem_map.mpr ⟨(⟨"java/util/ArrayList", "grow", "(I)[Ljava/lang/Object;"⟩, 3), List.mem_of_getElem? (i := 11) rfl, rfl⟩)) rfl
theorem qp_12 : Cond.selects "TrustChain$CertificateReader" ⟨"TrustChain$CertificateReader", "readBasic", "(I)V"⟩ ⟨"TrustChain$CertificateReader", "readBasic", "(I)V"⟩ ∈ tb := tb_in (List.mem_append_left _ (List.mem_map.mpr ⟨(⟨"TrustChain$CertificateReader", "readBasic", "(I)V"⟩, 10), List.mem_of_getElem? (i := 12) rfl, rfl⟩)) rfl
theorem qp_13 : Cond.selects "TrustChain$CertificateReader" ⟨"TrustChain$CertificateReader", "readTrees", "(ILTrustChain$NameSet;I)V"⟩ ⟨"TrustChain$CertificateReader", "readTrees", "(ILTrustChain$NameSet;I)V"⟩ ∈ tb := tb_in (List.mem_append_left _ (List.mem_map.mpr ⟨(⟨"TrustChain$CertificateReader", "readTrees", "(ILTrustChain$NameSet;I)V"⟩, 10), List.mem_of_getElem? (i := 13) rfl, rfl⟩)) rfl
theorem qp_14 : Cond.selects "TrustChain$Sha256" ⟨"TrustChain$Sha256", "fillSchedule", "(LTrustChain$Slice;II)V"⟩ ⟨"TrustChain$Sha256", "fillSchedule", "(LTrustChain$Slice;II)V"⟩ ∈ tb := tb_in (List.mem_append_left _ (List.mem_map.mpr ⟨(⟨"TrustChain$Sha256", "fillSchedule", "(LTrustChain$Slice;II)V"⟩, 1), List.mem_of_getElem? (i := 14) rfl, rfl⟩)) rfl
theorem qp_15 : Cond.selects "TrustChain$Sha256" ⟨"TrustChain$Sha256", "mix", "([I)V"⟩ ⟨"TrustChain$Sha256", "mix", "([I)V"⟩ ∈ tb := tb_in (List.mem_append_left _ (List.mem_map.mpr ⟨(⟨"TrustChain$Sha256", "mix", "([I)V"⟩, 1), List.mem_of_getElem? (i := 15) rfl, rfl⟩)) rfl
theorem qp_16 : Cond.selects "TrustChain" ⟨"TrustChain", "linkIssuers", "(LTrustChain$Certificate;)V"⟩ ⟨"TrustChain", "linkIssuers", "(LTrustChain$Certificate;)V"⟩ ∈ tb := tb_in (List.mem_append_left _ (List.mem_map.mpr ⟨(⟨"TrustChain", "linkIssuers", "(LTrustChain$Certificate;)V"⟩, 14), List.mem_of_getElem? (i := 16) rfl, rfl⟩)) rfl
theorem qp_17 : Cond.selects "TrustChain$ListReader" ⟨"TrustChain$ListReader", "readHead", "(I)V"⟩ ⟨"TrustChain$ListReader", "readHead", "(I)V"⟩ ∈ tb := tb_in (List.mem_append_left _ (List.mem_map.mpr ⟨(⟨"TrustChain$ListReader", "readHead", "(I)V"⟩, 11), List.mem_of_getElem? (i := 17) rfl, rfl⟩)) rfl
theorem qp_18 : Cond.selects "TrustChain" ⟨"TrustChain", "isStored", "(I)Z"⟩ ⟨"TrustChain", "isStored", "(I)Z"⟩ ∈ tb := tb_in (List.mem_append_left _ (List.mem_map.mpr ⟨(⟨"TrustChain", "isStored", "(I)Z"⟩, 14), List.mem_of_getElem? (i := 18) rfl, rfl⟩)) rfl
theorem qp_19 : Cond.selects "TrustChain" ⟨"TrustChain", "isListed", "(I)Z"⟩ ⟨"TrustChain", "isListed", "(I)Z"⟩ ∈ tb := tb_in (List.mem_append_left _ (List.mem_map.mpr ⟨(⟨"TrustChain", "isListed", "(I)Z"⟩, 14), List.mem_of_getElem? (i := 19) rfl, rfl⟩)) rfl
theorem qp_20 : Cond.selects "TrustChain$Rsa" ⟨"TrustChain$Rsa", "verifies", "(LTrustChain$Paper;LTrustChain$Certificate;)Z"⟩ ⟨"TrustChain$Rsa", "verifies", "(LTrustChain$Paper;LTrustChain$Certificate;)Z"⟩ ∈ tb := tb_in (List.mem_append_left _ (List.mem_map.mpr ⟨(⟨"TrustChain$Rsa", "verifies", "(LTrustChain$Paper;LTrustChain$Certificate;)Z"⟩, 8), List.mem_of_getElem? (i := 20) rfl, rfl⟩)) rfl
theorem qp_21 : Cond.selects "TrustChain$Rsa" ⟨"TrustChain$Rsa", "load", "(LTrustChain$Slice;[J)V"⟩ ⟨"TrustChain$Rsa", "load", "(LTrustChain$Slice;[J)V"⟩ ∈ tb := tb_in (List.mem_append_left _ (List.mem_map.mpr ⟨(⟨"TrustChain$Rsa", "load", "(LTrustChain$Slice;[J)V"⟩, 8), List.mem_of_getElem? (i := 21) rfl, rfl⟩)) rfl
theorem qp_22 : Cond.selects "TrustChain$Rsa" ⟨"TrustChain$Rsa", "isBelowModulus", "([J)Z"⟩ ⟨"TrustChain$Rsa", "isBelowModulus", "([J)Z"⟩ ∈ tb := tb_in (List.mem_append_left _ (List.mem_map.mpr ⟨(⟨"TrustChain$Rsa", "isBelowModulus", "([J)Z"⟩, 8), List.mem_of_getElem? (i := 22) rfl, rfl⟩)) rfl
theorem qp_23 : Cond.selects "TrustChain$Rsa" ⟨"TrustChain$Rsa", "prepare", "(I)V"⟩ ⟨"TrustChain$Rsa", "prepare", "(I)V"⟩ ∈ tb := tb_in (List.mem_append_left _ (List.mem_map.mpr ⟨(⟨"TrustChain$Rsa", "prepare", "(I)V"⟩, 8), List.mem_of_getElem? (i := 23) rfl, rfl⟩)) rfl
theorem qp_24 : Cond.selects "TrustChain$Rsa" ⟨"TrustChain$Rsa", "settle", "([J)V"⟩ ⟨"TrustChain$Rsa", "settle", "([J)V"⟩ ∈ tb := tb_in (List.mem_append_left _ (List.mem_map.mpr ⟨(⟨"TrustChain$Rsa", "settle", "([J)V"⟩, 8), List.mem_of_getElem? (i := 24) rfl, rfl⟩)) rfl
theorem qp_25 : Cond.selects "TrustChain$Rsa" ⟨"TrustChain$Rsa", "multiply", "([J[J[J)V"⟩ ⟨"TrustChain$Rsa", "multiply", "([J[J[J)V"⟩ ∈ tb := tb_in (List.mem_append_left _ (List.mem_map.mpr ⟨(⟨"TrustChain$Rsa", "multiply", "([J[J[J)V"⟩, 8), List.mem_of_getElem? (i := 25) rfl, rfl⟩)) rfl
theorem qp_26 : Cond.selects "TrustChain$Rsa" ⟨"TrustChain$Rsa", "hasForm", "([II)Z"⟩ ⟨"TrustChain$Rsa", "hasForm", "([II)Z"⟩ ∈ tb := tb_in (List.mem_append_left _ (List.mem_map.mpr ⟨(⟨"TrustChain$Rsa", "hasForm", "([II)Z"⟩, 8), List.mem_of_getElem? (i := 26) rfl, rfl⟩)) rfl
theorem qp_27 : Cond.selects "TrustChain$Search" ⟨"TrustChain$Search", "put", "(LTrustChain$Certificate;)V"⟩ ⟨"TrustChain$Search", "put", "(LTrustChain$Certificate;)V"⟩ ∈ tb := tb_in (List.mem_append_left _ (List.mem_map.mpr ⟨(⟨"TrustChain$Search", "put", "(LTrustChain$Certificate;)V"⟩, 5), List.mem_of_getElem? (i := 27) rfl, rfl⟩)) rfl
theorem qp_28 : Cond.selects "TrustChain$Search" ⟨"TrustChain$Search", "nextCandidate", "(I)I"⟩ ⟨"TrustChain$Search", "nextCandidate", "(I)I"⟩ ∈ tb := tb_in (List.mem_append_left _ (List.mem_map.mpr ⟨(⟨"TrustChain$Search", "nextCandidate", "(I)I"⟩, 5), List.mem_of_getElem? (i := 28) rfl, rfl⟩)) rfl
theorem qp_29 : Cond.selects "TrustChain$Search" ⟨"TrustChain$Search", "takeOff", "()V"⟩ ⟨"TrustChain$Search", "takeOff", "()V"⟩ ∈ tb := tb_in (List.mem_append_left _ (List.mem_map.mpr ⟨(⟨"TrustChain$Search", "takeOff", "()V"⟩, 5), List.mem_of_getElem? (i := 29) rfl, rfl⟩)) rfl
theorem qp_30 : Cond.selects "java/util/ArrayList" ⟨"java/util/ArrayList", "fastRemove", "([Ljava/lang/Object;I)V"⟩ ⟨"java/util/ArrayList", "fastRemove", "([Ljava/lang/Object;I)V"⟩ ∈ tb := tb_in (List.mem_append_left _ (List.mem_map.mpr ⟨(⟨"java/util/ArrayList", "fastRemove", "([Ljava/lang/Object;I)V"⟩, 3), List.mem_of_getElem? (i := 30) rfl, rfl⟩)) rfl
theorem qp_31 : Cond.selects "TrustChain$PathCheck" ⟨"TrustChain$PathCheck", "faultAt", "(Ljava/util/ArrayList;ILjava/util/ArrayList;LTrustChain$Rsa;)I"⟩ ⟨"TrustChain$PathCheck", "faultAt", "(Ljava/util/ArrayList;ILjava/util/ArrayList;LTrustChain$Rsa;)I"⟩ ∈ tb := tb_in (List.mem_append_left _ (List.mem_map.mpr ⟨(⟨"TrustChain$PathCheck", "faultAt", "(Ljava/util/ArrayList;ILjava/util/ArrayList;LTrustChain$Rsa;)I"⟩, 4), List.mem_of_getElem? (i := 31) rfl, rfl⟩)) rfl
theorem qp_32 : Cond.selects "TrustChain$PathCheck" ⟨"TrustChain$PathCheck", "isRevoked", "(LTrustChain$Certificate;LTrustChain$Certificate;Ljava/util/ArrayList;LTrustChain$Rsa;)Z"⟩ ⟨"TrustChain$PathCheck", "isRevoked", "(LTrustChain$Certificate;LTrustChain$Certificate;Ljava/util/ArrayList;LTrustChain$Rsa;)Z"⟩ ∈ tb := tb_in (List.mem_append_left _ (List.mem_map.mpr ⟨(⟨"TrustChain$PathCheck", "isRevoked", "(LTrustChain$Certificate;LTrustChain$Certificate;Ljava/util/ArrayList;LTrustChain$Rsa;)Z"⟩, 4), List.mem_of_getElem? (i := 32) rfl, rfl⟩)) rfl
theorem qp_33 : Cond.selects "TrustChain$PathCheck" ⟨"TrustChain$PathCheck", "faultAsIssuer", "(Ljava/util/ArrayList;I)I"⟩ ⟨"TrustChain$PathCheck", "faultAsIssuer", "(Ljava/util/ArrayList;I)I"⟩ ∈ tb := tb_in (List.mem_append_left _ (List.mem_map.mpr ⟨(⟨"TrustChain$PathCheck", "faultAsIssuer", "(Ljava/util/ArrayList;I)I"⟩, 4), List.mem_of_getElem? (i := 33) rfl, rfl⟩)) rfl
theorem qp_34 : Cond.selects "TrustChain" ⟨"TrustChain", "keepPath", "()V"⟩ ⟨"TrustChain", "keepPath", "()V"⟩ ∈ tb := tb_in (List.mem_append_left _ (List.mem_map.mpr ⟨(⟨"TrustChain", "keepPath", "()V"⟩, 14), List.mem_of_getElem? (i := 34) rfl, rfl⟩)) rfl
theorem qp_35 : Cond.selects "TrustChain" ⟨"TrustChain", "takeHost", "(IJ)V"⟩ ⟨"TrustChain", "takeHost", "(IJ)V"⟩ ∈ tb := tb_in (List.mem_append_left _ (List.mem_map.mpr ⟨(⟨"TrustChain", "takeHost", "(IJ)V"⟩, 14), List.mem_of_getElem? (i := 35) rfl, rfl⟩)) rfl
theorem qp_36 : Cond.selects "TrustChainModel" ⟨"TrustChainModel", "fails", "(ZI)Z"⟩ ⟨"TrustChainModel", "fails", "(ZI)Z"⟩ ∈ tb := tb_in (List.mem_append_left _ (List.mem_map.mpr ⟨(⟨"TrustChainModel", "fails", "(ZI)Z"⟩, 32), List.mem_of_getElem? (i := 36) rfl, rfl⟩)) rfl
theorem qp_37 : Cond.selects "TrustChainModel" ⟨"TrustChainModel", "store", "(IZ)I"⟩ ⟨"TrustChainModel", "store", "(IZ)I"⟩ ∈ tb := tb_in (List.mem_append_left _ (List.mem_map.mpr ⟨(⟨"TrustChainModel", "store", "(IZ)I"⟩, 32), List.mem_of_getElem? (i := 37) rfl, rfl⟩)) rfl
theorem qp_38 : Cond.selects "TrustChainModel$Text" ⟨"TrustChainModel$Text", "two", "(I)I"⟩ ⟨"TrustChainModel$Text", "two", "(I)I"⟩ ∈ tb := tb_in (List.mem_append_left _ (List.mem_map.mpr ⟨(⟨"TrustChainModel$Text", "two", "(I)I"⟩, 54), List.mem_of_getElem? (i := 38) rfl, rfl⟩)) rfl
theorem qp_39 : Cond.selects "TrustChainModel" ⟨"TrustChainModel", "noCertificate", "(II)Z"⟩ ⟨"TrustChainModel", "noCertificate", "(II)Z"⟩ ∈ tb := tb_in (List.mem_append_left _ (List.mem_map.mpr ⟨(⟨"TrustChainModel", "noCertificate", "(II)Z"⟩, 32), List.mem_of_getElem? (i := 39) rfl, rfl⟩)) rfl
theorem qp_40 : Cond.selects "TrustChainModel" ⟨"TrustChainModel", "digest", "(LTrustChainModel$Text;)V"⟩ ⟨"TrustChainModel", "digest", "(LTrustChainModel$Text;)V"⟩ ∈ tb := tb_in (List.mem_append_left _ (List.mem_map.mpr ⟨(⟨"TrustChainModel", "digest", "(LTrustChainModel$Text;)V"⟩, 32), List.mem_of_getElem? (i := 40) rfl, rfl⟩)) rfl
theorem qp_41 : Cond.selects "TrustChainModel" ⟨"TrustChainModel", "compress", "(I)V"⟩ ⟨"TrustChainModel", "compress", "(I)V"⟩ ∈ tb := tb_in (List.mem_append_left _ (List.mem_map.mpr ⟨(⟨"TrustChainModel", "compress", "(I)V"⟩, 32), List.mem_of_getElem? (i := 41) rfl, rfl⟩)) rfl
theorem qp_42 : Cond.selects "TrustChainModel" ⟨"TrustChainModel", "isSigned", "(LTrustChainModel$Text;LTrustChainModel$Text;)Z"⟩ ⟨"TrustChainModel", "isSigned", "(LTrustChainModel$Text;LTrustChainModel$Text;)Z"⟩ ∈ tb := tb_in (List.mem_append_left _ (List.mem_map.mpr ⟨(⟨"TrustChainModel", "isSigned", "(LTrustChainModel$Text;LTrustChainModel$Text;)Z"⟩, 32), List.mem_of_getElem? (i := 42) rfl, rfl⟩)) rfl
theorem qp_43 : Cond.selects "TrustChainModel" ⟨"TrustChainModel", "reduced", "([II[III)I"⟩ ⟨"TrustChainModel", "reduced", "([II[III)I"⟩ ∈ tb := tb_in (List.mem_append_left _ (List.mem_map.mpr ⟨(⟨"TrustChainModel", "reduced", "([II[III)I"⟩, 32), List.mem_of_getElem? (i := 43) rfl, rfl⟩)) rfl
theorem qp_44 : Cond.selects "TrustChainModel" ⟨"TrustChainModel", "divided", "([II[II[I)I"⟩ ⟨"TrustChainModel", "divided", "([II[II[I)I"⟩ ∈ tb := tb_in (List.mem_append_left _ (List.mem_map.mpr ⟨(⟨"TrustChainModel", "divided", "([II[II[I)I"⟩, 32), List.mem_of_getElem? (i := 44) rfl, rfl⟩)) rfl
theorem qp_45 : Cond.selects "TrustChainModel" ⟨"TrustChainModel", "goOn", "()Z"⟩ ⟨"TrustChainModel", "goOn", "()Z"⟩ ∈ tb := tb_in (List.mem_append_left _ (List.mem_map.mpr ⟨(⟨"TrustChainModel", "goOn", "()Z"⟩, 32), List.mem_of_getElem? (i := 45) rfl, rfl⟩)) rfl
theorem qp_46 : Cond.selects "TrustChainModel" ⟨"TrustChainModel", "judged", "()Z"⟩ ⟨"TrustChainModel", "judged", "()Z"⟩ ∈ tb := tb_in (List.mem_append_left _ (List.mem_map.mpr ⟨(⟨"TrustChainModel", "judged", "()Z"⟩, 32), List.mem_of_getElem? (i := 46) rfl, rfl⟩)) rfl
theorem qp_47 : Cond.selects "TrustChainModel" ⟨"TrustChainModel", "faultOf", "(I)I"⟩ ⟨"TrustChainModel", "faultOf", "(I)I"⟩ ∈ tb := tb_in (List.mem_append_left _ (List.mem_map.mpr ⟨(⟨"TrustChainModel", "faultOf", "(I)I"⟩, 32), List.mem_of_getElem? (i := 47) rfl, rfl⟩)) rfl
theorem qp_48 : Cond.selects "TrustChainModel" ⟨"TrustChainModel", "namesMayBe", "(LTrustChainModel$Text;I)Z"⟩ ⟨"TrustChainModel", "namesMayBe", "(LTrustChainModel$Text;I)Z"⟩ ∈ tb := tb_in (List.mem_append_left _ (List.mem_map.mpr ⟨(⟨"TrustChainModel", "namesMayBe", "(LTrustChainModel$Text;I)Z"⟩, 32), List.mem_of_getElem? (i := 48) rfl, rfl⟩)) rfl
theorem qp_49 : Cond.selects "TrustChainModel" ⟨"TrustChainModel", "mayBe", "(LTrustChainModel$Text;LTrustChainModel$Text;III)Z"⟩ ⟨"TrustChainModel", "mayBe", "(LTrustChainModel$Text;LTrustChainModel$Text;III)Z"⟩ ∈ tb := tb_in (List.mem_append_left _ (List.mem_map.mpr ⟨(⟨"TrustChainModel", "mayBe", "(LTrustChainModel$Text;LTrustChainModel$Text;III)Z"⟩, 32), List.mem_of_getElem? (i := 49) rfl, rfl⟩)) rfl
theorem qp_50 : Cond.selects "TrustChainModel" ⟨"TrustChainModel", "mayFollow", "(LTrustChainModel$Text;I)Z"⟩ ⟨"TrustChainModel", "mayFollow", "(LTrustChainModel$Text;I)Z"⟩ ∈ tb := tb_in (List.mem_append_left _ (List.mem_map.mpr ⟨(⟨"TrustChainModel", "mayFollow", "(LTrustChainModel$Text;I)Z"⟩, 32), List.mem_of_getElem? (i := 50) rfl, rfl⟩)) rfl
theorem qp_51 : Cond.selects "TrustChainModel" ⟨"TrustChainModel", "alike", "(LTrustChainModel$Text;IIII)Z"⟩ ⟨"TrustChainModel", "alike", "(LTrustChainModel$Text;IIII)Z"⟩ ∈ tb := tb_in (List.mem_append_left _ (List.mem_map.mpr ⟨(⟨"TrustChainModel", "alike", "(LTrustChainModel$Text;IIII)Z"⟩, 32), List.mem_of_getElem? (i := 51) rfl, rfl⟩)) rfl
theorem qx_0 : Cond.selects "TrustChain$CertificateReader" ⟨"TrustChain$Reader", "digits", "(I)I"⟩ ⟨"TrustChain$Reader", "digits", "(I)I"⟩ ∈ tb := tb_ix (List.mem_map.mpr ⟨("TrustChain$CertificateReader", ⟨"TrustChain$Reader", "digits", "(I)I"⟩), List.mem_of_getElem? (i := 0) rfl, rfl⟩) rfl
theorem qx_1 : Cond.selects "TrustChain$CertificateReader" ⟨"TrustChain$Reader", "areDigits", "(II)Z"⟩ ⟨"TrustChain$Reader", "areDigits", "(II)Z"⟩ ∈ tb := tb_ix (List.mem_map.mpr ⟨("TrustChain$CertificateReader", ⟨"TrustChain$Reader", "areDigits", "(II)Z"⟩), List.mem_of_getElem? (i := 1) rfl, rfl⟩) rfl
theorem qx_2 : Cond.selects "TrustChain$CertificateReader" ⟨"TrustChain$Reader", "isOid", "(II)Z"⟩ ⟨"TrustChain$Reader", "isOid", "(II)Z"⟩ ∈ tb := tb_ix (List.mem_map.mpr ⟨("TrustChain$CertificateReader", ⟨"TrustChain$Reader", "isOid", "(II)Z"⟩), List.mem_of_getElem? (i := 2) rfl, rfl⟩) rfl
theorem qx_3 : Cond.selects "TrustChain$CertificateReader" ⟨"TrustChain$Reader", "isSimple", "(III)Z"⟩ ⟨"TrustChain$Reader", "isSimple", "(III)Z"⟩ ∈ tb := tb_ix (List.mem_map.mpr ⟨("TrustChain$CertificateReader", ⟨"TrustChain$Reader", "isSimple", "(III)Z"⟩), List.mem_of_getElem? (i := 3) rfl, rfl⟩) rfl
theorem qx_4 : Cond.selects "TrustChain$CertificateReader" ⟨"TrustChain$Reader", "isUtf8", "(II)Z"⟩ ⟨"TrustChain$Reader", "isUtf8", "(II)Z"⟩ ∈ tb := tb_ix (List.mem_map.mpr ⟨("TrustChain$CertificateReader", ⟨"TrustChain$Reader", "isUtf8", "(II)Z"⟩), List.mem_of_getElem? (i := 4) rfl, rfl⟩) rfl
theorem qx_5 : Cond.selects "TrustChain$CertificateReader" ⟨"TrustChain$Reader", "isRepeated", "(LTrustChain$Slice;)Z"⟩ ⟨"TrustChain$Reader", "isRepeated", "(LTrustChain$Slice;)Z"⟩ ∈ tb := tb_ix (List.mem_map.mpr ⟨("TrustChain$CertificateReader", ⟨"TrustChain$Reader", "isRepeated", "(LTrustChain$Slice;)Z"⟩), List.mem_of_getElem? (i := 5) rfl, rfl⟩) rfl
theorem qx_6 : Cond.selects "TrustChain$ListReader" ⟨"TrustChain$Reader", "digits", "(I)I"⟩ ⟨"TrustChain$Reader", "digits", "(I)I"⟩ ∈ tb := tb_ix (List.mem_map.mpr ⟨("TrustChain$ListReader", ⟨"TrustChain$Reader", "digits", "(I)I"⟩), List.mem_of_getElem? (i := 6) rfl, rfl⟩) rfl
theorem qx_7 : Cond.selects "TrustChain$ListReader" ⟨"TrustChain$Reader", "areDigits", "(II)Z"⟩ ⟨"TrustChain$Reader", "areDigits", "(II)Z"⟩ ∈ tb := tb_ix (List.mem_map.mpr ⟨("TrustChain$ListReader", ⟨"TrustChain$Reader", "areDigits", "(II)Z"⟩), List.mem_of_getElem? (i := 7) rfl, rfl⟩) rfl
theorem qx_8 : Cond.selects "TrustChain$ListReader" ⟨"TrustChain$Reader", "isOid", "(II)Z"⟩ ⟨"TrustChain$Reader", "isOid", "(II)Z"⟩ ∈ tb := tb_ix (List.mem_map.mpr ⟨("TrustChain$ListReader", ⟨"TrustChain$Reader", "isOid", "(II)Z"⟩), List.mem_of_getElem? (i := 8) rfl, rfl⟩) rfl
theorem qx_9 : Cond.selects "TrustChain$ListReader" ⟨"TrustChain$Reader", "isSimple", "(III)Z"⟩ ⟨"TrustChain$Reader", "isSimple", "(III)Z"⟩ ∈ tb := tb_ix (List.mem_map.mpr ⟨("TrustChain$ListReader", ⟨"TrustChain$Reader", "isSimple", "(III)Z"⟩), List.mem_of_getElem? (i := 9) rfl, rfl⟩) rfl
theorem qx_10 : Cond.selects "TrustChain$ListReader" ⟨"TrustChain$Reader", "isUtf8", "(II)Z"⟩ ⟨"TrustChain$Reader", "isUtf8", "(II)Z"⟩ ∈ tb := tb_ix (List.mem_map.mpr ⟨("TrustChain$ListReader", ⟨"TrustChain$Reader", "isUtf8", "(II)Z"⟩), List.mem_of_getElem? (i := 10) rfl, rfl⟩) rfl
theorem qx_11 : Cond.selects "TrustChain$ListReader" ⟨"TrustChain$Reader", "isRepeated", "(LTrustChain$Slice;)Z"⟩ ⟨"TrustChain$Reader", "isRepeated", "(LTrustChain$Slice;)Z"⟩ ∈ tb := tb_ix (List.mem_map.mpr ⟨("TrustChain$ListReader", ⟨"TrustChain$Reader", "isRepeated", "(LTrustChain$Slice;)Z"⟩), List.mem_of_getElem? (i := 11) rfl, rfl⟩) rfl
/-- the words that a callee can't ask of the tables: nests, declarations, casts, arrays of objects -/
def nwords : List Cond := [(Cond.methodLinkNest "TrustChain" (28 : Nat) ({ cls := "TrustChain$Sha256", name := "<init>", desc := "()V" } : MethodName) "TrustChain"), (Cond.methodLinkNest "TrustChain" (42 : Nat) ({ cls := "TrustChain$Search", name := "<init>", desc := "()V" } : MethodName) "TrustChain"), (Cond.methodLinkNest "TrustChain" (49 : Nat) ({ cls := "TrustChain$PathCheck", name := "<init>", desc := "()V" } : MethodName) "TrustChain"), (Cond.castable "java/lang/IndexOutOfBoundsException" "java/lang/IndexOutOfBoundsException"), (Cond.declares ({ cls := "java/lang/RuntimeException", name := "<init>", desc := "()V" } : MethodName)), (Cond.declares ({ cls := "java/lang/RuntimeException", name := "<init>", desc := "(Ljava/lang/String;)V" } : MethodName)), (Cond.declares ({ cls := "java/lang/Exception", name := "<init>", desc := "()V" } : MethodName)), (Cond.declares ({ cls := "java/lang/Exception", name := "<init>", desc := "(Ljava/lang/String;)V" } : MethodName)), (Cond.declares ({ cls := "java/lang/Throwable", name := "<init>", desc := "()V" } : MethodName)), (Cond.declares ({ cls := "java/lang/Throwable", name := "<init>", desc := "(Ljava/lang/String;)V" } : MethodName)), (Cond.castable "[B" "java/lang/Cloneable"), (Cond.fieldLinkNest "TrustChain$CertificateReader" (150 : Nat) "TrustChain$Slice" "from" "I" "TrustChain"), (Cond.fieldLinkNest "TrustChain$CertificateReader" (153 : Nat) "TrustChain$Slice" "to" "I" "TrustChain"), (Cond.methodLinkNest "TrustChain$Certificate" (11 : Nat) ({ cls := "TrustChain$NameSet", name := "<init>", desc := "()V" } : MethodName) "TrustChain"), (Cond.fieldLinkNest "TrustChain$Certificate" (103 : Nat) "TrustChain$NameSet" "dns" "Ljava/util/ArrayList;" "TrustChain"), (Cond.fieldLinkNest "TrustChain$PathCheck" (120 : Nat) "TrustChain$NameSet" "dns" "Ljava/util/ArrayList;" "TrustChain"), (Cond.fieldLinkNest "TrustChain$CertificateReader" (241 : Nat) "TrustChain$NameSet" "dns" "Ljava/util/ArrayList;" "TrustChain"), (Cond.fieldLinkNest "TrustChain$Certificate" (90 : Nat) "TrustChain$NameSet" "directories" "Ljava/util/ArrayList;" "TrustChain"), (Cond.fieldLinkNest "TrustChain$PathCheck" (114 : Nat) "TrustChain$NameSet" "directories" "Ljava/util/ArrayList;" "TrustChain"), (Cond.fieldLinkNest "TrustChain$CertificateReader" (226 : Nat) "TrustChain$NameSet" "directories" "Ljava/util/ArrayList;" "TrustChain"), (Cond.declares ({ cls := "TrustChain$Reader", name := "open", desc := "(II)I" } : MethodName)), (Cond.declares ({ cls := "TrustChain$Reader", name := "number", desc := "(II)LTrustChain$Slice;" } : MethodName)), (Cond.declares ({ cls := "TrustChain$Reader", name := "require", desc := "(Z)V" } : MethodName)), (Cond.declares ({ cls := "TrustChain$Reader", name := "finish", desc := "(I)V" } : MethodName)), (Cond.declares ({ cls := "TrustChain$Reader", name := "serial", desc := "(I)LTrustChain$Slice;" } : MethodName)), (Cond.declares ({ cls := "TrustChain$Reader", name := "algorithm", desc := "(II)V" } : MethodName)), (Cond.declares ({ cls := "TrustChain$Reader", name := "fullName", desc := "(I)LTrustChain$Slice;" } : MethodName)), (Cond.declares ({ cls := "TrustChain$Reader", name := "time", desc := "(I)J" } : MethodName)), (Cond.declares ({ cls := "TrustChain$Reader", name := "name", desc := "(I)LTrustChain$Slice;" } : MethodName)), (Cond.declares ({ cls := "TrustChain$Reader", name := "openBits", desc := "(I)I" } : MethodName)), (Cond.declares ({ cls := "TrustChain$Reader", name := "nextIs", desc := "(II)Z" } : MethodName)), (Cond.declares ({ cls := "TrustChain$Reader", name := "readExtensions", desc := "(I)V" } : MethodName)), (Cond.declares ({ cls := "TrustChain$Reader", name := "readKnown", desc := "(II)Z" } : MethodName)), (Cond.declares ({ cls := "TrustChain$Reader", name := "plain", desc := "(III)LTrustChain$Slice;" } : MethodName)), (Cond.declares ({ cls := "TrustChain$Reader", name := "octet", desc := "(I)I" } : MethodName)), (Cond.declares ({ cls := "TrustChain$Reader", name := "leave", desc := "(IZ)V" } : MethodName)), (Cond.declares ({ cls := "TrustChain$Reader", name := "more", desc := "(I)Z" } : MethodName)), (Cond.arrayOver (FieldType.object "java/lang/Object")), (Cond.declares ({ cls := "TrustChain$Reader", name := "flag", desc := "(I)V" } : MethodName)), (Cond.declares ({ cls := "TrustChain$Reader", name := "issuerKey", desc := "(I)LTrustChain$Slice;" } : MethodName)), (Cond.declares ({ cls := "TrustChain$Reader", name := "readSignature", desc := "(LTrustChain$Paper;I)V" } : MethodName)), (Cond.castable "java/lang/IllegalArgumentException" "java/lang/IllegalArgumentException"), (Cond.declares ({ cls := "TrustChain$Paper", name := "isAt", desc := "(J)Z" } : MethodName)), (Cond.arrayOver (FieldType.object "TrustChainModel$Text")), (Cond.methodLinkNest "TrustChainModel" (26 : Nat) ({ cls := "TrustChainModel$Text", name := "<init>", desc := "()V" } : MethodName) "TrustChainModel"), (Cond.methodLinkNest "TrustChainModel$Text" (79 : Nat) ({ cls := "TrustChainModel", name := "in", desc := "(III)Z" } : MethodName) "TrustChainModel"), (Cond.methodLinkNest "TrustChainModel$Text" (93 : Nat) ({ cls := "TrustChainModel", name := "hexOf", desc := "(I)I" } : MethodName) "TrustChainModel"), (Cond.methodLinkNest "TrustChainModel$Text" (115 : Nat) ({ cls := "TrustChainModel", name := "isIn", desc := "(ILjava/lang/String;)Z" } : MethodName) "TrustChainModel"), (Cond.castable "TrustChain$Slice" "TrustChain$Slice"), (Cond.castable "TrustChain$Certificate" "TrustChain$Certificate"), (Cond.castable "TrustChain$Certificate" "TrustChain$Paper"), (Cond.castable "TrustChain$Paper" "TrustChain$Paper"), (Cond.declares ({ cls := "java/lang/Object", name := "getClass", desc := "()Ljava/lang/Class;" } : MethodName)), (Cond.castable "TrustChain" "java/lang/Object"), (Cond.castable "TrustChain$Sha256" "java/lang/Object"), (Cond.castable "TrustChain$Rsa" "java/lang/Object"), (Cond.castable "TrustChain$Search" "java/lang/Object"), (Cond.castable "TrustChain$PathCheck" "java/lang/Object"), (Cond.castable "TrustChainModel" "java/lang/Object"), (Cond.castable "TrustChainModel$Text" "java/lang/Object"), (Cond.castable "TrustChain$CertificateReader" "java/lang/Object"), (Cond.castable "TrustChain$Slice" "java/lang/Object"), (Cond.castable "TrustChain$Certificate" "java/lang/Object"), (Cond.castable "TrustChain$NameSet" "java/lang/Object"), (Cond.castable "TrustChain$ListReader" "java/lang/Object"), (Cond.castable "TrustChain$Paper" "java/lang/Object"), (Cond.castable "java/lang/String" "java/lang/Object")]
theorem qn1_71 : (Cond.methodLinkNest "TrustChain" (28 : Nat) ({ cls := "TrustChain$Sha256", name := "<init>", desc := "()V" } : MethodName) "TrustChain") ∈ nwords := List.mem_of_getElem? (i := 0) rfl
theorem qn1_114 : (Cond.methodLinkNest "TrustChain" (42 : Nat) ({ cls := "TrustChain$Search", name := "<init>", desc := "()V" } : MethodName) "TrustChain") ∈ nwords := List.mem_of_getElem? (i := 1) rfl
theorem qn1_139 : (Cond.methodLinkNest "TrustChain" (49 : Nat) ({ cls := "TrustChain$PathCheck", name := "<init>", desc := "()V" } : MethodName) "TrustChain") ∈ nwords := List.mem_of_getElem? (i := 2) rfl
theorem qn1_214 : (Cond.castable "java/lang/IndexOutOfBoundsException" "java/lang/IndexOutOfBoundsException") ∈ nwords := List.mem_of_getElem? (i := 3) rfl
theorem qn1_215 : (Cond.declares ({ cls := "java/lang/RuntimeException", name := "<init>", desc := "()V" } : MethodName)) ∈ nwords := List.mem_of_getElem? (i := 4) rfl
theorem qn1_216 : (Cond.declares ({ cls := "java/lang/RuntimeException", name := "<init>", desc := "(Ljava/lang/String;)V" } : MethodName)) ∈ nwords := List.mem_of_getElem? (i := 5) rfl
theorem qn1_217 : (Cond.declares ({ cls := "java/lang/Exception", name := "<init>", desc := "()V" } : MethodName)) ∈ nwords := List.mem_of_getElem? (i := 6) rfl
theorem qn1_218 : (Cond.declares ({ cls := "java/lang/Exception", name := "<init>", desc := "(Ljava/lang/String;)V" } : MethodName)) ∈ nwords := List.mem_of_getElem? (i := 7) rfl
theorem qn1_219 : (Cond.declares ({ cls := "java/lang/Throwable", name := "<init>", desc := "()V" } : MethodName)) ∈ nwords := List.mem_of_getElem? (i := 8) rfl
theorem qn1_220 : (Cond.declares ({ cls := "java/lang/Throwable", name := "<init>", desc := "(Ljava/lang/String;)V" } : MethodName)) ∈ nwords := List.mem_of_getElem? (i := 9) rfl
theorem qn2_73 : (Cond.castable "[B" "java/lang/Cloneable") ∈ nwords := List.mem_of_getElem? (i := 10) rfl
theorem qn2_98 : (Cond.fieldLinkNest "TrustChain$CertificateReader" (150 : Nat) "TrustChain$Slice" "from" "I" "TrustChain") ∈ nwords := List.mem_of_getElem? (i := 11) rfl
theorem qn2_100 : (Cond.fieldLinkNest "TrustChain$CertificateReader" (153 : Nat) "TrustChain$Slice" "to" "I" "TrustChain") ∈ nwords := List.mem_of_getElem? (i := 12) rfl
theorem qn2_121 : (Cond.methodLinkNest "TrustChain$Certificate" (11 : Nat) ({ cls := "TrustChain$NameSet", name := "<init>", desc := "()V" } : MethodName) "TrustChain") ∈ nwords := List.mem_of_getElem? (i := 13) rfl
theorem qn2_128 : (Cond.fieldLinkNest "TrustChain$Certificate" (103 : Nat) "TrustChain$NameSet" "dns" "Ljava/util/ArrayList;" "TrustChain") ∈ nwords := List.mem_of_getElem? (i := 14) rfl
theorem qn2_129 : (Cond.fieldLinkNest "TrustChain$PathCheck" (120 : Nat) "TrustChain$NameSet" "dns" "Ljava/util/ArrayList;" "TrustChain") ∈ nwords := List.mem_of_getElem? (i := 15) rfl
theorem qn2_130 : (Cond.fieldLinkNest "TrustChain$CertificateReader" (241 : Nat) "TrustChain$NameSet" "dns" "Ljava/util/ArrayList;" "TrustChain") ∈ nwords := List.mem_of_getElem? (i := 16) rfl
theorem qn2_132 : (Cond.fieldLinkNest "TrustChain$Certificate" (90 : Nat) "TrustChain$NameSet" "directories" "Ljava/util/ArrayList;" "TrustChain") ∈ nwords := List.mem_of_getElem? (i := 17) rfl
theorem qn2_133 : (Cond.fieldLinkNest "TrustChain$PathCheck" (114 : Nat) "TrustChain$NameSet" "directories" "Ljava/util/ArrayList;" "TrustChain") ∈ nwords := List.mem_of_getElem? (i := 18) rfl
theorem qn2_134 : (Cond.fieldLinkNest "TrustChain$CertificateReader" (226 : Nat) "TrustChain$NameSet" "directories" "Ljava/util/ArrayList;" "TrustChain") ∈ nwords := List.mem_of_getElem? (i := 19) rfl
theorem qn3_118 : (Cond.declares ({ cls := "TrustChain$Reader", name := "open", desc := "(II)I" } : MethodName)) ∈ nwords := List.mem_of_getElem? (i := 20) rfl
theorem qn3_134 : (Cond.declares ({ cls := "TrustChain$Reader", name := "number", desc := "(II)LTrustChain$Slice;" } : MethodName)) ∈ nwords := List.mem_of_getElem? (i := 21) rfl
theorem qn3_161 : (Cond.declares ({ cls := "TrustChain$Reader", name := "require", desc := "(Z)V" } : MethodName)) ∈ nwords := List.mem_of_getElem? (i := 22) rfl
theorem qn3_167 : (Cond.declares ({ cls := "TrustChain$Reader", name := "finish", desc := "(I)V" } : MethodName)) ∈ nwords := List.mem_of_getElem? (i := 23) rfl
theorem qn3_173 : (Cond.declares ({ cls := "TrustChain$Reader", name := "serial", desc := "(I)LTrustChain$Slice;" } : MethodName)) ∈ nwords := List.mem_of_getElem? (i := 24) rfl
theorem qn3_183 : (Cond.declares ({ cls := "TrustChain$Reader", name := "algorithm", desc := "(II)V" } : MethodName)) ∈ nwords := List.mem_of_getElem? (i := 25) rfl
theorem qn3_192 : (Cond.declares ({ cls := "TrustChain$Reader", name := "fullName", desc := "(I)LTrustChain$Slice;" } : MethodName)) ∈ nwords := List.mem_of_getElem? (i := 26) rfl
theorem qn4_86 : (Cond.declares ({ cls := "TrustChain$Reader", name := "time", desc := "(I)J" } : MethodName)) ∈ nwords := List.mem_of_getElem? (i := 27) rfl
theorem qn4_115 : (Cond.declares ({ cls := "TrustChain$Reader", name := "name", desc := "(I)LTrustChain$Slice;" } : MethodName)) ∈ nwords := List.mem_of_getElem? (i := 28) rfl
theorem qn4_131 : (Cond.declares ({ cls := "TrustChain$Reader", name := "openBits", desc := "(I)I" } : MethodName)) ∈ nwords := List.mem_of_getElem? (i := 29) rfl
theorem qn4_147 : (Cond.declares ({ cls := "TrustChain$Reader", name := "nextIs", desc := "(II)Z" } : MethodName)) ∈ nwords := List.mem_of_getElem? (i := 30) rfl
theorem qn4_151 : (Cond.declares ({ cls := "TrustChain$Reader", name := "readExtensions", desc := "(I)V" } : MethodName)) ∈ nwords := List.mem_of_getElem? (i := 31) rfl
theorem qn4_169 : (Cond.declares ({ cls := "TrustChain$Reader", name := "readKnown", desc := "(II)Z" } : MethodName)) ∈ nwords := List.mem_of_getElem? (i := 32) rfl
theorem qn4_176 : (Cond.declares ({ cls := "TrustChain$Reader", name := "plain", desc := "(III)LTrustChain$Slice;" } : MethodName)) ∈ nwords := List.mem_of_getElem? (i := 33) rfl
theorem qn4_186 : (Cond.declares ({ cls := "TrustChain$Reader", name := "octet", desc := "(I)I" } : MethodName)) ∈ nwords := List.mem_of_getElem? (i := 34) rfl
theorem qn4_190 : (Cond.declares ({ cls := "TrustChain$Reader", name := "leave", desc := "(IZ)V" } : MethodName)) ∈ nwords := List.mem_of_getElem? (i := 35) rfl
theorem qn4_198 : (Cond.declares ({ cls := "TrustChain$Reader", name := "more", desc := "(I)Z" } : MethodName)) ∈ nwords := List.mem_of_getElem? (i := 36) rfl
theorem qn5_11 : (Cond.arrayOver (FieldType.object "java/lang/Object")) ∈ nwords := List.mem_of_getElem? (i := 37) rfl
theorem qn5_24 : (Cond.declares ({ cls := "TrustChain$Reader", name := "flag", desc := "(I)V" } : MethodName)) ∈ nwords := List.mem_of_getElem? (i := 38) rfl
theorem qn5_33 : (Cond.declares ({ cls := "TrustChain$Reader", name := "issuerKey", desc := "(I)LTrustChain$Slice;" } : MethodName)) ∈ nwords := List.mem_of_getElem? (i := 39) rfl
theorem qn5_78 : (Cond.declares ({ cls := "TrustChain$Reader", name := "readSignature", desc := "(LTrustChain$Paper;I)V" } : MethodName)) ∈ nwords := List.mem_of_getElem? (i := 40) rfl
theorem qn5_86 : (Cond.castable "java/lang/IllegalArgumentException" "java/lang/IllegalArgumentException") ∈ nwords := List.mem_of_getElem? (i := 41) rfl
theorem qn6_148 : (Cond.declares ({ cls := "TrustChain$Paper", name := "isAt", desc := "(J)Z" } : MethodName)) ∈ nwords := List.mem_of_getElem? (i := 42) rfl
theorem qn7_24 : (Cond.arrayOver (FieldType.object "TrustChainModel$Text")) ∈ nwords := List.mem_of_getElem? (i := 43) rfl
theorem qn7_26 : (Cond.methodLinkNest "TrustChainModel" (26 : Nat) ({ cls := "TrustChainModel$Text", name := "<init>", desc := "()V" } : MethodName) "TrustChainModel") ∈ nwords := List.mem_of_getElem? (i := 44) rfl
theorem qn8_207 : (Cond.methodLinkNest "TrustChainModel$Text" (79 : Nat) ({ cls := "TrustChainModel", name := "in", desc := "(III)Z" } : MethodName) "TrustChainModel") ∈ nwords := List.mem_of_getElem? (i := 45) rfl
theorem qn9_2 : (Cond.methodLinkNest "TrustChainModel$Text" (93 : Nat) ({ cls := "TrustChainModel", name := "hexOf", desc := "(I)I" } : MethodName) "TrustChainModel") ∈ nwords := List.mem_of_getElem? (i := 46) rfl
theorem qn9_30 : (Cond.methodLinkNest "TrustChainModel$Text" (115 : Nat) ({ cls := "TrustChainModel", name := "isIn", desc := "(ILjava/lang/String;)Z" } : MethodName) "TrustChainModel") ∈ nwords := List.mem_of_getElem? (i := 47) rfl
theorem qn10_47 : (Cond.castable "TrustChain$Slice" "TrustChain$Slice") ∈ nwords := List.mem_of_getElem? (i := 48) rfl
theorem qn10_48 : (Cond.castable "TrustChain$Certificate" "TrustChain$Certificate") ∈ nwords := List.mem_of_getElem? (i := 49) rfl
theorem qn10_49 : (Cond.castable "TrustChain$Certificate" "TrustChain$Paper") ∈ nwords := List.mem_of_getElem? (i := 50) rfl
theorem qn10_50 : (Cond.castable "TrustChain$Paper" "TrustChain$Paper") ∈ nwords := List.mem_of_getElem? (i := 51) rfl
theorem qn10_53 : (Cond.declares ({ cls := "java/lang/Object", name := "getClass", desc := "()Ljava/lang/Class;" } : MethodName)) ∈ nwords := List.mem_of_getElem? (i := 52) rfl
theorem qn10_54 : (Cond.castable "TrustChain" "java/lang/Object") ∈ nwords := List.mem_of_getElem? (i := 53) rfl
theorem qn10_55 : (Cond.castable "TrustChain$Sha256" "java/lang/Object") ∈ nwords := List.mem_of_getElem? (i := 54) rfl
theorem qn10_56 : (Cond.castable "TrustChain$Rsa" "java/lang/Object") ∈ nwords := List.mem_of_getElem? (i := 55) rfl
theorem qn10_57 : (Cond.castable "TrustChain$Search" "java/lang/Object") ∈ nwords := List.mem_of_getElem? (i := 56) rfl
theorem qn10_58 : (Cond.castable "TrustChain$PathCheck" "java/lang/Object") ∈ nwords := List.mem_of_getElem? (i := 57) rfl
theorem qn10_59 : (Cond.castable "TrustChainModel" "java/lang/Object") ∈ nwords := List.mem_of_getElem? (i := 58) rfl
theorem qn10_60 : (Cond.castable "TrustChainModel$Text" "java/lang/Object") ∈ nwords := List.mem_of_getElem? (i := 59) rfl
theorem qn10_61 : (Cond.castable "TrustChain$CertificateReader" "java/lang/Object") ∈ nwords := List.mem_of_getElem? (i := 60) rfl
theorem qn10_62 : (Cond.castable "TrustChain$Slice" "java/lang/Object") ∈ nwords := List.mem_of_getElem? (i := 61) rfl
theorem qn10_63 : (Cond.castable "TrustChain$Certificate" "java/lang/Object") ∈ nwords := List.mem_of_getElem? (i := 62) rfl
theorem qn10_64 : (Cond.castable "TrustChain$NameSet" "java/lang/Object") ∈ nwords := List.mem_of_getElem? (i := 63) rfl
theorem qn10_65 : (Cond.castable "TrustChain$ListReader" "java/lang/Object") ∈ nwords := List.mem_of_getElem? (i := 64) rfl
theorem qn10_66 : (Cond.castable "TrustChain$Paper" "java/lang/Object") ∈ nwords := List.mem_of_getElem? (i := 65) rfl
theorem qn10_67 : (Cond.castable "java/lang/String" "java/lang/Object") ∈ nwords := List.mem_of_getElem? (i := 66) rfl
theorem nwords_lw : ∀ w ∈ nwords, w ∈ lw_tbl := by
  intro w hw
  obtain ⟨k, hk⟩ := List.getElem?_of_mem hw
  match k, hk with
  | 0, hk => cases hk; exact q1_71
  | 1, hk => cases hk; exact q1_114
  | 2, hk => cases hk; exact q1_139
  | 3, hk => cases hk; exact q1_214
  | 4, hk => cases hk; exact q1_215
  | 5, hk => cases hk; exact q1_216
  | 6, hk => cases hk; exact q1_217
  | 7, hk => cases hk; exact q1_218
  | 8, hk => cases hk; exact q1_219
  | 9, hk => cases hk; exact q1_220
  | 10, hk => cases hk; exact q2_73
  | 11, hk => cases hk; exact q2_98
  | 12, hk => cases hk; exact q2_100
  | 13, hk => cases hk; exact q2_121
  | 14, hk => cases hk; exact q2_128
  | 15, hk => cases hk; exact q2_129
  | 16, hk => cases hk; exact q2_130
  | 17, hk => cases hk; exact q2_132
  | 18, hk => cases hk; exact q2_133
  | 19, hk => cases hk; exact q2_134
  | 20, hk => cases hk; exact q3_118
  | 21, hk => cases hk; exact q3_134
  | 22, hk => cases hk; exact q3_161
  | 23, hk => cases hk; exact q3_167
  | 24, hk => cases hk; exact q3_173
  | 25, hk => cases hk; exact q3_183
  | 26, hk => cases hk; exact q3_192
  | 27, hk => cases hk; exact q4_86
  | 28, hk => cases hk; exact q4_115
  | 29, hk => cases hk; exact q4_131
  | 30, hk => cases hk; exact q4_147
  | 31, hk => cases hk; exact q4_151
  | 32, hk => cases hk; exact q4_169
  | 33, hk => cases hk; exact q4_176
  | 34, hk => cases hk; exact q4_186
  | 35, hk => cases hk; exact q4_190
  | 36, hk => cases hk; exact q4_198
  | 37, hk => cases hk; exact q5_11
  | 38, hk => cases hk; exact q5_24
  | 39, hk => cases hk; exact q5_33
  | 40, hk => cases hk; exact q5_78
  | 41, hk => cases hk; exact q5_86
  | 42, hk => cases hk; exact q6_148
  | 43, hk => cases hk; exact q7_24
  | 44, hk => cases hk; exact q7_26
  | 45, hk => cases hk; exact q8_207
  | 46, hk => cases hk; exact q9_2
  | 47, hk => cases hk; exact q9_30
  | 48, hk => cases hk; exact q10_47
  | 49, hk => cases hk; exact q10_48
  | 50, hk => cases hk; exact q10_49
  | 51, hk => cases hk; exact q10_50
  | 52, hk => cases hk; exact q10_53
  | 53, hk => cases hk; exact q10_54
  | 54, hk => cases hk; exact q10_55
  | 55, hk => cases hk; exact q10_56
  | 56, hk => cases hk; exact q10_57
  | 57, hk => cases hk; exact q10_58
  | 58, hk => cases hk; exact q10_59
  | 59, hk => cases hk; exact q10_60
  | 60, hk => cases hk; exact q10_61
  | 61, hk => cases hk; exact q10_62
  | 62, hk => cases hk; exact q10_63
  | 63, hk => cases hk; exact q10_64
  | 64, hk => cases hk; exact q10_65
  | 65, hk => cases hk; exact q10_66
  | 66, hk => cases hk; exact q10_67
  | k + 67, hk => simp [nwords] at hk
end
section
def F_Slice : u_T := fun k => match k with
  | 0 => ("TrustChain$Slice", "text", "[B", true)
  | 1 => ("TrustChain$Slice", "from", "I", true)
  | _ => ("TrustChain$Slice", "to", "I", true)
def t_Slice : Nat → FieldType := fun k => match k with
  | 0 => (.array .byte)
  | 1 => .int
  | _ => .int
theorem n_Slice : ∀ a, a < 3 → ∀ b, b < 3 → a ≠ b → (F_Slice a).2.1 ≠ (F_Slice b).2.1 := by decide +kernel
theorem t_Slice_ok : ∀ k, k < 3 → parseFieldDescriptor (F_Slice k).2.2.1 = some (t_Slice k) := by decide +kernel
theorem i_Slice : ∀ w ∈ u_ws "TrustChain$Slice" F_Slice 3, w ∈ tb := by
  intro w hw
  obtain ⟨k, hk, rfl⟩ := List.mem_map.mp hw
  have hk := List.mem_range.mp hk
  match k, hk with
  | 0, _ => exact q2_101
  | 1, _ => exact q2_103
  | 2, _ => exact q2_105
  | k + 3, h => exact absurd h (by omega)
def F_NameSet : u_T := fun k => match k with
  | 0 => ("TrustChain$NameSet", "dns", "Ljava/util/ArrayList;", true)
  | _ => ("TrustChain$NameSet", "directories", "Ljava/util/ArrayList;", true)
def t_NameSet : Nat → FieldType := fun k => match k with
  | 0 => (.object "java/util/ArrayList")
  | _ => (.object "java/util/ArrayList")
theorem n_NameSet : ∀ a, a < 2 → ∀ b, b < 2 → a ≠ b → (F_NameSet a).2.1 ≠ (F_NameSet b).2.1 := by decide +kernel
theorem t_NameSet_ok : ∀ k, k < 2 → parseFieldDescriptor (F_NameSet k).2.2.1 = some (t_NameSet k) := by decide +kernel
theorem i_NameSet : ∀ w ∈ u_ws "TrustChain$NameSet" F_NameSet 2, w ∈ tb := by
  intro w hw
  obtain ⟨k, hk, rfl⟩ := List.mem_map.mp hw
  have hk := List.mem_range.mp hk
  match k, hk with
  | 0, _ => exact q2_135
  | 1, _ => exact q2_137
  | k + 2, h => exact absurd h (by omega)
def F_Paper : u_T := fun k => match k with
  | 0 => ("TrustChain$Paper", "hash", "[I", true)
  | 1 => ("TrustChain$Paper", "signers", "[I", true)
  | 2 => ("TrustChain$Paper", "entries", "Ljava/util/ArrayList;", true)
  | 3 => ("TrustChain$Paper", "body", "LTrustChain$Slice;", false)
  | 4 => ("TrustChain$Paper", "signature", "LTrustChain$Slice;", false)
  | 5 => ("TrustChain$Paper", "issuer", "LTrustChain$Slice;", false)
  | 6 => ("TrustChain$Paper", "first", "J", false)
  | 7 => ("TrustChain$Paper", "last", "J", false)
  | _ => ("TrustChain$Paper", "matters", "I", false)
def t_Paper : Nat → FieldType := fun k => match k with
  | 0 => (.array .int)
  | 1 => (.array .int)
  | 2 => (.object "java/util/ArrayList")
  | 3 => (.object "TrustChain$Slice")
  | 4 => (.object "TrustChain$Slice")
  | 5 => (.object "TrustChain$Slice")
  | 6 => .long
  | 7 => .long
  | _ => .int
theorem n_Paper : ∀ a, a < 9 → ∀ b, b < 9 → a ≠ b → (F_Paper a).2.1 ≠ (F_Paper b).2.1 := by decide +kernel
theorem t_Paper_ok : ∀ k, k < 9 → parseFieldDescriptor (F_Paper k).2.2.1 = some (t_Paper k) := by decide +kernel
theorem i_Paper : ∀ w ∈ u_ws "TrustChain$Paper" F_Paper 9, w ∈ tb := by
  intro w hw
  obtain ⟨k, hk, rfl⟩ := List.mem_map.mp hw
  have hk := List.mem_range.mp hk
  match k, hk with
  | 0, _ => exact q5_154
  | 1, _ => exact q5_155
  | 2, _ => exact q5_156
  | 3, _ => exact q5_157
  | 4, _ => exact q5_158
  | 5, _ => exact q5_159
  | 6, _ => exact q5_160
  | 7, _ => exact q5_161
  | 8, _ => exact q5_162
  | k + 9, h => exact absurd h (by omega)
def F_Certificate : u_T := fun k => match k with
  | 0 => ("TrustChain$Certificate", "names", "LTrustChain$NameSet;", true)
  | 1 => ("TrustChain$Certificate", "permitted", "LTrustChain$NameSet;", true)
  | 2 => ("TrustChain$Certificate", "excluded", "LTrustChain$NameSet;", true)
  | 3 => ("TrustChain$Certificate", "serial", "LTrustChain$Slice;", false)
  | 4 => ("TrustChain$Certificate", "subject", "LTrustChain$Slice;", false)
  | 5 => ("TrustChain$Certificate", "modulus", "LTrustChain$Slice;", false)
  | 6 => ("TrustChain$Certificate", "ownKey", "LTrustChain$Slice;", false)
  | 7 => ("TrustChain$Certificate", "issuerKey", "LTrustChain$Slice;", false)
  | 8 => ("TrustChain$Certificate", "subjectParts", "I", false)
  | 9 => ("TrustChain$Certificate", "modulusBits", "I", false)
  | 10 => ("TrustChain$Certificate", "exponent", "I", false)
  | 11 => ("TrustChain$Certificate", "ca", "Z", false)
  | 12 => ("TrustChain$Certificate", "pathLength", "I", false)
  | 13 => ("TrustChain$Certificate", "usage", "I", false)
  | 14 => ("TrustChain$Certificate", "extensions", "I", false)
  | 15 => ("TrustChain$Certificate", "selfIssued", "Z", false)
  | 16 => ("TrustChain$Certificate", "trusted", "Z", false)
  | 17 => ("TrustChain$Certificate", "number", "I", false)
  | 18 => ("TrustChain$Certificate", "issuers", "I", false)
  | 19 => ("TrustChain$Paper", "hash", "[I", true)
  | 20 => ("TrustChain$Paper", "signers", "[I", true)
  | 21 => ("TrustChain$Paper", "entries", "Ljava/util/ArrayList;", true)
  | 22 => ("TrustChain$Paper", "body", "LTrustChain$Slice;", false)
  | 23 => ("TrustChain$Paper", "signature", "LTrustChain$Slice;", false)
  | 24 => ("TrustChain$Paper", "issuer", "LTrustChain$Slice;", false)
  | 25 => ("TrustChain$Paper", "first", "J", false)
  | 26 => ("TrustChain$Paper", "last", "J", false)
  | _ => ("TrustChain$Paper", "matters", "I", false)
def t_Certificate : Nat → FieldType := fun k => match k with
  | 0 => (.object "TrustChain$NameSet")
  | 1 => (.object "TrustChain$NameSet")
  | 2 => (.object "TrustChain$NameSet")
  | 3 => (.object "TrustChain$Slice")
  | 4 => (.object "TrustChain$Slice")
  | 5 => (.object "TrustChain$Slice")
  | 6 => (.object "TrustChain$Slice")
  | 7 => (.object "TrustChain$Slice")
  | 8 => .int
  | 9 => .int
  | 10 => .int
  | 11 => .boolean
  | 12 => .int
  | 13 => .int
  | 14 => .int
  | 15 => .boolean
  | 16 => .boolean
  | 17 => .int
  | 18 => .int
  | 19 => (.array .int)
  | 20 => (.array .int)
  | 21 => (.object "java/util/ArrayList")
  | 22 => (.object "TrustChain$Slice")
  | 23 => (.object "TrustChain$Slice")
  | 24 => (.object "TrustChain$Slice")
  | 25 => .long
  | 26 => .long
  | _ => .int
theorem n_Certificate : ∀ a, a < 28 → ∀ b, b < 28 → a ≠ b → (F_Certificate a).2.1 ≠ (F_Certificate b).2.1 := by decide +kernel
theorem t_Certificate_ok : ∀ k, k < 28 → parseFieldDescriptor (F_Certificate k).2.2.1 = some (t_Certificate k) := by decide +kernel
theorem i_Certificate : ∀ w ∈ u_ws "TrustChain$Certificate" F_Certificate 28, w ∈ tb := by
  intro w hw
  obtain ⟨k, hk, rfl⟩ := List.mem_map.mp hw
  have hk := List.mem_range.mp hk
  match k, hk with
  | 0, _ => exact q2_239
  | 1, _ => exact q3_1
  | 2, _ => exact q3_3
  | 3, _ => exact q3_5
  | 4, _ => exact q3_7
  | 5, _ => exact q3_9
  | 6, _ => exact q3_11
  | 7, _ => exact q3_13
  | 8, _ => exact q3_15
  | 9, _ => exact q3_17
  | 10, _ => exact q3_19
  | 11, _ => exact q3_21
  | 12, _ => exact q3_23
  | 13, _ => exact q3_25
  | 14, _ => exact q3_27
  | 15, _ => exact q3_29
  | 16, _ => exact q3_31
  | 17, _ => exact q3_33
  | 18, _ => exact q3_35
  | 19, _ => exact q3_37
  | 20, _ => exact q3_39
  | 21, _ => exact q3_41
  | 22, _ => exact q3_43
  | 23, _ => exact q3_45
  | 24, _ => exact q3_47
  | 25, _ => exact q3_49
  | 26, _ => exact q3_51
  | 27, _ => exact q3_53
  | k + 28, h => exact absurd h (by omega)
def F_CertificateReader : u_T := fun k => match k with
  | 0 => ("TrustChain$CertificateReader", "result", "LTrustChain$Certificate;", true)
  | 1 => ("TrustChain$Reader", "text", "[B", true)
  | 2 => ("TrustChain$Reader", "nothing", "LTrustChain$Slice;", true)
  | 3 => ("TrustChain$Reader", "place", "I", false)
  | 4 => ("TrustChain$Reader", "start", "I", false)
  | 5 => ("TrustChain$Reader", "wrongAt", "I", false)
  | 6 => ("TrustChain$Reader", "parts", "I", false)
  | 7 => ("TrustChain$Reader", "matters", "I", false)
  | 8 => ("TrustChain$Reader", "extensions", "I", false)
  | _ => ("TrustChain$Reader", "kinds", "Ljava/util/ArrayList;", true)
def t_CertificateReader : Nat → FieldType := fun k => match k with
  | 0 => (.object "TrustChain$Certificate")
  | 1 => (.array .byte)
  | 2 => (.object "TrustChain$Slice")
  | 3 => .int
  | 4 => .int
  | 5 => .int
  | 6 => .int
  | 7 => .int
  | 8 => .int
  | _ => (.object "java/util/ArrayList")
theorem n_CertificateReader : ∀ a, a < 10 → ∀ b, b < 10 → a ≠ b → (F_CertificateReader a).2.1 ≠ (F_CertificateReader b).2.1 := by decide +kernel
theorem t_CertificateReader_ok : ∀ k, k < 10 → parseFieldDescriptor (F_CertificateReader k).2.2.1 = some (t_CertificateReader k) := by decide +kernel
theorem i_CertificateReader : ∀ w ∈ u_ws "TrustChain$CertificateReader" F_CertificateReader 10, w ∈ tb := by
  intro w hw
  obtain ⟨k, hk, rfl⟩ := List.mem_map.mp hw
  have hk := List.mem_range.mp hk
  match k, hk with
  | 0, _ => exact q3_91
  | 1, _ => exact q3_93
  | 2, _ => exact q3_95
  | 3, _ => exact q3_97
  | 4, _ => exact q3_99
  | 5, _ => exact q3_101
  | 6, _ => exact q3_103
  | 7, _ => exact q3_105
  | 8, _ => exact q3_107
  | 9, _ => exact q3_109
  | k + 10, h => exact absurd h (by omega)
def F_ListReader : u_T := fun k => match k with
  | 0 => ("TrustChain$ListReader", "result", "LTrustChain$Paper;", true)
  | 1 => ("TrustChain$ListReader", "inEntry", "Z", false)
  | 2 => ("TrustChain$Reader", "text", "[B", true)
  | 3 => ("TrustChain$Reader", "nothing", "LTrustChain$Slice;", true)
  | 4 => ("TrustChain$Reader", "place", "I", false)
  | 5 => ("TrustChain$Reader", "start", "I", false)
  | 6 => ("TrustChain$Reader", "wrongAt", "I", false)
  | 7 => ("TrustChain$Reader", "parts", "I", false)
  | 8 => ("TrustChain$Reader", "matters", "I", false)
  | 9 => ("TrustChain$Reader", "extensions", "I", false)
  | _ => ("TrustChain$Reader", "kinds", "Ljava/util/ArrayList;", true)
def t_ListReader : Nat → FieldType := fun k => match k with
  | 0 => (.object "TrustChain$Paper")
  | 1 => .boolean
  | 2 => (.array .byte)
  | 3 => (.object "TrustChain$Slice")
  | 4 => .int
  | 5 => .int
  | 6 => .int
  | 7 => .int
  | 8 => .int
  | 9 => .int
  | _ => (.object "java/util/ArrayList")
theorem n_ListReader : ∀ a, a < 11 → ∀ b, b < 11 → a ≠ b → (F_ListReader a).2.1 ≠ (F_ListReader b).2.1 := by decide +kernel
theorem t_ListReader_ok : ∀ k, k < 11 → parseFieldDescriptor (F_ListReader k).2.2.1 = some (t_ListReader k) := by decide +kernel
theorem i_ListReader : ∀ w ∈ u_ws "TrustChain$ListReader" F_ListReader 11, w ∈ tb := by
  intro w hw
  obtain ⟨k, hk, rfl⟩ := List.mem_map.mp hw
  have hk := List.mem_range.mp hk
  match k, hk with
  | 0, _ => exact q5_167
  | 1, _ => exact q5_169
  | 2, _ => exact q5_171
  | 3, _ => exact q5_172
  | 4, _ => exact q5_173
  | 5, _ => exact q5_174
  | 6, _ => exact q5_175
  | 7, _ => exact q5_176
  | 8, _ => exact q5_177
  | 9, _ => exact q5_178
  | 10, _ => exact q5_179
  | k + 11, h => exact absurd h (by omega)
def F_Sha256 : u_T := fun k => match k with
  | _ => ("TrustChain$Sha256", "schedule", "[I", true)
def t_Sha256 : Nat → FieldType := fun k => match k with
  | _ => (.array .int)
theorem n_Sha256 : ∀ a, a < 1 → ∀ b, b < 1 → a ≠ b → (F_Sha256 a).2.1 ≠ (F_Sha256 b).2.1 := by decide +kernel
theorem t_Sha256_ok : ∀ k, k < 1 → parseFieldDescriptor (F_Sha256 k).2.2.1 = some (t_Sha256 k) := by decide +kernel
theorem i_Sha256 : ∀ w ∈ u_ws "TrustChain$Sha256" F_Sha256 1, w ∈ tb := by
  intro w hw
  obtain ⟨k, hk, rfl⟩ := List.mem_map.mp hw
  have hk := List.mem_range.mp hk
  match k, hk with
  | 0, _ => exact q1_76
  | k + 1, h => exact absurd h (by omega)
def F_Rsa : u_T := fun k => match k with
  | 0 => ("TrustChain$Rsa", "modulus", "[J", true)
  | 1 => ("TrustChain$Rsa", "square", "[J", true)
  | 2 => ("TrustChain$Rsa", "base", "[J", true)
  | 3 => ("TrustChain$Rsa", "power", "[J", true)
  | 4 => ("TrustChain$Rsa", "unit", "[J", true)
  | 5 => ("TrustChain$Rsa", "sum", "[J", true)
  | 6 => ("TrustChain$Rsa", "limbs", "I", false)
  | _ => ("TrustChain$Rsa", "inverse", "J", false)
def t_Rsa : Nat → FieldType := fun k => match k with
  | 0 => (.array .long)
  | 1 => (.array .long)
  | 2 => (.array .long)
  | 3 => (.array .long)
  | 4 => (.array .long)
  | 5 => (.array .long)
  | 6 => .int
  | _ => .long
theorem n_Rsa : ∀ a, a < 8 → ∀ b, b < 8 → a ≠ b → (F_Rsa a).2.1 ≠ (F_Rsa b).2.1 := by decide +kernel
theorem t_Rsa_ok : ∀ k, k < 8 → parseFieldDescriptor (F_Rsa k).2.2.1 = some (t_Rsa k) := by decide +kernel
theorem i_Rsa : ∀ w ∈ u_ws "TrustChain$Rsa" F_Rsa 8, w ∈ tb := by
  intro w hw
  obtain ⟨k, hk, rfl⟩ := List.mem_map.mp hw
  have hk := List.mem_range.mp hk
  match k, hk with
  | 0, _ => exact q1_94
  | 1, _ => exact q1_96
  | 2, _ => exact q1_98
  | 3, _ => exact q1_100
  | 4, _ => exact q1_102
  | 5, _ => exact q1_104
  | 6, _ => exact q1_106
  | 7, _ => exact q1_108
  | k + 8, h => exact absurd h (by omega)
def F_Search : u_T := fun k => match k with
  | 0 => ("TrustChain$Search", "path", "Ljava/util/ArrayList;", true)
  | 1 => ("TrustChain$Search", "next", "[I", true)
  | 2 => ("TrustChain$Search", "depth", "I", false)
  | 3 => ("TrustChain$Search", "puts", "I", false)
  | _ => ("TrustChain$Search", "onPath", "I", false)
def t_Search : Nat → FieldType := fun k => match k with
  | 0 => (.object "java/util/ArrayList")
  | 1 => (.array .int)
  | 2 => .int
  | 3 => .int
  | _ => .int
theorem n_Search : ∀ a, a < 5 → ∀ b, b < 5 → a ≠ b → (F_Search a).2.1 ≠ (F_Search b).2.1 := by decide +kernel
theorem t_Search_ok : ∀ k, k < 5 → parseFieldDescriptor (F_Search k).2.2.1 = some (t_Search k) := by decide +kernel
theorem i_Search : ∀ w ∈ u_ws "TrustChain$Search" F_Search 5, w ∈ tb := by
  intro w hw
  obtain ⟨k, hk, rfl⟩ := List.mem_map.mp hw
  have hk := List.mem_range.mp hk
  match k, hk with
  | 0, _ => exact q1_126
  | 1, _ => exact q1_128
  | 2, _ => exact q1_130
  | 3, _ => exact q1_132
  | 4, _ => exact q1_134
  | k + 5, h => exact absurd h (by omega)
def F_PathCheck : u_T := fun k => match k with
  | 0 => ("TrustChain$PathCheck", "faultPlace", "I", false)
  | 1 => ("TrustChain$PathCheck", "time", "J", false)
  | 2 => ("TrustChain$PathCheck", "knownWanted", "Z", false)
  | _ => ("TrustChain$PathCheck", "isKnown", "Z", false)
def t_PathCheck : Nat → FieldType := fun k => match k with
  | 0 => .int
  | 1 => .long
  | 2 => .boolean
  | _ => .boolean
theorem n_PathCheck : ∀ a, a < 4 → ∀ b, b < 4 → a ≠ b → (F_PathCheck a).2.1 ≠ (F_PathCheck b).2.1 := by decide +kernel
theorem t_PathCheck_ok : ∀ k, k < 4 → parseFieldDescriptor (F_PathCheck k).2.2.1 = some (t_PathCheck k) := by decide +kernel
theorem i_PathCheck : ∀ w ∈ u_ws "TrustChain$PathCheck" F_PathCheck 4, w ∈ tb := by
  intro w hw
  obtain ⟨k, hk, rfl⟩ := List.mem_map.mp hw
  have hk := List.mem_range.mp hk
  match k, hk with
  | 0, _ => exact q1_148
  | 1, _ => exact q1_150
  | 2, _ => exact q1_152
  | 3, _ => exact q1_154
  | k + 4, h => exact absurd h (by omega)
def F_Trust : u_T := fun k => match k with
  | 0 => ("TrustChain", "fed", "[B", true)
  | 1 => ("TrustChain", "host", "[B", true)
  | 2 => ("TrustChain", "certificates", "Ljava/util/ArrayList;", true)
  | 3 => ("TrustChain", "lists", "Ljava/util/ArrayList;", true)
  | 4 => ("TrustChain", "sha", "LTrustChain$Sha256;", true)
  | 5 => ("TrustChain", "rsa", "LTrustChain$Rsa;", true)
  | 6 => ("TrustChain", "search", "LTrustChain$Search;", true)
  | 7 => ("TrustChain", "check", "LTrustChain$PathCheck;", true)
  | 8 => ("TrustChain", "found", "[I", true)
  | 9 => ("TrustChain", "foundSize", "I", false)
  | 10 => ("TrustChain", "chainsSeen", "I", false)
  | 11 => ("TrustChain", "faultPlace", "I", false)
  | 12 => ("TrustChain", "fedSize", "I", false)
  | _ => ("TrustChain", "wrongPlace", "I", false)
def t_Trust : Nat → FieldType := fun k => match k with
  | 0 => (.array .byte)
  | 1 => (.array .byte)
  | 2 => (.object "java/util/ArrayList")
  | 3 => (.object "java/util/ArrayList")
  | 4 => (.object "TrustChain$Sha256")
  | 5 => (.object "TrustChain$Rsa")
  | 6 => (.object "TrustChain$Search")
  | 7 => (.object "TrustChain$PathCheck")
  | 8 => (.array .int)
  | 9 => .int
  | 10 => .int
  | 11 => .int
  | 12 => .int
  | _ => .int
theorem n_Trust : ∀ a, a < 14 → ∀ b, b < 14 → a ≠ b → (F_Trust a).2.1 ≠ (F_Trust b).2.1 := by decide +kernel
theorem t_Trust_ok : ∀ k, k < 14 → parseFieldDescriptor (F_Trust k).2.2.1 = some (t_Trust k) := by decide +kernel
theorem i_Trust : ∀ w ∈ u_ws "TrustChain" F_Trust 14, w ∈ tb := by
  intro w hw
  obtain ⟨k, hk, rfl⟩ := List.mem_map.mp hw
  have hk := List.mem_range.mp hk
  match k, hk with
  | 0, _ => exact q1_171
  | 1, _ => exact q1_173
  | 2, _ => exact q1_175
  | 3, _ => exact q1_177
  | 4, _ => exact q1_179
  | 5, _ => exact q1_181
  | 6, _ => exact q1_183
  | 7, _ => exact q1_185
  | 8, _ => exact q1_187
  | 9, _ => exact q1_189
  | 10, _ => exact q1_191
  | 11, _ => exact q1_193
  | 12, _ => exact q1_195
  | 13, _ => exact q1_197
  | k + 14, h => exact absurd h (by omega)
def F_AL : u_T := fun k => match k with
  | 0 => ("java/util/ArrayList", "elementData", "[Ljava/lang/Object;", false)
  | 1 => ("java/util/ArrayList", "size", "I", false)
  | _ => ("java/util/AbstractList", "modCount", "I", false)
def t_AL : Nat → FieldType := fun k => match k with
  | 0 => (.array (.object "java/lang/Object"))
  | 1 => .int
  | _ => .int
theorem n_AL : ∀ a, a < 3 → ∀ b, b < 3 → a ≠ b → (F_AL a).2.1 ≠ (F_AL b).2.1 := by decide +kernel
theorem t_AL_ok : ∀ k, k < 3 → parseFieldDescriptor (F_AL k).2.2.1 = some (t_AL k) := by decide +kernel
theorem i_AL : ∀ w ∈ u_ws "java/util/ArrayList" F_AL 3, w ∈ tb := by
  intro w hw
  obtain ⟨k, hk, rfl⟩ := List.mem_map.mp hw
  have hk := List.mem_range.mp hk
  match k, hk with
  | 0, _ => exact q1_61
  | 1, _ => exact q1_63
  | 2, _ => exact q1_65
  | k + 3, h => exact absurd h (by omega)
def F_Model : u_T := fun k => match k with
  | 0 => ("TrustChainModel", "err", "I", false)
  | 1 => ("TrustChainModel", "fed", "I", false)
  | 2 => ("TrustChainModel", "wrong", "I", false)
  | 3 => ("TrustChainModel", "certificates", "I", false)
  | 4 => ("TrustChainModel", "lists", "I", false)
  | 5 => ("TrustChainModel", "octets", "[I", true)
  | 6 => ("TrustChainModel", "stored", "[LTrustChainModel$Text;", true)
  | 7 => ("TrustChainModel", "revoked", "[LTrustChainModel$Text;", true)
  | 8 => ("TrustChainModel", "spare", "LTrustChainModel$Text;", false)
  | 9 => ("TrustChainModel", "quotientSize", "I", false)
  | 10 => ("TrustChainModel", "rs", "[I", true)
  | 11 => ("TrustChainModel", "block", "[I", true)
  | 12 => ("TrustChainModel", "w", "[I", true)
  | 13 => ("TrustChainModel", "h", "[I", true)
  | 14 => ("TrustChainModel", "first", "[I", true)
  | 15 => ("TrustChainModel", "primes", "[I", true)
  | 16 => ("TrustChainModel", "x", "[I", true)
  | 17 => ("TrustChainModel", "y", "[I", true)
  | 18 => ("TrustChainModel", "m", "[I", true)
  | 19 => ("TrustChainModel", "q", "[I", true)
  | 20 => ("TrustChainModel", "z", "[I", true)
  | 21 => ("TrustChainModel", "way", "[I", true)
  | 22 => ("TrustChainModel", "found", "[I", true)
  | 23 => ("TrustChainModel", "size", "I", false)
  | 24 => ("TrustChainModel", "chainSize", "I", false)
  | 25 => ("TrustChainModel", "chains", "I", false)
  | 26 => ("TrustChainModel", "faultAt", "I", false)
  | 27 => ("TrustChainModel", "put", "I", false)
  | 28 => ("TrustChainModel", "depth", "I", false)
  | 29 => ("TrustChainModel", "verdict", "I", false)
  | 30 => ("TrustChainModel", "now", "J", false)
  | _ => ("TrustChainModel", "mustKnow", "Z", false)
def t_Model : Nat → FieldType := fun k => match k with
  | 0 => .int
  | 1 => .int
  | 2 => .int
  | 3 => .int
  | 4 => .int
  | 5 => (.array .int)
  | 6 => (.array (.object "TrustChainModel$Text"))
  | 7 => (.array (.object "TrustChainModel$Text"))
  | 8 => (.object "TrustChainModel$Text")
  | 9 => .int
  | 10 => (.array .int)
  | 11 => (.array .int)
  | 12 => (.array .int)
  | 13 => (.array .int)
  | 14 => (.array .int)
  | 15 => (.array .int)
  | 16 => (.array .int)
  | 17 => (.array .int)
  | 18 => (.array .int)
  | 19 => (.array .int)
  | 20 => (.array .int)
  | 21 => (.array .int)
  | 22 => (.array .int)
  | 23 => .int
  | 24 => .int
  | 25 => .int
  | 26 => .int
  | 27 => .int
  | 28 => .int
  | 29 => .int
  | 30 => .long
  | _ => .boolean
theorem n_Model : ∀ a, a < 32 → ∀ b, b < 32 → a ≠ b → (F_Model a).2.1 ≠ (F_Model b).2.1 := by decide +kernel
theorem t_Model_ok : ∀ k, k < 32 → parseFieldDescriptor (F_Model k).2.2.1 = some (t_Model k) := by decide +kernel
theorem i_Model : ∀ w ∈ u_ws "TrustChainModel" F_Model 32, w ∈ tb := by
  intro w hw
  obtain ⟨k, hk, rfl⟩ := List.mem_map.mp hw
  have hk := List.mem_range.mp hk
  match k, hk with
  | 0, _ => exact q8_98
  | 1, _ => exact q8_100
  | 2, _ => exact q8_102
  | 3, _ => exact q8_104
  | 4, _ => exact q8_106
  | 5, _ => exact q8_108
  | 6, _ => exact q8_110
  | 7, _ => exact q8_112
  | 8, _ => exact q8_114
  | 9, _ => exact q8_116
  | 10, _ => exact q8_118
  | 11, _ => exact q8_120
  | 12, _ => exact q8_122
  | 13, _ => exact q8_124
  | 14, _ => exact q8_126
  | 15, _ => exact q8_128
  | 16, _ => exact q8_130
  | 17, _ => exact q8_132
  | 18, _ => exact q8_134
  | 19, _ => exact q8_136
  | 20, _ => exact q8_138
  | 21, _ => exact q8_140
  | 22, _ => exact q8_142
  | 23, _ => exact q8_144
  | 24, _ => exact q8_146
  | 25, _ => exact q8_148
  | 26, _ => exact q8_150
  | 27, _ => exact q8_152
  | 28, _ => exact q8_154
  | 29, _ => exact q8_156
  | 30, _ => exact q8_158
  | 31, _ => exact q8_160
  | k + 32, h => exact absurd h (by omega)
def F_Text : u_T := fun k => match k with
  | 0 => ("TrustChainModel$Text", "d", "[I", true)
  | 1 => ("TrustChainModel$Text", "n", "I", false)
  | 2 => ("TrustChainModel$Text", "p", "I", false)
  | 3 => ("TrustChainModel$Text", "wrong", "I", false)
  | 4 => ("TrustChainModel$Text", "from", "I", false)
  | 5 => ("TrustChainModel$Text", "to", "I", false)
  | 6 => ("TrustChainModel$Text", "place", "I", false)
  | 7 => ("TrustChainModel$Text", "time0", "J", false)
  | 8 => ("TrustChainModel$Text", "time1", "J", false)
  | 9 => ("TrustChainModel$Text", "latest", "J", false)
  | 10 => ("TrustChainModel$Text", "serial", "I", false)
  | 11 => ("TrustChainModel$Text", "serialEnd", "I", false)
  | 12 => ("TrustChainModel$Text", "issuer", "I", false)
  | 13 => ("TrustChainModel$Text", "issuerEnd", "I", false)
  | 14 => ("TrustChainModel$Text", "subject", "I", false)
  | 15 => ("TrustChainModel$Text", "subjectEnd", "I", false)
  | 16 => ("TrustChainModel$Text", "subjectParts", "I", false)
  | 17 => ("TrustChainModel$Text", "parts", "I", false)
  | 18 => ("TrustChainModel$Text", "modulus", "I", false)
  | 19 => ("TrustChainModel$Text", "modulusEnd", "I", false)
  | 20 => ("TrustChainModel$Text", "exponent", "I", false)
  | 21 => ("TrustChainModel$Text", "tbs", "I", false)
  | 22 => ("TrustChainModel$Text", "tbsEnd", "I", false)
  | 23 => ("TrustChainModel$Text", "signature", "I", false)
  | 24 => ("TrustChainModel$Text", "signatureEnd", "I", false)
  | 25 => ("TrustChainModel$Text", "length", "I", false)
  | 26 => ("TrustChainModel$Text", "usage", "I", false)
  | 27 => ("TrustChainModel$Text", "dns", "I", false)
  | 28 => ("TrustChainModel$Text", "dirs", "I", false)
  | 29 => ("TrustChainModel$Text", "extensions", "I", false)
  | 30 => ("TrustChainModel$Text", "matters", "I", false)
  | 31 => ("TrustChainModel$Text", "ownKey", "I", false)
  | 32 => ("TrustChainModel$Text", "ownKeyEnd", "I", false)
  | 33 => ("TrustChainModel$Text", "issuerKey", "I", false)
  | 34 => ("TrustChainModel$Text", "issuerKeyEnd", "I", false)
  | 35 => ("TrustChainModel$Text", "trees", "I", false)
  | 36 => ("TrustChainModel$Text", "entries", "I", false)
  | 37 => ("TrustChainModel$Text", "oids", "I", false)
  | 38 => ("TrustChainModel$Text", "nameAt", "I", false)
  | 39 => ("TrustChainModel$Text", "nameEnd", "I", false)
  | 40 => ("TrustChainModel$Text", "ca", "Z", false)
  | 41 => ("TrustChainModel$Text", "basic", "Z", false)
  | 42 => ("TrustChainModel$Text", "trusted", "Z", false)
  | 43 => ("TrustChainModel$Text", "dnsAt", "[I", true)
  | 44 => ("TrustChainModel$Text", "dnsEnd", "[I", true)
  | 45 => ("TrustChainModel$Text", "dirAt", "[I", true)
  | 46 => ("TrustChainModel$Text", "dirEnd", "[I", true)
  | 47 => ("TrustChainModel$Text", "treeAt", "[I", true)
  | 48 => ("TrustChainModel$Text", "treeEnd", "[I", true)
  | 49 => ("TrustChainModel$Text", "treeKind", "[I", true)
  | 50 => ("TrustChainModel$Text", "entryAt", "[I", true)
  | 51 => ("TrustChainModel$Text", "entryEnd", "[I", true)
  | 52 => ("TrustChainModel$Text", "oidAt", "[I", true)
  | _ => ("TrustChainModel$Text", "oidEnd", "[I", true)
def t_Text : Nat → FieldType := fun k => match k with
  | 0 => (.array .int)
  | 1 => .int
  | 2 => .int
  | 3 => .int
  | 4 => .int
  | 5 => .int
  | 6 => .int
  | 7 => .long
  | 8 => .long
  | 9 => .long
  | 10 => .int
  | 11 => .int
  | 12 => .int
  | 13 => .int
  | 14 => .int
  | 15 => .int
  | 16 => .int
  | 17 => .int
  | 18 => .int
  | 19 => .int
  | 20 => .int
  | 21 => .int
  | 22 => .int
  | 23 => .int
  | 24 => .int
  | 25 => .int
  | 26 => .int
  | 27 => .int
  | 28 => .int
  | 29 => .int
  | 30 => .int
  | 31 => .int
  | 32 => .int
  | 33 => .int
  | 34 => .int
  | 35 => .int
  | 36 => .int
  | 37 => .int
  | 38 => .int
  | 39 => .int
  | 40 => .boolean
  | 41 => .boolean
  | 42 => .boolean
  | 43 => (.array .int)
  | 44 => (.array .int)
  | 45 => (.array .int)
  | 46 => (.array .int)
  | 47 => (.array .int)
  | 48 => (.array .int)
  | 49 => (.array .int)
  | 50 => (.array .int)
  | 51 => (.array .int)
  | 52 => (.array .int)
  | _ => (.array .int)
theorem n_Text : ∀ a, a < 54 → ∀ b, b < 54 → a ≠ b → (F_Text a).2.1 ≠ (F_Text b).2.1 := by decide +kernel
theorem t_Text_ok : ∀ k, k < 54 → parseFieldDescriptor (F_Text k).2.2.1 = some (t_Text k) := by decide +kernel
theorem i_Text : ∀ w ∈ u_ws "TrustChainModel$Text" F_Text 54, w ∈ tb := by
  intro w hw
  obtain ⟨k, hk, rfl⟩ := List.mem_map.mp hw
  have hk := List.mem_range.mp hk
  match k, hk with
  | 0, _ => exact q7_125
  | 1, _ => exact q7_127
  | 2, _ => exact q7_129
  | 3, _ => exact q7_131
  | 4, _ => exact q7_133
  | 5, _ => exact q7_135
  | 6, _ => exact q7_137
  | 7, _ => exact q7_139
  | 8, _ => exact q7_141
  | 9, _ => exact q7_143
  | 10, _ => exact q7_145
  | 11, _ => exact q7_147
  | 12, _ => exact q7_149
  | 13, _ => exact q7_151
  | 14, _ => exact q7_153
  | 15, _ => exact q7_155
  | 16, _ => exact q7_157
  | 17, _ => exact q7_159
  | 18, _ => exact q7_161
  | 19, _ => exact q7_163
  | 20, _ => exact q7_165
  | 21, _ => exact q7_167
  | 22, _ => exact q7_169
  | 23, _ => exact q7_171
  | 24, _ => exact q7_173
  | 25, _ => exact q7_175
  | 26, _ => exact q7_177
  | 27, _ => exact q7_179
  | 28, _ => exact q7_181
  | 29, _ => exact q7_183
  | 30, _ => exact q7_185
  | 31, _ => exact q7_187
  | 32, _ => exact q7_189
  | 33, _ => exact q7_191
  | 34, _ => exact q7_193
  | 35, _ => exact q7_195
  | 36, _ => exact q7_197
  | 37, _ => exact q7_199
  | 38, _ => exact q7_201
  | 39, _ => exact q7_203
  | 40, _ => exact q7_205
  | 41, _ => exact q7_207
  | 42, _ => exact q7_209
  | 43, _ => exact q7_211
  | 44, _ => exact q7_213
  | 45, _ => exact q7_215
  | 46, _ => exact q7_217
  | 47, _ => exact q7_219
  | 48, _ => exact q7_221
  | 49, _ => exact q7_223
  | 50, _ => exact q7_225
  | 51, _ => exact q7_227
  | 52, _ => exact q7_229
  | 53, _ => exact q7_231
  | k + 54, h => exact absurd h (by omega)
abbrev classes : List vw_C := [("TrustChain$Slice", F_Slice, 3), ("TrustChain$NameSet", F_NameSet, 2), ("TrustChain$Paper", F_Paper, 9), ("TrustChain$Certificate", F_Certificate, 28), ("TrustChain$CertificateReader", F_CertificateReader, 10), ("TrustChain$ListReader", F_ListReader, 11), ("TrustChain$Sha256", F_Sha256, 1), ("TrustChain$Rsa", F_Rsa, 8), ("TrustChain$Search", F_Search, 5), ("TrustChain$PathCheck", F_PathCheck, 4), ("TrustChain", F_Trust, 14), ("java/util/ArrayList", F_AL, 3), ("TrustChainModel", F_Model, 32), ("TrustChainModel$Text", F_Text, 54)]
end
section
/-! My own rows over the kit: calls of methods that change nothing ("pure"), joins, loops. -/
theorem gd_in {Ts ws : List Cond} (hin : ∀ w ∈ tb, w ∈ Ts) (h : ∀ w ∈ ws, w ∈ tb) : GoodIn Ts ws := fun w hw => ⟨hin w (h w hw), good_of_word (tb_good (h w hw))⟩
theorem gd_cons {c : Cond} (h : c ∈ tb) : ∀ w ∈ c :: tb, w ∈ tb := fun w hw => (List.mem_cons.mp hw).elim (fun e => e ▸ h) id
theorem gd_V {Ts : List Cond} {own C : String} {index maxL : Nat} {y : MethodName} {bytes : ByteArray} {ret : Option FieldType} (hin : ∀ w ∈ tb, w ∈ Ts) (h1 : Cond.methodLink own index y ∈ tb) (h2 : Cond.instanceMethod y ∈ tb) (h3 : Cond.selects C y y ∈ tb) (h4 : Cond.initialized C ∈ tb) (h5 : Cond.code y bytes maxL ret ∈ tb) :
    GoodIn Ts (wsV own index C y (Cond.code y bytes maxL ret :: tb)) := by
  refine gd_in hin (fun w hw => ?_)
  rcases List.mem_append.mp hw with hw | hw
  · rcases List.mem_cons.mp hw with rfl | hw
    · exact h1
    rcases List.mem_cons.mp hw with rfl | hw
    · exact h2
    rcases List.mem_cons.mp hw with rfl | hw
    · exact h3
    rcases List.mem_cons.mp hw with rfl | hw
    · exact h4
    cases hw
  · exact gd_cons h5 w hw
theorem gd_S {Ts : List Cond} {own : String} {index maxL : Nat} {y : MethodName} {bytes : ByteArray} {ret : Option FieldType} (hin : ∀ w ∈ tb, w ∈ Ts) (h1 : Cond.methodLink own index y ∈ tb) (h2 : Cond.static y ∈ tb) (h4 : Cond.initialized y.cls ∈ tb) (h5 : Cond.code y bytes maxL ret ∈ tb) :
    GoodIn Ts (va_wsS own index y (Cond.code y bytes maxL ret :: tb)) := by
  refine gd_in hin (fun w hw => ?_)
  rcases List.mem_append.mp hw with hw | hw
  · rcases List.mem_cons.mp hw with rfl | hw
    · exact h1
    rcases List.mem_cons.mp hw with rfl | hw
    · exact h2
    rcases List.mem_cons.mp hw with rfl | hw
    · exact h4
    cases hw
  · exact gd_cons h5 w hw
def nw_kind : Cond → Bool
  | .fieldLinkNest .. => true
  | .methodLinkNest .. => true
  | .declares .. => true
  | .castable .. => true
  | .arrayOver (.object _) => true
  | _ => false
theorem nw_kinds : ∀ w ∈ nwords, nw_kind w = true := by decide +kernel
theorem nw_warm1 {w : Cond} (hk : nw_kind w = true) {s U : State} (hW : s.WarmedH U.vm) (h : va_Nw w s) : va_Nw w U := by
  cases w with
  | fieldLinkNest a b c d e f => exact va_Nw.warmF hW h
  | methodLinkNest a b c d => exact va_Nw.warmM hW h
  | declares x => exact va_Nw.warmD hW h
  | castable a b => exact va_Nw.warmC hW h
  | arrayOver t =>
    cases t with
    | object C => exact va_AO.moved hW.alike h
    | _ => exact absurd hk (by simp [nw_kind])
  | _ => exact absurd hk (by simp [nw_kind])
/-- these words hold of a state -/
def nwOK (U : State) : Prop := ∀ w ∈ nwords, va_Nw w U
theorem nwOK.warm {s U : State} (hW : s.WarmedH U.vm) (h : nwOK s) : nwOK U := fun w hw => nw_warm1 (nw_kinds w hw) hW (h w hw)
theorem nwOK.same {s U : State} (e : s.vm = U.vm) (h : nwOK s) : nwOK U := fun w hw => by
  have hk := nw_kinds w hw
  have h1 := h w hw
  cases w with
  | fieldLinkNest a b c d f g => exact va_Nw.same rfl e h1
  | methodLinkNest a b c d => exact va_Nw.same rfl e h1
  | declares x => exact va_Nw.same rfl e h1
  | castable a b => exact va_Nw.same rfl e h1
  | arrayOver t =>
    cases t with
    | object C => exact va_AO.moved (e ▸ Vm.Alike.refl s.vm) h1
    | _ => exact absurd hk (by simp [nw_kind])
  | _ => exact absurd hk (by simp [nw_kind])
/-- the start of a method that changes nothing: cells that hold, classes that are known -/
def pu_P (av : List Value) (D : va_G) (ws : va_W) (tys : List (ClassId × FieldType)) : Array Value → State → Prop := va_Pc av (fun U => va_P D classes ws U.heap ∧ va_K D classes tys U ∧ nwOK U)
theorem pu_blind {av : List Value} {D : va_G} {ws : va_W} {tys : List (ClassId × FieldType)} : FrameBlind (pu_P av D ws tys) := fun a U g mk q => by
  obtain ⟨q0, qP, qK, qN⟩ := q
  exact ⟨q0, qP, va_K.moved (u := U) (U := U.calling g mk a) (Vm.Alike.refl U.vm) qK, nwOK.same (s := U) rfl qN⟩
theorem pu_pre {s : State} {H : Heap} {av : List Value} {D : va_G} {ws wsB : va_W} {tys tysB : List (ClassId × FieldType)} (hN : nwOK s) (hK : va_K D classes tysB s) (hP : va_P D classes wsB H) (is : List Nat) (hs : is.filterMap (fun i => wsB[i]?) = ws) (ts : List Nat) (ht : ts.filterMap (fun i => tysB[i]?) = tys) :
    ∀ U : State, U.heap = H → s.WarmedH U.vm → pu_P av D ws tys av.toArray U := fun U hU hW => ⟨rfl, by rw [hU]; exact hP.sub is hs, va_K.moved hW.alike (hK.sub ts ht), hN.warm hW⟩
section PUC
variable {p : Program} {l : Launch} {e : Env} {R : Room} {s : State} {m : MethodId} {args : Array Value} {below : List Frame} {meth : Method} {c : Code} {H : Heap} {locs : List Loc} {cells slots : Nat} {Q : State → Prop}
variable {pc : Nat} {ls : Array Slot} {rest st0 : List Value} {cc bytes : ByteArray} {nL maxL index : Nat} {Ts : List Cond} {own C : String} {y : MethodName} {ret : Option FieldType} {rm : Room} {D : va_G} {ws wsB : va_W} {tys tysB : List (ClassId × FieldType)} {As : List Value} {b : Nat} {fs : List Value} {q : vw_C} {n : Nat}
theorem pu_callV {Qc : Array Value → State → Outcome → State → Prop} (S : CallFix p m c cc nL s args Ts own) (hin : ∀ w ∈ tb, w ∈ Ts) (hM : Met l y (Cond.code y bytes maxL ret :: tb) rm (pu_P (.ref b :: As) D ws tys) Qc 0 0 (fun _ => False))
    (h1 : Cond.methodLink own index y ∈ tb) (h2 : Cond.instanceMethod y ∈ tb) (h3 : Cond.selects C y y ∈ tb) (h4 : Cond.initialized C ∈ tb) (h5 : Cond.code y bytes maxL ret ∈ tb)
    (hd : y.cls = C ∧ y.cls ≠ "java/lang/invoke/MethodHandle" ∧ y.cls ≠ "java/lang/invoke/VarHandle" ∧ (parseMethodDescriptor y.desc).map (fun d => d.parameters.length) = some n) (hn : As.length = n)
    (hz : rm.cells = 0 ∧ rm.slots = 0) (hR : rm.frames + 1 ≤ R.frames ∧ 8 + (maxL + 11) + rm.locals ≤ R.locals) (hf : cells ≤ R.cells ∧ slots ≤ R.slots)
    (hN : nwOK s) (hK : va_K D classes tysB s) (hP : va_P D classes wsB H) (is : List Nat) (hs : is.filterMap (fun i => wsB[i]?) = ws) (ts : List Nat) (ht : ts.filterMap (fun i => tysB[i]?) = tys)
    (q0 ci : Nat) (he : wsB[q0]? = some (b, .inr (ci, fs))) (hc : classes[ci]? = some q) (hq : q.1 = C)
    (hsize : ls.size = nL) (hstack : st0 = As.reverse ++ .ref b :: rest) (hW : (rest.map fun v => v.category).sum ≤ 8) (hdg : decode cc pc = .ok (.invokevirtual index, 3)) :
    CallRun p l e R s m args below meth c H locs cells slots 0 0 (F0 m pc ls st0) rest (Qc (Value.ref b :: As).toArray) (fun _ => False) := by
  subst hstack
  subst hn
  subst hq
  exact W.runV (As := As) (rest := rest) S hM (cwV As.length S.2.2.2.2 (gd_V hin h1 h2 h3 h4 h5) rfl hz.1 hz.2 hd hR) ⟨pu_blind, va_recv hK hP hc he, pu_pre hN hK hP is hs ts ht⟩ rfl rfl hsize rfl (lv_room hW) hdg ⟨hf.1, hf.2⟩
theorem pu_callS {Qc : Array Value → State → Outcome → State → Prop} (S : CallFix p m c cc nL s args Ts own) (hin : ∀ w ∈ tb, w ∈ Ts) (hM : Met l y (Cond.code y bytes maxL ret :: tb) rm (pu_P As D ws tys) Qc 0 0 (fun _ => False))
    (h1 : Cond.methodLink own index y ∈ tb) (h2 : Cond.static y ∈ tb) (h4 : Cond.initialized y.cls ∈ tb) (h5 : Cond.code y bytes maxL ret ∈ tb)
    (hd : y.cls ≠ "java/lang/invoke/MethodHandle" ∧ y.cls ≠ "java/lang/invoke/VarHandle" ∧ (parseMethodDescriptor y.desc).map (fun d => d.parameters.length) = some n) (hn : As.length = n)
    (hz : rm.cells = 0 ∧ rm.slots = 0) (hR : rm.frames + 1 ≤ R.frames ∧ 8 + (maxL + 11) + rm.locals ≤ R.locals) (hf : cells ≤ R.cells ∧ slots ≤ R.slots)
    (hN : nwOK s) (hK : va_K D classes tysB s) (hP : va_P D classes wsB H) (is : List Nat) (hs : is.filterMap (fun i => wsB[i]?) = ws) (ts : List Nat) (ht : ts.filterMap (fun i => tysB[i]?) = tys)
    (hsize : ls.size = nL) (hstack : st0 = As.reverse ++ rest) (hW : (rest.map fun v => v.category).sum ≤ 8) (hdg : decode cc pc = .ok (.invokestatic index, 3)) :
    CallRun p l e R s m args below meth c H locs cells slots 0 0 (F0 m pc ls st0) rest (Qc As.toArray) (fun _ => False) := by
  subst hstack
  subst hn
  exact W.runS (As := As) (rest := rest) S hM (va_cwS As.length S.2.2.2.2 (gd_S hin h1 h2 h4 h5) rfl hz.1 hz.2 hd hR) ⟨pu_blind, pu_pre hN hK hP is hs ts ht⟩ rfl rfl hsize rfl (lv_room hW) hdg ⟨hf.1, hf.2⟩
/-- what a call of an inherited method asks -/
theorem cu_of {owner : String} {x : MethodName} {mc ms : Nat} (ht : ∀ w ∈ Ts, w.before args s = true) (hin : ∀ w ∈ tb, w ∈ Ts) (h1 : Cond.methodLink own index x ∈ tb) (h6 : Cond.sameMethod x.cls owner x.name x.desc ∈ tb) (h2 : Cond.instanceMethod y ∈ tb) (h3 : Cond.selects C x y ∈ tb) (h4 : Cond.initialized y.cls ∈ tb) (h5 : Cond.code y bytes maxL ret ∈ tb)
    (hyx : y = ⟨owner, x.name, x.desc⟩) (hd : owner ≠ "java/lang/invoke/MethodHandle" ∧ owner ≠ "java/lang/invoke/VarHandle" ∧ (parseMethodDescriptor x.desc).map (fun d => d.parameters.length) = some n) (hz : rm.cells = mc ∧ rm.slots = ms) (hR : rm.frames + 1 ≤ R.frames ∧ 8 + (maxL + 11) + rm.locals ≤ R.locals) :
    va_CU R s args own C owner index x y bytes maxL ret (Cond.code y bytes maxL ret :: tb) rm mc ms n := by
  refine va_cwU n ht (gd_in hin (fun w hw => ?_)) rfl hz.1 hz.2 hyx hd hR
  rcases List.mem_append.mp hw with hw | hw
  · rcases List.mem_cons.mp hw with rfl | hw
    · exact h1
    rcases List.mem_cons.mp hw with rfl | hw
    · exact h6
    rcases List.mem_cons.mp hw with rfl | hw
    · exact h3
    rcases List.mem_cons.mp hw with rfl | hw
    · exact h2
    rcases List.mem_cons.mp hw with rfl | hw
    · exact h4
    cases hw
  · exact gd_cons h5 w hw
theorem pu_callU {owner : String} {x : MethodName} {Qc : Array Value → State → Outcome → State → Prop} (S : CallFix p m c cc nL s args Ts own) (hM : Met l y (Cond.code y bytes maxL ret :: tb) rm (pu_P (.ref b :: As) D ws tys) Qc 0 0 (fun _ => False))
    (hCU : va_CU R s args own C owner index x y bytes maxL ret (Cond.code y bytes maxL ret :: tb) rm 0 0 n) (hn : As.length = n) (hf : cells ≤ R.cells ∧ slots ≤ R.slots)
    (hN : nwOK s) (hK : va_K D classes tysB s) (hP : va_P D classes wsB H) (is : List Nat) (hs : is.filterMap (fun i => wsB[i]?) = ws) (ts : List Nat) (ht : ts.filterMap (fun i => tysB[i]?) = tys)
    (q0 ci : Nat) (he : wsB[q0]? = some (b, .inr (ci, fs))) (hc : classes[ci]? = some q) (hq : q.1 = C)
    (hsize : ls.size = nL) (hstack : st0 = As.reverse ++ .ref b :: rest) (hW : (rest.map fun v => v.category).sum ≤ 8) (hdg : decode cc pc = .ok (.invokevirtual index, 3)) :
    CallRun p l e R s m args below meth c H locs cells slots 0 0 (F0 m pc ls st0) rest (Qc (Value.ref b :: As).toArray) (fun _ => False) := by
  subst hstack
  subst hn
  subst hq
  exact va_Run.run (va_runU (As := As) (rest := rest) S hM hCU ⟨pu_blind, va_recv hK hP hc he, pu_pre hN hK hP is hs ts ht⟩ rfl rfl hsize rfl (lv_room hW) hdg ⟨hf.1, hf.2⟩)
/-- a join: what several branches come to is walked once -/
theorem w_join {J : Int32 → Prop} {g : JFrame} (k : ∀ v : Int32, J v → W p l e R s m args below meth c H locs cells slots Q (F0 m pc ls (.int v :: rest)))
    (b : (∀ v : Int32, J v → W p l e R s m args below meth c H locs cells slots Q (F0 m pc ls (.int v :: rest))) → W p l e R s m args below meth c H locs cells slots Q g) : W p l e R s m args below meth c H locs cells slots Q g := b k
theorem w_joinL {J : Int64 → Prop} {g : JFrame} (k : ∀ v : Int64, J v → W p l e R s m args below meth c H locs cells slots Q (F0 m pc ls (.long v :: rest)))
    (b : (∀ v : Int64, J v → W p l e R s m args below meth c H locs cells slots Q (F0 m pc ls (.long v :: rest))) → W p l e R s m args below meth c H locs cells slots Q g) : W p l e R s m args below meth c H locs cells slots Q g := b k
/-- a loop whose heap stands still: a state of its own (α), a measure, an invariant -/
theorem w_loop {α : Type} (J : α → Prop) (μ : α → Nat) (lv : α → List (Nat × Value)) (st : α → List Value) (nL pc : Nat)
    (step : ∀ (a : α) (ls : Array Slot), J a → lv_has ls nL (lv a) → (∀ (a' : α) (ls' : Array Slot), μ a' < μ a → J a' → lv_has ls' nL (lv a') → W p l e R s m args below meth c H locs cells slots Q (F0 m pc ls' (st a'))) → W p l e R s m args below meth c H locs cells slots Q (F0 m pc ls (st a)))
    (a : α) (ls : Array Slot) (hJ : J a) (hl : lv_has ls nL (lv a)) : W p l e R s m args below meth c H locs cells slots Q (F0 m pc ls (st a)) := by
  have key : ∀ (n : Nat) (a : α) (ls : Array Slot), μ a < n → J a → lv_has ls nL (lv a) → W p l e R s m args below meth c H locs cells slots Q (F0 m pc ls (st a)) := by
    intro n
    induction n with
    | zero => intro a ls h; exact absurd h (Nat.not_lt_zero _)
    | succ n ih =>
      intro a ls h hJ hl
      exact step a ls hJ hl (fun a' ls' h' hJ' hl' => ih a' ls' (by omega) hJ' hl')
  exact key (μ a + 1) a ls (Nat.lt_succ_self _) hJ hl
end PUC
end
section
/-! TrustChain.Slice: octets of a text from one place up to another. u: the text's octets (below 256), n of them; a slice a..b. -/
def y_Slice_length : MethodName := ⟨"TrustChain$Slice", "length", "()I"⟩
abbrev b_Slice_length : ByteArray := prog_12_method_2_code
def w_Slice_length : List Cond := Cond.code y_Slice_length b_Slice_length 1 ((some FieldType.int)) :: tb
theorem d_Slice_length_0 : decode b_Slice_length 0 = .ok (.aload_n 0, 1) := by decide +kernel
theorem d_Slice_length_1 : decode b_Slice_length 1 = .ok (.getfield 19, 3) := by decide +kernel
theorem d_Slice_length_4 : decode b_Slice_length 4 = .ok (.aload_n 0, 1) := by decide +kernel
theorem d_Slice_length_5 : decode b_Slice_length 5 = .ok (.getfield 15, 3) := by decide +kernel
theorem d_Slice_length_8 : decode b_Slice_length 8 = .ok (.isub, 1) := by decide +kernel
theorem d_Slice_length_9 : decode b_Slice_length 9 = .ok (.ireturn, 1) := by decide +kernel
def y_Slice_at : MethodName := ⟨"TrustChain$Slice", "at", "(I)I"⟩
abbrev b_Slice_at : ByteArray := prog_12_method_3_code
def w_Slice_at : List Cond := Cond.code y_Slice_at b_Slice_at 3 ((some FieldType.int)) :: tb
theorem d_Slice_at_0 : decode b_Slice_at 0 = .ok (.aload_n 0, 1) := by decide +kernel
theorem d_Slice_at_1 : decode b_Slice_at 1 = .ok (.getfield 15, 3) := by decide +kernel
theorem d_Slice_at_4 : decode b_Slice_at 4 = .ok (.iload_n 1, 1) := by decide +kernel
theorem d_Slice_at_5 : decode b_Slice_at 5 = .ok (.iadd, 1) := by decide +kernel
theorem d_Slice_at_6 : decode b_Slice_at 6 = .ok (.istore_n 2, 1) := by decide +kernel
theorem d_Slice_at_7 : decode b_Slice_at 7 = .ok (.iload_n 1, 1) := by decide +kernel
theorem d_Slice_at_8 : decode b_Slice_at 8 = .ok (.ifCond .lt 37, 3) := by decide +kernel
theorem d_Slice_at_11 : decode b_Slice_at 11 = .ok (.iload_n 2, 1) := by decide +kernel
theorem d_Slice_at_12 : decode b_Slice_at 12 = .ok (.ifCond .lt 33, 3) := by decide +kernel
theorem d_Slice_at_15 : decode b_Slice_at 15 = .ok (.iload_n 2, 1) := by decide +kernel
theorem d_Slice_at_16 : decode b_Slice_at 16 = .ok (.aload_n 0, 1) := by decide +kernel
theorem d_Slice_at_17 : decode b_Slice_at 17 = .ok (.getfield 19, 3) := by decide +kernel
theorem d_Slice_at_20 : decode b_Slice_at 20 = .ok (.if_icmp .ge 25, 3) := by decide +kernel
theorem d_Slice_at_23 : decode b_Slice_at 23 = .ok (.iload_n 2, 1) := by decide +kernel
theorem d_Slice_at_24 : decode b_Slice_at 24 = .ok (.aload_n 0, 1) := by decide +kernel
theorem d_Slice_at_25 : decode b_Slice_at 25 = .ok (.getfield 9, 3) := by decide +kernel
theorem d_Slice_at_28 : decode b_Slice_at 28 = .ok (.arraylength, 1) := by decide +kernel
theorem d_Slice_at_29 : decode b_Slice_at 29 = .ok (.if_icmp .ge 16, 3) := by decide +kernel
theorem d_Slice_at_32 : decode b_Slice_at 32 = .ok (.aload_n 0, 1) := by decide +kernel
theorem d_Slice_at_33 : decode b_Slice_at 33 = .ok (.getfield 9, 3) := by decide +kernel
theorem d_Slice_at_36 : decode b_Slice_at 36 = .ok (.iload_n 2, 1) := by decide +kernel
theorem d_Slice_at_37 : decode b_Slice_at 37 = .ok (.baload, 1) := by decide +kernel
theorem d_Slice_at_38 : decode b_Slice_at 38 = .ok (.sipush 255, 3) := by decide +kernel
theorem d_Slice_at_41 : decode b_Slice_at 41 = .ok (.iand, 1) := by decide +kernel
theorem d_Slice_at_42 : decode b_Slice_at 42 = .ok (.goto 4, 3) := by decide +kernel
theorem d_Slice_at_45 : decode b_Slice_at 45 = .ok (.iconst (-1), 1) := by decide +kernel
theorem d_Slice_at_46 : decode b_Slice_at 46 = .ok (.ireturn, 1) := by decide +kernel
def y_Slice_same : MethodName := ⟨"TrustChain$Slice", "same", "(LTrustChain$Slice;)Z"⟩
abbrev b_Slice_same : ByteArray := prog_12_method_4_code
def w_Slice_same : List Cond := Cond.code y_Slice_same b_Slice_same 2 ((some FieldType.boolean)) :: tb
theorem d_Slice_same_0 : decode b_Slice_same 0 = .ok (.aload_n 0, 1) := by decide +kernel
theorem d_Slice_same_1 : decode b_Slice_same 1 = .ok (.invokevirtual 22, 3) := by decide +kernel
theorem d_Slice_same_4 : decode b_Slice_same 4 = .ok (.aload_n 1, 1) := by decide +kernel
theorem d_Slice_same_5 : decode b_Slice_same 5 = .ok (.invokevirtual 22, 3) := by decide +kernel
theorem d_Slice_same_8 : decode b_Slice_same 8 = .ok (.if_icmp .ne 15, 3) := by decide +kernel
theorem d_Slice_same_11 : decode b_Slice_same 11 = .ok (.aload_n 1, 1) := by decide +kernel
theorem d_Slice_same_12 : decode b_Slice_same 12 = .ok (.aload_n 0, 1) := by decide +kernel
theorem d_Slice_same_13 : decode b_Slice_same 13 = .ok (.invokevirtual 26, 3) := by decide +kernel
theorem d_Slice_same_16 : decode b_Slice_same 16 = .ok (.ifCond .eq 7, 3) := by decide +kernel
theorem d_Slice_same_19 : decode b_Slice_same 19 = .ok (.iconst 1, 1) := by decide +kernel
theorem d_Slice_same_20 : decode b_Slice_same 20 = .ok (.goto 4, 3) := by decide +kernel
theorem d_Slice_same_23 : decode b_Slice_same 23 = .ok (.iconst 0, 1) := by decide +kernel
theorem d_Slice_same_24 : decode b_Slice_same 24 = .ok (.ireturn, 1) := by decide +kernel
def y_Slice_beginsWith : MethodName := ⟨"TrustChain$Slice", "beginsWith", "(LTrustChain$Slice;)Z"⟩
abbrev b_Slice_beginsWith : ByteArray := prog_12_method_5_code
def w_Slice_beginsWith : List Cond := Cond.code y_Slice_beginsWith b_Slice_beginsWith 3 ((some FieldType.boolean)) :: tb
theorem d_Slice_beginsWith_0 : decode b_Slice_beginsWith 0 = .ok (.aload_n 1, 1) := by decide +kernel
theorem d_Slice_beginsWith_1 : decode b_Slice_beginsWith 1 = .ok (.invokevirtual 22, 3) := by decide +kernel
theorem d_Slice_beginsWith_4 : decode b_Slice_beginsWith 4 = .ok (.aload_n 0, 1) := by decide +kernel
theorem d_Slice_beginsWith_5 : decode b_Slice_beginsWith 5 = .ok (.invokevirtual 22, 3) := by decide +kernel
theorem d_Slice_beginsWith_8 : decode b_Slice_beginsWith 8 = .ok (.if_icmp .le 5, 3) := by decide +kernel
theorem d_Slice_beginsWith_11 : decode b_Slice_beginsWith 11 = .ok (.iconst 0, 1) := by decide +kernel
theorem d_Slice_beginsWith_12 : decode b_Slice_beginsWith 12 = .ok (.ireturn, 1) := by decide +kernel
theorem d_Slice_beginsWith_13 : decode b_Slice_beginsWith 13 = .ok (.iconst 0, 1) := by decide +kernel
theorem d_Slice_beginsWith_14 : decode b_Slice_beginsWith 14 = .ok (.istore_n 2, 1) := by decide +kernel
theorem d_Slice_beginsWith_15 : decode b_Slice_beginsWith 15 = .ok (.iload_n 2, 1) := by decide +kernel
theorem d_Slice_beginsWith_16 : decode b_Slice_beginsWith 16 = .ok (.aload_n 1, 1) := by decide +kernel
theorem d_Slice_beginsWith_17 : decode b_Slice_beginsWith 17 = .ok (.invokevirtual 22, 3) := by decide +kernel
theorem d_Slice_beginsWith_20 : decode b_Slice_beginsWith 20 = .ok (.if_icmp .ge 24, 3) := by decide +kernel
theorem d_Slice_beginsWith_23 : decode b_Slice_beginsWith 23 = .ok (.aload_n 0, 1) := by decide +kernel
theorem d_Slice_beginsWith_24 : decode b_Slice_beginsWith 24 = .ok (.iload_n 2, 1) := by decide +kernel
theorem d_Slice_beginsWith_25 : decode b_Slice_beginsWith 25 = .ok (.invokevirtual 30, 3) := by decide +kernel
theorem d_Slice_beginsWith_28 : decode b_Slice_beginsWith 28 = .ok (.aload_n 1, 1) := by decide +kernel
theorem d_Slice_beginsWith_29 : decode b_Slice_beginsWith 29 = .ok (.iload_n 2, 1) := by decide +kernel
theorem d_Slice_beginsWith_30 : decode b_Slice_beginsWith 30 = .ok (.invokevirtual 30, 3) := by decide +kernel
theorem d_Slice_beginsWith_33 : decode b_Slice_beginsWith 33 = .ok (.if_icmp .eq 5, 3) := by decide +kernel
theorem d_Slice_beginsWith_36 : decode b_Slice_beginsWith 36 = .ok (.iconst 0, 1) := by decide +kernel
theorem d_Slice_beginsWith_37 : decode b_Slice_beginsWith 37 = .ok (.ireturn, 1) := by decide +kernel
theorem d_Slice_beginsWith_38 : decode b_Slice_beginsWith 38 = .ok (.iinc 2 1, 3) := by decide +kernel
theorem d_Slice_beginsWith_41 : decode b_Slice_beginsWith 41 = .ok (.goto (-26), 3) := by decide +kernel
theorem d_Slice_beginsWith_44 : decode b_Slice_beginsWith 44 = .ok (.iconst 1, 1) := by decide +kernel
theorem d_Slice_beginsWith_45 : decode b_Slice_beginsWith 45 = .ok (.ireturn, 1) := by decide +kernel
def y_Slice_sharesTail : MethodName := ⟨"TrustChain$Slice", "sharesTail", "(LTrustChain$Slice;I)Z"⟩
abbrev b_Slice_sharesTail : ByteArray := prog_12_method_6_code
def w_Slice_sharesTail : List Cond := Cond.code y_Slice_sharesTail b_Slice_sharesTail 4 ((some FieldType.boolean)) :: tb
theorem d_Slice_sharesTail_0 : decode b_Slice_sharesTail 0 = .ok (.iload_n 2, 1) := by decide +kernel
theorem d_Slice_sharesTail_1 : decode b_Slice_sharesTail 1 = .ok (.aload_n 0, 1) := by decide +kernel
theorem d_Slice_sharesTail_2 : decode b_Slice_sharesTail 2 = .ok (.invokevirtual 22, 3) := by decide +kernel
theorem d_Slice_sharesTail_5 : decode b_Slice_sharesTail 5 = .ok (.if_icmp .gt 11, 3) := by decide +kernel
theorem d_Slice_sharesTail_8 : decode b_Slice_sharesTail 8 = .ok (.iload_n 2, 1) := by decide +kernel
theorem d_Slice_sharesTail_9 : decode b_Slice_sharesTail 9 = .ok (.aload_n 1, 1) := by decide +kernel
theorem d_Slice_sharesTail_10 : decode b_Slice_sharesTail 10 = .ok (.invokevirtual 22, 3) := by decide +kernel
theorem d_Slice_sharesTail_13 : decode b_Slice_sharesTail 13 = .ok (.if_icmp .le 5, 3) := by decide +kernel
theorem d_Slice_sharesTail_16 : decode b_Slice_sharesTail 16 = .ok (.iconst 0, 1) := by decide +kernel
theorem d_Slice_sharesTail_17 : decode b_Slice_sharesTail 17 = .ok (.ireturn, 1) := by decide +kernel
theorem d_Slice_sharesTail_18 : decode b_Slice_sharesTail 18 = .ok (.iconst 1, 1) := by decide +kernel
theorem d_Slice_sharesTail_19 : decode b_Slice_sharesTail 19 = .ok (.istore_n 3, 1) := by decide +kernel
theorem d_Slice_sharesTail_20 : decode b_Slice_sharesTail 20 = .ok (.iload_n 3, 1) := by decide +kernel
theorem d_Slice_sharesTail_21 : decode b_Slice_sharesTail 21 = .ok (.iload_n 2, 1) := by decide +kernel
theorem d_Slice_sharesTail_22 : decode b_Slice_sharesTail 22 = .ok (.if_icmp .gt 40, 3) := by decide +kernel
theorem d_Slice_sharesTail_25 : decode b_Slice_sharesTail 25 = .ok (.aload_n 0, 1) := by decide +kernel
theorem d_Slice_sharesTail_26 : decode b_Slice_sharesTail 26 = .ok (.aload_n 0, 1) := by decide +kernel
theorem d_Slice_sharesTail_27 : decode b_Slice_sharesTail 27 = .ok (.invokevirtual 22, 3) := by decide +kernel
theorem d_Slice_sharesTail_30 : decode b_Slice_sharesTail 30 = .ok (.iload_n 3, 1) := by decide +kernel
theorem d_Slice_sharesTail_31 : decode b_Slice_sharesTail 31 = .ok (.isub, 1) := by decide +kernel
theorem d_Slice_sharesTail_32 : decode b_Slice_sharesTail 32 = .ok (.invokevirtual 30, 3) := by decide +kernel
theorem d_Slice_sharesTail_35 : decode b_Slice_sharesTail 35 = .ok (.invokestatic 34, 3) := by decide +kernel
theorem d_Slice_sharesTail_38 : decode b_Slice_sharesTail 38 = .ok (.aload_n 1, 1) := by decide +kernel
theorem d_Slice_sharesTail_39 : decode b_Slice_sharesTail 39 = .ok (.aload_n 1, 1) := by decide +kernel
theorem d_Slice_sharesTail_40 : decode b_Slice_sharesTail 40 = .ok (.invokevirtual 22, 3) := by decide +kernel
theorem d_Slice_sharesTail_43 : decode b_Slice_sharesTail 43 = .ok (.iload_n 3, 1) := by decide +kernel
theorem d_Slice_sharesTail_44 : decode b_Slice_sharesTail 44 = .ok (.isub, 1) := by decide +kernel
theorem d_Slice_sharesTail_45 : decode b_Slice_sharesTail 45 = .ok (.invokevirtual 30, 3) := by decide +kernel
theorem d_Slice_sharesTail_48 : decode b_Slice_sharesTail 48 = .ok (.invokestatic 34, 3) := by decide +kernel
theorem d_Slice_sharesTail_51 : decode b_Slice_sharesTail 51 = .ok (.if_icmp .eq 5, 3) := by decide +kernel
theorem d_Slice_sharesTail_54 : decode b_Slice_sharesTail 54 = .ok (.iconst 0, 1) := by decide +kernel
theorem d_Slice_sharesTail_55 : decode b_Slice_sharesTail 55 = .ok (.ireturn, 1) := by decide +kernel
theorem d_Slice_sharesTail_56 : decode b_Slice_sharesTail 56 = .ok (.iinc 3 1, 3) := by decide +kernel
theorem d_Slice_sharesTail_59 : decode b_Slice_sharesTail 59 = .ok (.goto (-39), 3) := by decide +kernel
theorem d_Slice_sharesTail_62 : decode b_Slice_sharesTail 62 = .ok (.iconst 1, 1) := by decide +kernel
theorem d_Slice_sharesTail_63 : decode b_Slice_sharesTail 63 = .ok (.ireturn, 1) := by decide +kernel
def y_Slice_find : MethodName := ⟨"TrustChain$Slice", "find", "(C)I"⟩
abbrev b_Slice_find : ByteArray := prog_12_method_7_code
def w_Slice_find : List Cond := Cond.code y_Slice_find b_Slice_find 3 ((some FieldType.int)) :: tb
theorem d_Slice_find_0 : decode b_Slice_find 0 = .ok (.iconst 0, 1) := by decide +kernel
theorem d_Slice_find_1 : decode b_Slice_find 1 = .ok (.istore_n 2, 1) := by decide +kernel
theorem d_Slice_find_2 : decode b_Slice_find 2 = .ok (.iload_n 2, 1) := by decide +kernel
theorem d_Slice_find_3 : decode b_Slice_find 3 = .ok (.aload_n 0, 1) := by decide +kernel
theorem d_Slice_find_4 : decode b_Slice_find 4 = .ok (.invokevirtual 22, 3) := by decide +kernel
theorem d_Slice_find_7 : decode b_Slice_find 7 = .ok (.if_icmp .ge 20, 3) := by decide +kernel
theorem d_Slice_find_10 : decode b_Slice_find 10 = .ok (.aload_n 0, 1) := by decide +kernel
theorem d_Slice_find_11 : decode b_Slice_find 11 = .ok (.iload_n 2, 1) := by decide +kernel
theorem d_Slice_find_12 : decode b_Slice_find 12 = .ok (.invokevirtual 30, 3) := by decide +kernel
theorem d_Slice_find_15 : decode b_Slice_find 15 = .ok (.iload_n 1, 1) := by decide +kernel
theorem d_Slice_find_16 : decode b_Slice_find 16 = .ok (.if_icmp .ne 5, 3) := by decide +kernel
theorem d_Slice_find_19 : decode b_Slice_find 19 = .ok (.iload_n 2, 1) := by decide +kernel
theorem d_Slice_find_20 : decode b_Slice_find 20 = .ok (.ireturn, 1) := by decide +kernel
theorem d_Slice_find_21 : decode b_Slice_find 21 = .ok (.iinc 2 1, 3) := by decide +kernel
theorem d_Slice_find_24 : decode b_Slice_find 24 = .ok (.goto (-22), 3) := by decide +kernel
theorem d_Slice_find_27 : decode b_Slice_find 27 = .ok (.iconst (-1), 1) := by decide +kernel
theorem d_Slice_find_28 : decode b_Slice_find 28 = .ok (.ireturn, 1) := by decide +kernel
def y_Slice_number : MethodName := ⟨"TrustChain$Slice", "number", "()J"⟩
abbrev b_Slice_number : ByteArray := prog_12_method_8_code
def w_Slice_number : List Cond := Cond.code y_Slice_number b_Slice_number 4 ((some FieldType.long)) :: tb
theorem d_Slice_number_0 : decode b_Slice_number 0 = .ok (.aload_n 0, 1) := by decide +kernel
theorem d_Slice_number_1 : decode b_Slice_number 1 = .ok (.invokevirtual 22, 3) := by decide +kernel
theorem d_Slice_number_4 : decode b_Slice_number 4 = .ok (.bipush 8, 2) := by decide +kernel
theorem d_Slice_number_6 : decode b_Slice_number 6 = .ok (.if_icmp .le 7, 3) := by decide +kernel
theorem d_Slice_number_9 : decode b_Slice_number 9 = .ok (.ldc2_w 37, 3) := by decide +kernel
theorem d_Slice_number_12 : decode b_Slice_number 12 = .ok (.lreturn, 1) := by decide +kernel
theorem d_Slice_number_13 : decode b_Slice_number 13 = .ok (.aload_n 0, 1) := by decide +kernel
theorem d_Slice_number_14 : decode b_Slice_number 14 = .ok (.iconst 0, 1) := by decide +kernel
theorem d_Slice_number_15 : decode b_Slice_number 15 = .ok (.invokevirtual 30, 3) := by decide +kernel
theorem d_Slice_number_18 : decode b_Slice_number 18 = .ok (.sipush 128, 3) := by decide +kernel
theorem d_Slice_number_21 : decode b_Slice_number 21 = .ok (.if_icmp .lt 9, 3) := by decide +kernel
theorem d_Slice_number_24 : decode b_Slice_number 24 = .ok (.ldc2_w 37, 3) := by decide +kernel
theorem d_Slice_number_27 : decode b_Slice_number 27 = .ok (.goto 4, 3) := by decide +kernel
theorem d_Slice_number_30 : decode b_Slice_number 30 = .ok (.lconst 0, 1) := by decide +kernel
theorem d_Slice_number_31 : decode b_Slice_number 31 = .ok (.lstore_n 1, 1) := by decide +kernel
theorem d_Slice_number_32 : decode b_Slice_number 32 = .ok (.iconst 0, 1) := by decide +kernel
theorem d_Slice_number_33 : decode b_Slice_number 33 = .ok (.istore_n 3, 1) := by decide +kernel
theorem d_Slice_number_34 : decode b_Slice_number 34 = .ok (.iload_n 3, 1) := by decide +kernel
theorem d_Slice_number_35 : decode b_Slice_number 35 = .ok (.aload_n 0, 1) := by decide +kernel
theorem d_Slice_number_36 : decode b_Slice_number 36 = .ok (.invokevirtual 22, 3) := by decide +kernel
theorem d_Slice_number_39 : decode b_Slice_number 39 = .ok (.if_icmp .ge 21, 3) := by decide +kernel
theorem d_Slice_number_42 : decode b_Slice_number 42 = .ok (.lload_n 1, 1) := by decide +kernel
theorem d_Slice_number_43 : decode b_Slice_number 43 = .ok (.bipush 8, 2) := by decide +kernel
theorem d_Slice_number_45 : decode b_Slice_number 45 = .ok (.lshl, 1) := by decide +kernel
theorem d_Slice_number_46 : decode b_Slice_number 46 = .ok (.aload_n 0, 1) := by decide +kernel
theorem d_Slice_number_47 : decode b_Slice_number 47 = .ok (.iload_n 3, 1) := by decide +kernel
theorem d_Slice_number_48 : decode b_Slice_number 48 = .ok (.invokevirtual 30, 3) := by decide +kernel
theorem d_Slice_number_51 : decode b_Slice_number 51 = .ok (.i2l, 1) := by decide +kernel
theorem d_Slice_number_52 : decode b_Slice_number 52 = .ok (.lor, 1) := by decide +kernel
theorem d_Slice_number_53 : decode b_Slice_number 53 = .ok (.lstore_n 1, 1) := by decide +kernel
theorem d_Slice_number_54 : decode b_Slice_number 54 = .ok (.iinc 3 1, 3) := by decide +kernel
theorem d_Slice_number_57 : decode b_Slice_number 57 = .ok (.goto (-23), 3) := by decide +kernel
theorem d_Slice_number_60 : decode b_Slice_number 60 = .ok (.lload_n 1, 1) := by decide +kernel
theorem d_Slice_number_61 : decode b_Slice_number 61 = .ok (.lreturn, 1) := by decide +kernel
def y_Slice_lower : MethodName := ⟨"TrustChain$Slice", "lower", "(I)I"⟩
abbrev b_Slice_lower : ByteArray := prog_12_method_9_code
def w_Slice_lower : List Cond := Cond.code y_Slice_lower b_Slice_lower 1 ((some FieldType.int)) :: tb
theorem d_Slice_lower_0 : decode b_Slice_lower 0 = .ok (.iload_n 0, 1) := by decide +kernel
theorem d_Slice_lower_1 : decode b_Slice_lower 1 = .ok (.bipush 65, 2) := by decide +kernel
theorem d_Slice_lower_3 : decode b_Slice_lower 3 = .ok (.if_icmp .lt 16, 3) := by decide +kernel
theorem d_Slice_lower_6 : decode b_Slice_lower 6 = .ok (.iload_n 0, 1) := by decide +kernel
theorem d_Slice_lower_7 : decode b_Slice_lower 7 = .ok (.bipush 90, 2) := by decide +kernel
theorem d_Slice_lower_9 : decode b_Slice_lower 9 = .ok (.if_icmp .gt 10, 3) := by decide +kernel
theorem d_Slice_lower_12 : decode b_Slice_lower 12 = .ok (.iload_n 0, 1) := by decide +kernel
theorem d_Slice_lower_13 : decode b_Slice_lower 13 = .ok (.bipush 32, 2) := by decide +kernel
theorem d_Slice_lower_15 : decode b_Slice_lower 15 = .ok (.iadd, 1) := by decide +kernel
theorem d_Slice_lower_16 : decode b_Slice_lower 16 = .ok (.goto 4, 3) := by decide +kernel
theorem d_Slice_lower_19 : decode b_Slice_lower 19 = .ok (.iload_n 0, 1) := by decide +kernel
theorem d_Slice_lower_20 : decode b_Slice_lower 20 = .ok (.ireturn, 1) := by decide +kernel
/-- the cells of a text: bytes, as Java holds them -/
def tx (u : Nat → Nat) : Nat → Int32 := fun j => sb_b (u j)
theorem tx_at {u : Nat → Nat} (hu : ∀ j, u j < 256) (j : Nat) : tx u j &&& 255 = nI (u j) := (sb_byte (u j) (hu j)).1
/-- Slice.at: the octet, -1 outside -/
def sl_at (u : Nat → Nat) (a b : Nat) (i : Int32) : Int32 := if 0 ≤ i.toInt ∧ a + i.toInt.toNat < b then nI (u (a + i.toInt.toNat)) else -1
theorem sl_at_nI {u : Nat → Nat} {a b k : Nat} (hk : k < 2 ^ 31) : sl_at u a b (nI k) = if a + k < b then nI (u (a + k)) else -1 := by
  unfold sl_at
  rw [nI_toInt hk]
  by_cases h : a + k < b
  · rw [if_pos ⟨Int.natCast_nonneg _, by simpa using h⟩, if_pos h]; simp
  · rw [if_neg (fun q => h (by simpa using q.2)), if_neg h]
theorem sl_at_1 {u : Nat → Nat} {a b : Nat} {i : Int32} (h : i < 0) : -1 = sl_at u a b i := by
  unfold sl_at
  rw [Int32.lt_iff_toInt_lt, Int32.toInt_zero] at h
  rw [if_neg (fun q => by omega)]
theorem sl_nn {a b n : Nat} {i : Int32} (hab : a ≤ b) (hbn : b ≤ n) (hn : n < 2 ^ 31) (h : ¬ i < 0) : ∃ k : Nat, k < 2 ^ 31 ∧ i = nI k ∧ (a + k < 2 ^ 31 → ¬ nI a + i < 0) ∧ nI a + i = nI (a + k) := by
  obtain ⟨k, hk, rfl⟩ := nI_of h
  exact ⟨k, hk, rfl, fun q => by rw [nI_add]; exact nI_pos q, nI_add a k⟩
theorem sl_big {k : Nat} (h1 : 2 ^ 31 ≤ k) (h2 : k < 2 ^ 32) : nI k < 0 := by
  rw [Int32.lt_iff_toInt_lt, Int32.toInt_zero]
  show (Int32.ofNat k).toInt < 0
  rw [Int32.toInt_ofNat', Int.bmod_def]
  have e : Int32.size = 4294967296 := rfl
  rw [e]
  omega
theorem sl_at_2 {u : Nat → Nat} {a b n : Nat} {i : Int32} (hab : a ≤ b) (hbn : b ≤ n) (hn : n < 2 ^ 31) (h1 : ¬ i < 0) (h2 : nI a + i < 0) : -1 = sl_at u a b i := by
  obtain ⟨k, hk, rfl, h3, -⟩ := sl_nn hab hbn hn h1
  rw [sl_at_nI hk, if_neg (fun q => h3 (by omega) h2)]
theorem sl_sum {a b n k : Nat} (hab : a ≤ b) (hbn : b ≤ n) (hn : n < 2 ^ 31) (hk : k < 2 ^ 31) (h2 : ¬ nI a + nI k < 0) : a + k < 2 ^ 31 := by
  rcases Nat.lt_or_ge (a + k) (2 ^ 31) with q | q
  · exact q
  · exact absurd (by rw [nI_add]; exact sl_big q (by omega)) h2
theorem sl_at_3 {u : Nat → Nat} {a b n : Nat} {i : Int32} (hab : a ≤ b) (hbn : b ≤ n) (hn : n < 2 ^ 31) (h1 : ¬ i < 0) (h2 : ¬ nI a + i < 0) (h3 : nI b ≤ nI a + i) : -1 = sl_at u a b i := by
  obtain ⟨k, hk, rfl, -, -⟩ := sl_nn hab hbn hn h1
  have hs := sl_sum hab hbn hn hk h2
  rw [nI_add, nI_leI (by omega) hs] at h3
  rw [sl_at_nI hk, if_neg (by omega)]
theorem sl_at_4 {u : Nat → Nat} {a b n : Nat} {i : Int32} (hab : a ≤ b) (hbn : b ≤ n) (hn : n < 2 ^ 31) (h1 : ¬ i < 0) (h2 : ¬ nI a + i < 0) (_ : ¬ nI b ≤ nI a + i) (h4 : nI n ≤ nI a + i) : -1 = sl_at u a b i := by
  obtain ⟨k, hk, rfl, -, -⟩ := sl_nn hab hbn hn h1
  have hs := sl_sum hab hbn hn hk h2
  rw [nI_add, nI_leI (by omega) hs] at h4
  rw [sl_at_nI hk, if_neg (by omega)]
theorem sl_at_5 {u : Nat → Nat} {a b n : Nat} {i : Int32} (hu : ∀ j, u j < 256) (hab : a ≤ b) (hbn : b ≤ n) (hn : n < 2 ^ 31) (h1 : ¬ i < 0) (h2 : ¬ nI a + i < 0) (h3 : ¬ nI b ≤ nI a + i) (_ : ¬ nI n ≤ nI a + i) : tx u (nI a + i).toNatClampNeg &&& 255 = sl_at u a b i := by
  obtain ⟨k, hk, rfl, -, -⟩ := sl_nn hab hbn hn h1
  have hs := sl_sum hab hbn hn hk h2
  rw [nI_add, nI_leI (by omega) hs] at h3
  rw [sl_at_nI hk, if_pos (by omega), nI_add, nI_clamp hs, tx_at hu]
theorem sl_in {a b n : Nat} {i : Int32} (hab : a ≤ b) (hbn : b ≤ n) (hn : n < 2 ^ 31) (h1 : ¬ i < 0) (h2 : ¬ nI a + i < 0) (_ : ¬ nI b ≤ nI a + i) (h4 : ¬ nI n ≤ nI a + i) : vp_in (nI a + i) n := by
  obtain ⟨k, hk, rfl, -, -⟩ := sl_nn hab hbn hn h1
  have hs := sl_sum hab hbn hn hk h2
  rw [nI_add, nI_leI hn hs] at h4
  rw [nI_add]
  exact vp_in_nI (by omega) hn
def sl_low (x : Int32) : Int32 := if x < 65 ∨ 90 < x then x else x + 32
/-- a boolean answer -/
def bz (r : Int32) (P : Prop) : Prop := (r = 1 ∧ P) ∨ (r = 0 ∧ ¬ P)
theorem bz_0 {r : Int32} {P : Prop} (h : bz r P) (hr : r = 0) : ¬ P := h.elim (fun q => absurd (q.1.symm.trans hr) (by decide)) (fun q => q.2)
theorem bz_1 {r : Int32} {P : Prop} (h : bz r P) (hr : ¬ r = 0) : P := h.elim (fun q => q.2) (fun q => absurd q.1 hr)
theorem bz_t {P : Prop} (h : P) : bz 1 P := Or.inl ⟨rfl, h⟩
theorem bz_f {P : Prop} (h : ¬ P) : bz 0 P := Or.inr ⟨rfl, h⟩
theorem bz_n {r : Int32} {P : Prop} (h : bz r P) : narrow .boolean (.int r) = .int r := by
  rcases h with ⟨rfl, -⟩ | ⟨rfl, -⟩ <;> decide
theorem bz_c {r : Int32} {P P' : Prop} (h : bz r P) (e : P ↔ P') : bz r P' := h.elim (fun q => Or.inl ⟨q.1, e.mp q.2⟩) (fun q => Or.inr ⟨q.1, fun z => q.2 (e.mpr z)⟩)
/-- a small letter for a large one -/
def lowN (c : Nat) : Nat := if 65 ≤ c ∧ c ≤ 90 then c + 32 else c
theorem sl_low_nI {c : Nat} (hc : c < 256) : sl_low (nI c) = nI (lowN c) := by
  unfold sl_low lowN
  have e1 : (65 : Int32) = nI 65 := rfl
  have e2 : (90 : Int32) = nI 90 := rfl
  have e3 : (32 : Int32) = nI 32 := rfl
  by_cases h : 65 ≤ c ∧ c ≤ 90
  · rw [if_pos h, if_neg (fun q => ?_), e3, nI_add]
    rcases q with q | q
    · rw [e1, nI_ltI (by omega) (by omega)] at q; omega
    · rw [e2, nI_ltI (by omega) (by omega)] at q; omega
  · rw [if_neg h, if_pos]
    by_cases h2 : c < 65
    · left; rw [e1, nI_ltI (by omega) (by omega)]; exact h2
    · right; rw [e2, nI_ltI (by omega) (by omega)]; omega
theorem lowN_lt {c : Nat} (hc : c < 256) : lowN c < 256 := by unfold lowN; split <;> omega
theorem sl_oct {u : Nat → Nat} {a b k : Nat} (hk : k < 2 ^ 31) (h : a + k < b) : sl_at u a b (nI k) = nI (u (a + k)) := by rw [sl_at_nI hk, if_pos h]
/-- two slices with the same octets at the first z places -/
def eqN (u u2 : Nat → Nat) (a a2 z : Nat) : Prop := ∀ j, j < z → u (a + j) = u2 (a2 + j)
theorem eqN_0 {u u2 : Nat → Nat} {a a2 : Nat} : eqN u u2 a a2 0 := fun j h => absurd h (Nat.not_lt_zero j)
theorem eqN_s {u u2 : Nat → Nat} {a a2 z : Nat} (h : eqN u u2 a a2 z) (e : u (a + z) = u2 (a2 + z)) : eqN u u2 a a2 (z + 1) := fun j hj => by
  rcases Nat.lt_succ_iff_lt_or_eq.mp hj with q | rfl
  · exact h j q
  · exact e
/-- the last z octets, letters in either case -/
def tailN (u u2 : Nat → Nat) (b b2 z : Nat) : Prop := ∀ j, 1 ≤ j → j ≤ z → lowN (u (b - j)) = lowN (u2 (b2 - j))
/-- Slice.number: as a number in two's complement, by its octets -/
def numG (u : Nat → Nat) (a b : Nat) : Nat → Int64
  | 0 => if 128 ≤ sl_at u a b 0 then -1 else 0
  | k + 1 => (numG u a b k <<< ((8 : Int32).toInt64 &&& 63)) ||| (nI (u (a + k))).toInt64
def sl_num (u : Nat → Nat) (a b : Nat) : Int64 := if 8 < b - a then -1 else numG u a b (b - a)
theorem tailN_0 {u u2 : Nat → Nat} {b b2 : Nat} : tailN u u2 b b2 0 := fun j h1 h2 => absurd h2 (by omega)
theorem tailN_s {u u2 : Nat → Nat} {b b2 z : Nat} (h : tailN u u2 b b2 z) (e : lowN (u (b - (z + 1))) = lowN (u2 (b2 - (z + 1)))) : tailN u u2 b b2 (z + 1) := fun j h1 h2 => by
  rcases Nat.lt_or_eq_of_le h2 with q | rfl
  · exact h j h1 (by omega)
  · exact e
theorem sl_back {u : Nat → Nat} {a b k : Nat} (hu : ∀ j, u j < 256) (hk : 1 ≤ k) (hz : k ≤ b - a) (hb : b < 2 ^ 31) : sl_low (sl_at u a b (nI (b - a - k))) = nI (lowN (u (b - k))) := by
  rw [sl_oct (by omega) (by omega), show a + (b - a - k) = b - k by omega, sl_low_nI (hu _)]

set_option maxHeartbeats 4000000 in
set_option maxRecDepth 100000 in
theorem c_Slice_lower (l : Launch) (dC : Nat → ClassId) (dI : Nat → Nat → Nat) (x : Int32) : Met l y_Slice_lower w_Slice_lower ({ frames := 0, cells := 0, slots := 0, locals := 0 }) (pu_P [.int x] (dC, dI) [] []) (vp_Si (fun r => r = sl_low x)) 0 0 (fun _ => False) := by
  refine Met.ofW (cc := b_Slice_lower) (maxL := 1) (ret := (some FieldType.int)) (by decide) rfl ?_
  intro p e s m args below meth c s₁ B hml hv
  obtain ⟨rfl, hP, hK, hN⟩ := hv
  have hx := B.exec
  have hb := B.bytes
  have hr := B.returns
  have hts := atoms_spec (ws := w_Slice_lower) B.pre
  have tbin : ∀ w ∈ tb, w ∈ w_Slice_lower := fun w h => List.mem_cons_of_mem _ h
  have htb : ∀ w ∈ tb, w.before _ s = true := fun w h => hts w (tbin w h)
  have hown : s.vm.findClass "TrustChain$Slice" = some m.cls := findClass_of_methodNamed B.named
  have hlocks := B.notSynchronized
  have hcs : 0 ≤ (headSpec w_Slice_lower ({ frames := 0, cells := 0, slots := 0, locals := 0 })).room.cells ∧ 0 ≤ (headSpec w_Slice_lower ({ frames := 0, cells := 0, slots := 0, locals := 0 })).room.slots := ⟨Nat.zero_le _, Nat.zero_le _⟩
  have hP : va_P (dC, dI) classes [] s.heap := hP
  have hl := lv_entry ([.int x]) (n := 1) (Nat.le_of_ble_eq_true rfl)
  rw [lg_entry_eq]
  generalize (lg_sl ([.int x]) ++ List.replicate (1 - (lg_sl ([.int x])).length) Slot.unset).toArray = ls at hl ⊢
  have hl : lv_has ls 1 [(0, .int x)] := hl
  refine w_join (J := fun v => v = sl_low x) (pc := 20) (ls := ls) (rest := []) (fun v hv => ?_) (fun k20 => ?_)
  · skip
    exact W.iret (v := v) hx hb hr (fun t ht hW => ⟨_, rfl, hv, ht⟩) (fun q h => by cases h) d_Slice_lower_20
  · skip
    refine lv_iload_n hx hb d_Slice_lower_0 rfl (lv_at hl 0 rfl) ?_
    refine lv_bipush (v := 65) hx hb d_Slice_lower_1 (by decide) ?_
    refine lv_icmp_lt (tgt := 19) hx hb d_Slice_lower_3 (by decide) (fun c3 => ?_) (fun c3 => ?_)
    · refine lv_iload_n hx hb d_Slice_lower_19 rfl (lv_at hl 0 rfl) ?_
      exact k20 _ (by simp [sl_low, c3])
    · refine lv_iload_n hx hb d_Slice_lower_6 rfl (lv_at hl 0 rfl) ?_
      refine lv_bipush (v := 90) hx hb d_Slice_lower_7 (by decide) ?_
      refine lv_icmp_gt (tgt := 19) hx hb d_Slice_lower_9 (by decide) (fun c9 => ?_) (fun c9 => ?_)
      · refine lv_iload_n hx hb d_Slice_lower_19 rfl (lv_at hl 0 rfl) ?_
        exact k20 _ (by simp [sl_low, c3, c9])
      · refine lv_iload_n hx hb d_Slice_lower_12 rfl (lv_at hl 0 rfl) ?_
        refine lv_bipush (v := 32) hx hb d_Slice_lower_13 (by decide) ?_
        refine lv_iadd hx hb d_Slice_lower_15 ?_
        refine lv_goto (tgt := 20) hx hb d_Slice_lower_16 (by decide) ?_
        exact k20 _ (by simp [sl_low, c3, c9])
set_option maxHeartbeats 4000000 in
set_option maxRecDepth 100000 in
theorem c_Slice_length (l : Launch) (dC : Nat → ClassId) (dI : Nat → Nat → Nat) (h t a b : Nat) (hab : a ≤ b) : Met l y_Slice_length w_Slice_length ({ frames := 0, cells := 0, slots := 0, locals := 0 }) (pu_P [.ref h] (dC, dI) [(h, .inr (0, [.ref t, .int (nI a), .int (nI b)]))] []) (vp_Si (fun r => r = nI (b - a))) 0 0 (fun _ => False) := by
  refine Met.ofW (cc := b_Slice_length) (maxL := 1) (ret := (some FieldType.int)) (by decide) rfl ?_
  intro p e s m args below meth c s₁ B hml hv
  obtain ⟨rfl, hP, hK, hN⟩ := hv
  have hx := B.exec
  have hb := B.bytes
  have hr := B.returns
  have hts := atoms_spec (ws := w_Slice_length) B.pre
  have tbin : ∀ w ∈ tb, w ∈ w_Slice_length := fun w h => List.mem_cons_of_mem _ h
  have htb : ∀ w ∈ tb, w.before _ s = true := fun w h => hts w (tbin w h)
  have hown : s.vm.findClass "TrustChain$Slice" = some m.cls := findClass_of_methodNamed B.named
  have hlocks := B.notSynchronized
  have hcs : 0 ≤ (headSpec w_Slice_length ({ frames := 0, cells := 0, slots := 0, locals := 0 })).room.cells ∧ 0 ≤ (headSpec w_Slice_length ({ frames := 0, cells := 0, slots := 0, locals := 0 })).room.slots := ⟨Nat.zero_le _, Nat.zero_le _⟩
  have hP : va_P (dC, dI) classes [(h, .inr (0, [.ref t, .int (nI a), .int (nI b)]))] s.heap := hP
  have hl := lv_entry ([.ref h]) (n := 1) (Nat.le_of_ble_eq_true rfl)
  rw [lg_entry_eq]
  generalize (lg_sl ([.ref h]) ++ List.replicate (1 - (lg_sl ([.ref h])).length) Slot.unset).toArray = ls at hl ⊢
  have hl : lv_has ls 1 [(0, .ref h)] := hl
  refine lv_aload_n hx hb d_Slice_length_0 rfl (lv_at hl 0 rfl) ?_
  refine va_get (v := .int (nI b)) hx hb htb i_Slice hown hK hP 0 rfl rfl 2 (by decide) (htb _ q2_99) (fun _ h9 => h9) rfl d_Slice_length_1 ?_
  refine lv_aload_n hx hb d_Slice_length_4 rfl (lv_at hl 0 rfl) ?_
  refine va_get (v := .int (nI a)) hx hb htb i_Slice hown hK hP 0 rfl rfl 1 (by decide) (htb _ q2_97) (fun _ h9 => h9) rfl d_Slice_length_5 ?_
  refine lv_isub hx hb d_Slice_length_8 ?_
  exact W.iret (v := (nI b) - (nI a)) hx hb hr (fun t ht hW => ⟨_, rfl, pk_sub hab, ht⟩) (fun q h => by cases h) d_Slice_length_9
set_option maxHeartbeats 4000000 in
set_option maxRecDepth 100000 in
theorem c_Slice_at (l : Launch) (dC : Nat → ClassId) (dI : Nat → Nat → Nat) (h t a b n : Nat) (cA : ClassId) (u : Nat → Nat) (i : Int32) (hu : ∀ j, u j < 256) (hab : a ≤ b) (hbn : b ≤ n) (hn : n < 2 ^ 31) : Met l y_Slice_at w_Slice_at ({ frames := 0, cells := 0, slots := 0, locals := 0 }) (pu_P [.ref h, .int i] (dC, dI) [(h, .inr (0, [.ref t, .int (nI a), .int (nI b)])), (t, .inl (cA, n, .inl (tx u)))] [(cA, .byte)]) (vp_Si (fun r => r = sl_at u a b i)) 0 0 (fun _ => False) := by
  refine Met.ofW (cc := b_Slice_at) (maxL := 3) (ret := (some FieldType.int)) (by decide) rfl ?_
  intro p e s m args below meth c s₁ B hml hv
  obtain ⟨rfl, hP, hK, hN⟩ := hv
  have hx := B.exec
  have hb := B.bytes
  have hr := B.returns
  have hts := atoms_spec (ws := w_Slice_at) B.pre
  have tbin : ∀ w ∈ tb, w ∈ w_Slice_at := fun w h => List.mem_cons_of_mem _ h
  have htb : ∀ w ∈ tb, w.before _ s = true := fun w h => hts w (tbin w h)
  have hown : s.vm.findClass "TrustChain$Slice" = some m.cls := findClass_of_methodNamed B.named
  have hlocks := B.notSynchronized
  have hcs : 0 ≤ (headSpec w_Slice_at ({ frames := 0, cells := 0, slots := 0, locals := 0 })).room.cells ∧ 0 ≤ (headSpec w_Slice_at ({ frames := 0, cells := 0, slots := 0, locals := 0 })).room.slots := ⟨Nat.zero_le _, Nat.zero_le _⟩
  have hP : va_P (dC, dI) classes [(h, .inr (0, [.ref t, .int (nI a), .int (nI b)])), (t, .inl (cA, n, .inl (tx u)))] s.heap := hP
  have hl := lv_entry ([.ref h, .int i]) (n := 3) (Nat.le_of_ble_eq_true rfl)
  rw [lg_entry_eq]
  generalize (lg_sl ([.ref h, .int i]) ++ List.replicate (3 - (lg_sl ([.ref h, .int i])).length) Slot.unset).toArray = ls at hl ⊢
  have hl : lv_has ls 3 [(0, .ref h), (1, .int i)] := hl
  refine lv_aload_n hx hb d_Slice_at_0 rfl (lv_at hl 0 rfl) ?_
  refine va_get (v := .int (nI a)) hx hb htb i_Slice hown hK hP 0 rfl rfl 1 (by decide) (htb _ q2_97) (fun _ h9 => h9) rfl d_Slice_at_1 ?_
  refine lv_iload_n hx hb d_Slice_at_4 rfl (lv_at hl 1 rfl) ?_
  refine lv_iadd hx hb d_Slice_at_5 ?_
  refine lv_istore_n (lv' := [(2, .int ((nI a) + i)), (0, .ref h), (1, .int i)]) hx hb d_Slice_at_6 rfl hl (by decide) rfl (fun ls hl => ?_)
  refine w_join (J := fun v => v = sl_at u a b i) (pc := 46) (ls := ls) (rest := []) (fun v hv => ?_) (fun k46 => ?_)
  · skip
    exact W.iret (v := v) hx hb hr (fun t ht hW => ⟨_, rfl, hv, ht⟩) (fun q h => by cases h) d_Slice_at_46
  · skip
    refine lv_iload_n hx hb d_Slice_at_7 rfl (lv_at hl 2 rfl) ?_
    refine lv_if_lt (tgt := 45) hx hb d_Slice_at_8 (by decide) (fun c8 => ?_) (fun c8 => ?_)
    · refine lv_iconst (v := -1) hx hb d_Slice_at_45 (by decide) ?_
      exact k46 _ (sl_at_1 c8)
    · refine lv_iload_n hx hb d_Slice_at_11 rfl (lv_at hl 0 rfl) ?_
      refine lv_if_lt (tgt := 45) hx hb d_Slice_at_12 (by decide) (fun c12 => ?_) (fun c12 => ?_)
      · refine lv_iconst (v := -1) hx hb d_Slice_at_45 (by decide) ?_
        exact k46 _ (sl_at_2 hab hbn hn c8 c12)
      · refine lv_iload_n hx hb d_Slice_at_15 rfl (lv_at hl 0 rfl) ?_
        refine lv_aload_n hx hb d_Slice_at_16 rfl (lv_at hl 1 rfl) ?_
        refine va_get (v := .int (nI b)) hx hb htb i_Slice hown hK hP 0 rfl rfl 2 (by decide) (htb _ q2_99) (fun _ h9 => h9) rfl d_Slice_at_17 ?_
        refine lv_icmp_ge (tgt := 45) hx hb d_Slice_at_20 (by decide) (fun c20 => ?_) (fun c20 => ?_)
        · refine lv_iconst (v := -1) hx hb d_Slice_at_45 (by decide) ?_
          exact k46 _ (sl_at_3 hab hbn hn c8 c12 c20)
        · refine lv_iload_n hx hb d_Slice_at_23 rfl (lv_at hl 0 rfl) ?_
          refine lv_aload_n hx hb d_Slice_at_24 rfl (lv_at hl 1 rfl) ?_
          refine va_get (v := .ref t) hx hb htb i_Slice hown hK hP 0 rfl rfl 0 (by decide) (htb _ q2_96) (fun _ h9 => h9) rfl d_Slice_at_25 ?_
          refine va_alen (v := nI n) hx hb hK hP 1 0 rfl rfl rfl d_Slice_at_28 ?_
          refine lv_icmp_ge (tgt := 45) hx hb d_Slice_at_29 (by decide) (fun c29 => ?_) (fun c29 => ?_)
          · refine lv_iconst (v := -1) hx hb d_Slice_at_45 (by decide) ?_
            exact k46 _ (sl_at_4 hab hbn hn c8 c12 c20 c29)
          · refine lv_aload_n hx hb d_Slice_at_32 rfl (lv_at hl 1 rfl) ?_
            refine va_get (v := .ref t) hx hb htb i_Slice hown hK hP 0 rfl rfl 0 (by decide) (htb _ q2_96) (fun _ h9 => h9) rfl d_Slice_at_33 ?_
            refine lv_iload_n hx hb d_Slice_at_36 rfl (lv_at hl 0 rfl) ?_
            have h37 : vp_in ((nI a) + i) n := sl_in hab hbn hn c8 c12 c20 c29
            refine va_bald hx hb hK hP 1 0 rfl rfl h37 d_Slice_at_37 ?_
            refine lv_sipush (v := 255) hx hb d_Slice_at_38 (by decide) ?_
            refine lv_iand hx hb d_Slice_at_41 ?_
            refine lv_goto (tgt := 46) hx hb d_Slice_at_42 (by decide) ?_
            exact k46 _ (sl_at_5 hu hab hbn hn c8 c12 c20 c29)
set_option maxHeartbeats 4000000 in
set_option maxRecDepth 100000 in
theorem c_Slice_beginsWith (l : Launch) (dC : Nat → ClassId) (dI : Nat → Nat → Nat) (h h2 t t2 a b n a2 b2 n2 : Nat) (cA cB : ClassId) (u u2 : Nat → Nat) (hu : ∀ j, u j < 256) (hab : a ≤ b) (hbn : b ≤ n) (hn : n < 2 ^ 31) (hu2 : ∀ j, u2 j < 256) (hab2 : a2 ≤ b2) (hbn2 : b2 ≤ n2) (hn2 : n2 < 2 ^ 31) : Met l y_Slice_beginsWith w_Slice_beginsWith ({ frames := 1, cells := 0, slots := 0, locals := 22 }) (pu_P [.ref h, .ref h2] (dC, dI) [(h, .inr (0, [.ref t, .int (nI a), .int (nI b)])), (t, .inl (cA, n, .inl (tx u))), (h2, .inr (0, [.ref t2, .int (nI a2), .int (nI b2)])), (t2, .inl (cB, n2, .inl (tx u2)))] [(cA, .byte), (cB, .byte)]) (vp_Si (fun r => bz r (b2 - a2 ≤ b - a ∧ eqN u u2 a a2 (b2 - a2)))) 0 0 (fun _ => False) := by
  refine Met.ofW (cc := b_Slice_beginsWith) (maxL := 3) (ret := (some FieldType.boolean)) (by decide) rfl ?_
  intro p e s m args below meth c s₁ B hml hv
  obtain ⟨rfl, hP, hK, hN⟩ := hv
  have hx := B.exec
  have hb := B.bytes
  have hr := B.returns
  have hts := atoms_spec (ws := w_Slice_beginsWith) B.pre
  have tbin : ∀ w ∈ tb, w ∈ w_Slice_beginsWith := fun w h => List.mem_cons_of_mem _ h
  have htb : ∀ w ∈ tb, w.before _ s = true := fun w h => hts w (tbin w h)
  have hown : s.vm.findClass "TrustChain$Slice" = some m.cls := findClass_of_methodNamed B.named
  have hlocks := B.notSynchronized
  have hcs : 0 ≤ (headSpec w_Slice_beginsWith ({ frames := 1, cells := 0, slots := 0, locals := 22 })).room.cells ∧ 0 ≤ (headSpec w_Slice_beginsWith ({ frames := 1, cells := 0, slots := 0, locals := 22 })).room.slots := ⟨Nat.zero_le _, Nat.zero_le _⟩
  have hP : va_P (dC, dI) classes [(h, .inr (0, [.ref t, .int (nI a), .int (nI b)])), (t, .inl (cA, n, .inl (tx u))), (h2, .inr (0, [.ref t2, .int (nI a2), .int (nI b2)])), (t2, .inl (cB, n2, .inl (tx u2)))] s.heap := hP
  have hl := lv_entry ([.ref h, .ref h2]) (n := 3) (Nat.le_of_ble_eq_true rfl)
  rw [lg_entry_eq]
  generalize (lg_sl ([.ref h, .ref h2]) ++ List.replicate (3 - (lg_sl ([.ref h, .ref h2])).length) Slot.unset).toArray = ls at hl ⊢
  have hl : lv_has ls 3 [(0, .ref h), (1, .ref h2)] := hl
  refine lv_aload_n hx hb d_Slice_beginsWith_0 rfl (lv_at hl 1 rfl) ?_
  refine vp_callSi (pu_callV (As := []) (rest := []) ⟨hx, hb, hml, hown, hts⟩ tbin (c_Slice_length l dC dI h2 t2 a2 b2 hab2) q3_149 q3_150 q3_151 q1_20 q3_152 (n := 0) (by decide +kernel) rfl ⟨rfl, rfl⟩ ⟨Nat.le_of_ble_eq_true rfl, Nat.le_of_ble_eq_true rfl⟩ hcs hN hK hP [2] rfl [] rfl 2 0 rfl rfl rfl hl.1 rfl (Nat.le_of_ble_eq_true rfl) d_Slice_beginsWith_1) (fun r1 hr1 => ?_)
  refine lv_aload_n hx hb d_Slice_beginsWith_4 rfl (lv_at hl 0 rfl) ?_
  refine vp_callSi (pu_callV (As := []) (rest := [.int r1]) ⟨hx, hb, hml, hown, hts⟩ tbin (c_Slice_length l dC dI h t a b hab) q3_149 q3_150 q3_151 q1_20 q3_152 (n := 0) (by decide +kernel) rfl ⟨rfl, rfl⟩ ⟨Nat.le_of_ble_eq_true rfl, Nat.le_of_ble_eq_true rfl⟩ hcs hN hK hP [0] rfl [] rfl 0 0 rfl rfl rfl hl.1 rfl (Nat.le_of_ble_eq_true rfl) d_Slice_beginsWith_5) (fun r5 hr5 => ?_)
  refine lv_icmp_le (tgt := 13) hx hb d_Slice_beginsWith_8 (by decide) (fun c8 => ?_) (fun c8 => ?_)
  · have hle : b2 - a2 ≤ b - a := by rw [hr1, hr5, nI_leI (by omega) (by omega)] at c8; exact c8
    refine lv_iconst (v := 0) hx hb d_Slice_beginsWith_13 (by decide) ?_
    refine lv_istore_n (lv' := [(2, .int 0), (0, .ref h), (1, .ref h2)]) hx hb d_Slice_beginsWith_14 rfl hl (by decide) rfl (fun ls hl => ?_)
    refine w_loop (α := Nat) (fun k => k ≤ b2 - a2 ∧ eqN u u2 a a2 k) (fun k => b2 - a2 - k) (fun k => [(0, .ref h), (1, .ref h2), (2, .int (nI k))]) (fun _ => []) 3 15 (fun k ls hJ hl ih => ?_) 0 ls (⟨Nat.zero_le _, eqN_0⟩) (lv_sub hl [1, 2, 0] rfl)
    refine lv_iload_n hx hb d_Slice_beginsWith_15 rfl (lv_at hl 2 rfl) ?_
    refine lv_aload_n hx hb d_Slice_beginsWith_16 rfl (lv_at hl 1 rfl) ?_
    refine vp_callSi (pu_callV (As := []) (rest := [.int (nI k)]) ⟨hx, hb, hml, hown, hts⟩ tbin (c_Slice_length l dC dI h2 t2 a2 b2 hab2) q3_149 q3_150 q3_151 q1_20 q3_152 (n := 0) (by decide +kernel) rfl ⟨rfl, rfl⟩ ⟨Nat.le_of_ble_eq_true rfl, Nat.le_of_ble_eq_true rfl⟩ hcs hN hK hP [2] rfl [] rfl 2 0 rfl rfl rfl hl.1 rfl (Nat.le_of_ble_eq_true rfl) d_Slice_beginsWith_17) (fun r17 hr17 => ?_)
    refine lv_icmp_ge (tgt := 44) hx hb d_Slice_beginsWith_20 (by decide) (fun c20 => ?_) (fun c20 => ?_)
    · have hke : k = b2 - a2 := by rw [hr17, nI_leI (by omega) (by omega)] at c20; omega
      refine lv_iconst (v := 1) hx hb d_Slice_beginsWith_44 (by decide) ?_
      exact W.zret (v := 1) hx hb hr (by decide) (fun t ht hW => ⟨_, rfl, bz_t ⟨hle, hke ▸ hJ.2⟩, ht⟩) (fun q h => by cases h) d_Slice_beginsWith_45
    · have hlt : k < b2 - a2 := by rw [hr17, nI_leI (by omega) (by omega)] at c20; omega
      refine lv_aload_n hx hb d_Slice_beginsWith_23 rfl (lv_at hl 0 rfl) ?_
      refine lv_iload_n hx hb d_Slice_beginsWith_24 rfl (lv_at hl 2 rfl) ?_
      refine vp_callSi (pu_callV (As := [.int (nI k)]) (rest := []) ⟨hx, hb, hml, hown, hts⟩ tbin (c_Slice_at l dC dI h t a b n cA u (nI k) hu hab hbn hn) q3_154 q3_155 q3_156 q1_20 q3_157 (n := 1) (by decide +kernel) rfl ⟨rfl, rfl⟩ ⟨Nat.le_of_ble_eq_true rfl, Nat.le_of_ble_eq_true rfl⟩ hcs hN hK hP [0, 1] rfl [0] rfl 0 0 rfl rfl rfl hl.1 rfl (Nat.le_of_ble_eq_true rfl) d_Slice_beginsWith_25) (fun r25 hr25 => ?_)
      refine lv_aload_n hx hb d_Slice_beginsWith_28 rfl (lv_at hl 1 rfl) ?_
      refine lv_iload_n hx hb d_Slice_beginsWith_29 rfl (lv_at hl 2 rfl) ?_
      refine vp_callSi (pu_callV (As := [.int (nI k)]) (rest := [.int r25]) ⟨hx, hb, hml, hown, hts⟩ tbin (c_Slice_at l dC dI h2 t2 a2 b2 n2 cB u2 (nI k) hu2 hab2 hbn2 hn2) q3_154 q3_155 q3_156 q1_20 q3_157 (n := 1) (by decide +kernel) rfl ⟨rfl, rfl⟩ ⟨Nat.le_of_ble_eq_true rfl, Nat.le_of_ble_eq_true rfl⟩ hcs hN hK hP [2, 3] rfl [1] rfl 2 0 rfl rfl rfl hl.1 rfl (Nat.le_of_ble_eq_true rfl) d_Slice_beginsWith_30) (fun r30 hr30 => ?_)
      rw [sl_oct (by omega) (by omega)] at hr25 hr30
      refine lv_icmp_eq (tgt := 38) hx hb d_Slice_beginsWith_33 (by decide) (fun c33 => ?_) (fun c33 => ?_)
      · have hq : u (a + k) = u2 (a2 + k) := by rw [hr25, hr30, nI_eq (by have := hu (a + k); omega) (by have := hu2 (a2 + k); omega)] at c33; exact c33
        refine lv_iinc (v := nI (k + 1)) (lv' := [(2, .int (nI (k + 1))), (0, .ref h), (1, .ref h2)]) hx hb d_Slice_beginsWith_38 hl (k := 2) rfl (nI_1 _) (by decide) rfl (fun ls hl => ?_)
        refine lv_goto (tgt := 15) hx hb d_Slice_beginsWith_41 (by decide) ?_
        exact ih (k + 1) ls (by omega) (⟨by omega, eqN_s hJ.2 hq⟩) (lv_sub hl [1, 2, 0] rfl)
      · refine lv_iconst (v := 0) hx hb d_Slice_beginsWith_36 (by decide) ?_
        exact W.zret (v := 0) hx hb hr (by decide) (fun t ht hW => ⟨_, rfl, bz_f (fun q => c33 (by rw [hr25, hr30, q.2 k hlt])), ht⟩) (fun q h => by cases h) d_Slice_beginsWith_37
  · have hgt : ¬ b2 - a2 ≤ b - a := fun q => c8 (by rw [hr1, hr5]; exact nI_le q (by omega))
    refine lv_iconst (v := 0) hx hb d_Slice_beginsWith_11 (by decide) ?_
    exact W.zret (v := 0) hx hb hr (by decide) (fun t ht hW => ⟨_, rfl, bz_f (fun q => hgt q.1), ht⟩) (fun q h => by cases h) d_Slice_beginsWith_12
set_option maxHeartbeats 4000000 in
set_option maxRecDepth 100000 in
theorem c_Slice_same (l : Launch) (dC : Nat → ClassId) (dI : Nat → Nat → Nat) (h h2 t t2 a b n a2 b2 n2 : Nat) (cA cB : ClassId) (u u2 : Nat → Nat) (hu : ∀ j, u j < 256) (hab : a ≤ b) (hbn : b ≤ n) (hn : n < 2 ^ 31) (hu2 : ∀ j, u2 j < 256) (hab2 : a2 ≤ b2) (hbn2 : b2 ≤ n2) (hn2 : n2 < 2 ^ 31) : Met l y_Slice_same w_Slice_same ({ frames := 2, cells := 0, slots := 0, locals := 44 }) (pu_P [.ref h, .ref h2] (dC, dI) [(h, .inr (0, [.ref t, .int (nI a), .int (nI b)])), (t, .inl (cA, n, .inl (tx u))), (h2, .inr (0, [.ref t2, .int (nI a2), .int (nI b2)])), (t2, .inl (cB, n2, .inl (tx u2)))] [(cA, .byte), (cB, .byte)]) (vp_Si (fun r => bz r (b - a = b2 - a2 ∧ eqN u u2 a a2 (b - a)))) 0 0 (fun _ => False) := by
  refine Met.ofW (cc := b_Slice_same) (maxL := 2) (ret := (some FieldType.boolean)) (by decide) rfl ?_
  intro p e s m args below meth c s₁ B hml hv
  obtain ⟨rfl, hP, hK, hN⟩ := hv
  have hx := B.exec
  have hb := B.bytes
  have hr := B.returns
  have hts := atoms_spec (ws := w_Slice_same) B.pre
  have tbin : ∀ w ∈ tb, w ∈ w_Slice_same := fun w h => List.mem_cons_of_mem _ h
  have htb : ∀ w ∈ tb, w.before _ s = true := fun w h => hts w (tbin w h)
  have hown : s.vm.findClass "TrustChain$Slice" = some m.cls := findClass_of_methodNamed B.named
  have hlocks := B.notSynchronized
  have hcs : 0 ≤ (headSpec w_Slice_same ({ frames := 2, cells := 0, slots := 0, locals := 44 })).room.cells ∧ 0 ≤ (headSpec w_Slice_same ({ frames := 2, cells := 0, slots := 0, locals := 44 })).room.slots := ⟨Nat.zero_le _, Nat.zero_le _⟩
  have hP : va_P (dC, dI) classes [(h, .inr (0, [.ref t, .int (nI a), .int (nI b)])), (t, .inl (cA, n, .inl (tx u))), (h2, .inr (0, [.ref t2, .int (nI a2), .int (nI b2)])), (t2, .inl (cB, n2, .inl (tx u2)))] s.heap := hP
  have hl := lv_entry ([.ref h, .ref h2]) (n := 2) (Nat.le_of_ble_eq_true rfl)
  rw [lg_entry_eq]
  generalize (lg_sl ([.ref h, .ref h2]) ++ List.replicate (2 - (lg_sl ([.ref h, .ref h2])).length) Slot.unset).toArray = ls at hl ⊢
  have hl : lv_has ls 2 [(0, .ref h), (1, .ref h2)] := hl
  refine w_join (J := fun v => bz v (b - a = b2 - a2 ∧ eqN u u2 a a2 (b - a))) (pc := 24) (ls := ls) (rest := []) (fun v hv => ?_) (fun k24 => ?_)
  · skip
    exact W.zret (v := v) hx hb hr (bz_n hv) (fun t ht hW => ⟨_, rfl, hv, ht⟩) (fun q h => by cases h) d_Slice_same_24
  · skip
    refine lv_aload_n hx hb d_Slice_same_0 rfl (lv_at hl 0 rfl) ?_
    refine vp_callSi (pu_callV (As := []) (rest := []) ⟨hx, hb, hml, hown, hts⟩ tbin (c_Slice_length l dC dI h t a b hab) q3_149 q3_150 q3_151 q1_20 q3_152 (n := 0) (by decide +kernel) rfl ⟨rfl, rfl⟩ ⟨Nat.le_of_ble_eq_true rfl, Nat.le_of_ble_eq_true rfl⟩ hcs hN hK hP [0] rfl [] rfl 0 0 rfl rfl rfl hl.1 rfl (Nat.le_of_ble_eq_true rfl) d_Slice_same_1) (fun r1 hr1 => ?_)
    refine lv_aload_n hx hb d_Slice_same_4 rfl (lv_at hl 1 rfl) ?_
    refine vp_callSi (pu_callV (As := []) (rest := [.int r1]) ⟨hx, hb, hml, hown, hts⟩ tbin (c_Slice_length l dC dI h2 t2 a2 b2 hab2) q3_149 q3_150 q3_151 q1_20 q3_152 (n := 0) (by decide +kernel) rfl ⟨rfl, rfl⟩ ⟨Nat.le_of_ble_eq_true rfl, Nat.le_of_ble_eq_true rfl⟩ hcs hN hK hP [2] rfl [] rfl 2 0 rfl rfl rfl hl.1 rfl (Nat.le_of_ble_eq_true rfl) d_Slice_same_5) (fun r5 hr5 => ?_)
    refine lv_icmp_ne (tgt := 23) hx hb d_Slice_same_8 (by decide) (fun c8 => ?_) (fun c8 => ?_)
    · refine lv_iconst (v := 0) hx hb d_Slice_same_23 (by decide) ?_
      exact k24 _ (bz_f (fun q => c8 (by rw [hr1, hr5, q.1])))
    · have hle : b - a = b2 - a2 := by rw [hr1, hr5, nI_eq (by omega) (by omega)] at c8; exact c8
      refine lv_aload_n hx hb d_Slice_same_11 rfl (lv_at hl 1 rfl) ?_
      refine lv_aload_n hx hb d_Slice_same_12 rfl (lv_at hl 0 rfl) ?_
      refine vp_callSi (pu_callV (As := [.ref h]) (rest := []) ⟨hx, hb, hml, hown, hts⟩ tbin (c_Slice_beginsWith l dC dI h2 h t2 t a2 b2 n2 a b n cB cA u2 u hu2 hab2 hbn2 hn2 hu hab hbn hn) q4_121 q4_122 q4_123 q1_20 q4_124 (n := 1) (by decide +kernel) rfl ⟨rfl, rfl⟩ ⟨Nat.le_of_ble_eq_true rfl, Nat.le_of_ble_eq_true rfl⟩ hcs hN hK hP [2, 3, 0, 1] rfl [1, 0] rfl 2 0 rfl rfl rfl hl.1 rfl (Nat.le_of_ble_eq_true rfl) d_Slice_same_13) (fun r13 hr13 => ?_)
      refine lv_if_eq (tgt := 23) hx hb d_Slice_same_16 (by decide) (fun c16 => ?_) (fun c16 => ?_)
      · refine lv_iconst (v := 0) hx hb d_Slice_same_23 (by decide) ?_
        exact k24 _ (bz_f (fun q => bz_0 hr13 c16 ⟨by omega, fun j hj => (q.2 j hj).symm⟩))
      · refine lv_iconst (v := 1) hx hb d_Slice_same_19 (by decide) ?_
        refine lv_goto (tgt := 24) hx hb d_Slice_same_20 (by decide) ?_
        exact k24 _ (bz_t ⟨hle, fun j hj => ((bz_1 hr13 c16).2 j (by omega)).symm⟩)
set_option maxHeartbeats 4000000 in
set_option maxRecDepth 100000 in
theorem c_Slice_sharesTail (l : Launch) (dC : Nat → ClassId) (dI : Nat → Nat → Nat) (h h2 t t2 a b n a2 b2 n2 : Nat) (cA cB : ClassId) (u u2 : Nat → Nat) (z : Nat) (hu : ∀ j, u j < 256) (hab : a ≤ b) (hbn : b ≤ n) (hn : n < 2 ^ 31) (hu2 : ∀ j, u2 j < 256) (hab2 : a2 ≤ b2) (hbn2 : b2 ≤ n2) (hn2 : n2 < 2 ^ 31) (hz : z < 2 ^ 30) : Met l y_Slice_sharesTail w_Slice_sharesTail ({ frames := 1, cells := 0, slots := 0, locals := 22 }) (pu_P [.ref h, .ref h2, .int (nI z)] (dC, dI) [(h, .inr (0, [.ref t, .int (nI a), .int (nI b)])), (t, .inl (cA, n, .inl (tx u))), (h2, .inr (0, [.ref t2, .int (nI a2), .int (nI b2)])), (t2, .inl (cB, n2, .inl (tx u2)))] [(cA, .byte), (cB, .byte)]) (vp_Si (fun r => bz r (z ≤ b - a ∧ z ≤ b2 - a2 ∧ tailN u u2 b b2 z))) 0 0 (fun _ => False) := by
  refine Met.ofW (cc := b_Slice_sharesTail) (maxL := 4) (ret := (some FieldType.boolean)) (by decide) rfl ?_
  intro p e s m args below meth c s₁ B hml hv
  obtain ⟨rfl, hP, hK, hN⟩ := hv
  have hx := B.exec
  have hb := B.bytes
  have hr := B.returns
  have hts := atoms_spec (ws := w_Slice_sharesTail) B.pre
  have tbin : ∀ w ∈ tb, w ∈ w_Slice_sharesTail := fun w h => List.mem_cons_of_mem _ h
  have htb : ∀ w ∈ tb, w.before _ s = true := fun w h => hts w (tbin w h)
  have hown : s.vm.findClass "TrustChain$Slice" = some m.cls := findClass_of_methodNamed B.named
  have hlocks := B.notSynchronized
  have hcs : 0 ≤ (headSpec w_Slice_sharesTail ({ frames := 1, cells := 0, slots := 0, locals := 22 })).room.cells ∧ 0 ≤ (headSpec w_Slice_sharesTail ({ frames := 1, cells := 0, slots := 0, locals := 22 })).room.slots := ⟨Nat.zero_le _, Nat.zero_le _⟩
  have hP : va_P (dC, dI) classes [(h, .inr (0, [.ref t, .int (nI a), .int (nI b)])), (t, .inl (cA, n, .inl (tx u))), (h2, .inr (0, [.ref t2, .int (nI a2), .int (nI b2)])), (t2, .inl (cB, n2, .inl (tx u2)))] s.heap := hP
  have hl := lv_entry ([.ref h, .ref h2, .int (nI z)]) (n := 4) (Nat.le_of_ble_eq_true rfl)
  rw [lg_entry_eq]
  generalize (lg_sl ([.ref h, .ref h2, .int (nI z)]) ++ List.replicate (4 - (lg_sl ([.ref h, .ref h2, .int (nI z)])).length) Slot.unset).toArray = ls at hl ⊢
  have hl : lv_has ls 4 [(0, .ref h), (1, .ref h2), (2, .int (nI z))] := hl
  refine lv_iload_n hx hb d_Slice_sharesTail_0 rfl (lv_at hl 2 rfl) ?_
  refine lv_aload_n hx hb d_Slice_sharesTail_1 rfl (lv_at hl 0 rfl) ?_
  refine vp_callSi (pu_callV (As := []) (rest := [.int (nI z)]) ⟨hx, hb, hml, hown, hts⟩ tbin (c_Slice_length l dC dI h t a b hab) q3_149 q3_150 q3_151 q1_20 q3_152 (n := 0) (by decide +kernel) rfl ⟨rfl, rfl⟩ ⟨Nat.le_of_ble_eq_true rfl, Nat.le_of_ble_eq_true rfl⟩ hcs hN hK hP [0] rfl [] rfl 0 0 rfl rfl rfl hl.1 rfl (Nat.le_of_ble_eq_true rfl) d_Slice_sharesTail_2) (fun r2 hr2 => ?_)
  refine lv_icmp_gt (tgt := 16) hx hb d_Slice_sharesTail_5 (by decide) (fun c5 => ?_) (fun c5 => ?_)
  · have hno : ¬ (z ≤ b - a ∧ z ≤ b2 - a2) := fun q => (by rw [hr2, nI_ltI (by omega) (by omega)] at c5; omega)
    refine lv_iconst (v := 0) hx hb d_Slice_sharesTail_16 (by decide) ?_
    exact W.zret (v := 0) hx hb hr (by decide) (fun t ht hW => ⟨_, rfl, bz_f (fun q => hno ⟨q.1, q.2.1⟩), ht⟩) (fun q h => by cases h) d_Slice_sharesTail_17
  · refine lv_iload_n hx hb d_Slice_sharesTail_8 rfl (lv_at hl 2 rfl) ?_
    refine lv_aload_n hx hb d_Slice_sharesTail_9 rfl (lv_at hl 1 rfl) ?_
    refine vp_callSi (pu_callV (As := []) (rest := [.int (nI z)]) ⟨hx, hb, hml, hown, hts⟩ tbin (c_Slice_length l dC dI h2 t2 a2 b2 hab2) q3_149 q3_150 q3_151 q1_20 q3_152 (n := 0) (by decide +kernel) rfl ⟨rfl, rfl⟩ ⟨Nat.le_of_ble_eq_true rfl, Nat.le_of_ble_eq_true rfl⟩ hcs hN hK hP [2] rfl [] rfl 2 0 rfl rfl rfl hl.1 rfl (Nat.le_of_ble_eq_true rfl) d_Slice_sharesTail_10) (fun r10 hr10 => ?_)
    refine lv_icmp_le (tgt := 18) hx hb d_Slice_sharesTail_13 (by decide) (fun c13 => ?_) (fun c13 => ?_)
    · have hz1 : z ≤ b - a := by rw [hr2, nI_ltI (by omega) (by omega)] at c5; omega
      have hz2 : z ≤ b2 - a2 := by rw [hr10, nI_leI (by omega) (by omega)] at c13; exact c13
      refine lv_iconst (v := 1) hx hb d_Slice_sharesTail_18 (by decide) ?_
      refine lv_istore_n (lv' := [(3, .int 1), (0, .ref h), (1, .ref h2), (2, .int (nI z))]) hx hb d_Slice_sharesTail_19 rfl hl (by decide) rfl (fun ls hl => ?_)
      refine w_loop (α := Nat) (fun k => k ≤ z ∧ tailN u u2 b b2 k) (fun k => z - k) (fun k => [(0, .ref h), (1, .ref h2), (2, .int (nI z)), (3, .int (nI (k + 1)))]) (fun _ => []) 4 20 (fun k ls hJ hl ih => ?_) 0 ls (⟨Nat.zero_le _, tailN_0⟩) (lv_sub hl [1, 2, 3, 0] rfl)
      refine lv_iload_n hx hb d_Slice_sharesTail_20 rfl (lv_at hl 3 rfl) ?_
      refine lv_iload_n hx hb d_Slice_sharesTail_21 rfl (lv_at hl 2 rfl) ?_
      refine lv_icmp_gt (tgt := 62) hx hb d_Slice_sharesTail_22 (by decide) (fun c22 => ?_) (fun c22 => ?_)
      · have hke : k = z := by rw [nI_ltI (by omega) (by omega)] at c22; omega
        refine lv_iconst (v := 1) hx hb d_Slice_sharesTail_62 (by decide) ?_
        exact W.zret (v := 1) hx hb hr (by decide) (fun t ht hW => ⟨_, rfl, bz_t ⟨hz1, hz2, hke ▸ hJ.2⟩, ht⟩) (fun q h => by cases h) d_Slice_sharesTail_63
      · have hlt : k + 1 ≤ z := by rw [nI_ltI (by omega) (by omega)] at c22; omega
        refine lv_aload_n hx hb d_Slice_sharesTail_25 rfl (lv_at hl 0 rfl) ?_
        refine lv_aload_n hx hb d_Slice_sharesTail_26 rfl (lv_at hl 0 rfl) ?_
        refine vp_callSi (pu_callV (As := []) (rest := [.ref h]) ⟨hx, hb, hml, hown, hts⟩ tbin (c_Slice_length l dC dI h t a b hab) q3_149 q3_150 q3_151 q1_20 q3_152 (n := 0) (by decide +kernel) rfl ⟨rfl, rfl⟩ ⟨Nat.le_of_ble_eq_true rfl, Nat.le_of_ble_eq_true rfl⟩ hcs hN hK hP [0] rfl [] rfl 0 0 rfl rfl rfl hl.1 rfl (Nat.le_of_ble_eq_true rfl) d_Slice_sharesTail_27) (fun r27 hr27 => ?_)
        refine lv_iload_n hx hb d_Slice_sharesTail_30 rfl (lv_at hl 3 rfl) ?_
        refine lv_isub hx hb d_Slice_sharesTail_31 ?_
        rw [show (r27 - (nI (k + 1)) : Int32) = nI (b - a - (k + 1)) from by rw [hr27]; exact pk_sub (by omega)]
        refine vp_callSi (pu_callV (As := [.int (nI (b - a - (k + 1)))]) (rest := []) ⟨hx, hb, hml, hown, hts⟩ tbin (c_Slice_at l dC dI h t a b n cA u (nI (b - a - (k + 1))) hu hab hbn hn) q3_154 q3_155 q3_156 q1_20 q3_157 (n := 1) (by decide +kernel) rfl ⟨rfl, rfl⟩ ⟨Nat.le_of_ble_eq_true rfl, Nat.le_of_ble_eq_true rfl⟩ hcs hN hK hP [0, 1] rfl [0] rfl 0 0 rfl rfl rfl hl.1 rfl (Nat.le_of_ble_eq_true rfl) d_Slice_sharesTail_32) (fun r32 hr32 => ?_)
        refine vp_callSi (pu_callS (As := [.int r32]) (rest := []) ⟨hx, hb, hml, hown, hts⟩ tbin (c_Slice_lower l dC dI r32) q6_204 q6_205 q1_20 q6_206 (n := 1) (by decide +kernel) rfl ⟨rfl, rfl⟩ ⟨Nat.le_of_ble_eq_true rfl, Nat.le_of_ble_eq_true rfl⟩ hcs hN hK hP [] rfl [] rfl hl.1 rfl (Nat.le_of_ble_eq_true rfl) d_Slice_sharesTail_35) (fun r35 hr35 => ?_)
        refine lv_aload_n hx hb d_Slice_sharesTail_38 rfl (lv_at hl 1 rfl) ?_
        refine lv_aload_n hx hb d_Slice_sharesTail_39 rfl (lv_at hl 1 rfl) ?_
        refine vp_callSi (pu_callV (As := []) (rest := [.ref h2, .int r35]) ⟨hx, hb, hml, hown, hts⟩ tbin (c_Slice_length l dC dI h2 t2 a2 b2 hab2) q3_149 q3_150 q3_151 q1_20 q3_152 (n := 0) (by decide +kernel) rfl ⟨rfl, rfl⟩ ⟨Nat.le_of_ble_eq_true rfl, Nat.le_of_ble_eq_true rfl⟩ hcs hN hK hP [2] rfl [] rfl 2 0 rfl rfl rfl hl.1 rfl (Nat.le_of_ble_eq_true rfl) d_Slice_sharesTail_40) (fun r40 hr40 => ?_)
        refine lv_iload_n hx hb d_Slice_sharesTail_43 rfl (lv_at hl 3 rfl) ?_
        refine lv_isub hx hb d_Slice_sharesTail_44 ?_
        rw [show (r40 - (nI (k + 1)) : Int32) = nI (b2 - a2 - (k + 1)) from by rw [hr40]; exact pk_sub (by omega)]
        refine vp_callSi (pu_callV (As := [.int (nI (b2 - a2 - (k + 1)))]) (rest := [.int r35]) ⟨hx, hb, hml, hown, hts⟩ tbin (c_Slice_at l dC dI h2 t2 a2 b2 n2 cB u2 (nI (b2 - a2 - (k + 1))) hu2 hab2 hbn2 hn2) q3_154 q3_155 q3_156 q1_20 q3_157 (n := 1) (by decide +kernel) rfl ⟨rfl, rfl⟩ ⟨Nat.le_of_ble_eq_true rfl, Nat.le_of_ble_eq_true rfl⟩ hcs hN hK hP [2, 3] rfl [1] rfl 2 0 rfl rfl rfl hl.1 rfl (Nat.le_of_ble_eq_true rfl) d_Slice_sharesTail_45) (fun r45 hr45 => ?_)
        refine vp_callSi (pu_callS (As := [.int r45]) (rest := [.int r35]) ⟨hx, hb, hml, hown, hts⟩ tbin (c_Slice_lower l dC dI r45) q6_204 q6_205 q1_20 q6_206 (n := 1) (by decide +kernel) rfl ⟨rfl, rfl⟩ ⟨Nat.le_of_ble_eq_true rfl, Nat.le_of_ble_eq_true rfl⟩ hcs hN hK hP [] rfl [] rfl hl.1 rfl (Nat.le_of_ble_eq_true rfl) d_Slice_sharesTail_48) (fun r48 hr48 => ?_)
        rw [hr32, sl_back hu (by omega) (by omega) (by omega)] at hr35
        rw [hr45, sl_back hu2 (by omega) (by omega) (by omega)] at hr48
        refine lv_icmp_eq (tgt := 56) hx hb d_Slice_sharesTail_51 (by decide) (fun c51 => ?_) (fun c51 => ?_)
        · have hq : lowN (u (b - (k + 1))) = lowN (u2 (b2 - (k + 1))) := by rw [hr35, hr48, nI_eq (by have := lowN_lt (hu (b - (k + 1))); omega) (by have := lowN_lt (hu2 (b2 - (k + 1))); omega)] at c51; exact c51
          refine lv_iinc (v := nI (k + 1 + 1)) (lv' := [(3, .int (nI (k + 1 + 1))), (0, .ref h), (1, .ref h2), (2, .int (nI z))]) hx hb d_Slice_sharesTail_56 hl (k := 3) rfl (nI_1 _) (by decide) rfl (fun ls hl => ?_)
          refine lv_goto (tgt := 20) hx hb d_Slice_sharesTail_59 (by decide) ?_
          exact ih (k + 1) ls (by omega) (⟨by omega, tailN_s hJ.2 hq⟩) (lv_sub hl [1, 2, 3, 0] rfl)
        · refine lv_iconst (v := 0) hx hb d_Slice_sharesTail_54 (by decide) ?_
          exact W.zret (v := 0) hx hb hr (by decide) (fun t ht hW => ⟨_, rfl, bz_f (fun q => c51 (by rw [hr35, hr48, q.2.2 (k + 1) (by omega) hlt])), ht⟩) (fun q h => by cases h) d_Slice_sharesTail_55
    · have hno : ¬ (z ≤ b - a ∧ z ≤ b2 - a2) := fun q => c13 (by rw [hr10]; exact nI_le q.2 (by omega))
      refine lv_iconst (v := 0) hx hb d_Slice_sharesTail_16 (by decide) ?_
      exact W.zret (v := 0) hx hb hr (by decide) (fun t ht hW => ⟨_, rfl, bz_f (fun q => hno ⟨q.1, q.2.1⟩), ht⟩) (fun q h => by cases h) d_Slice_sharesTail_17
set_option maxHeartbeats 4000000 in
set_option maxRecDepth 100000 in
theorem c_Slice_find (l : Launch) (dC : Nat → ClassId) (dI : Nat → Nat → Nat) (h t a b n : Nat) (cA : ClassId) (u : Nat → Nat) (z : Nat) (hu : ∀ j, u j < 256) (hab : a ≤ b) (hbn : b ≤ n) (hn : n < 2 ^ 31) (hz : z < 65536) : Met l y_Slice_find w_Slice_find ({ frames := 1, cells := 0, slots := 0, locals := 22 }) (pu_P [.ref h, .int (nI z)] (dC, dI) [(h, .inr (0, [.ref t, .int (nI a), .int (nI b)])), (t, .inl (cA, n, .inl (tx u)))] [(cA, .byte)]) (vp_Si (fun r => (∃ k, k < b - a ∧ r = nI k ∧ u (a + k) = z ∧ ∀ j, j < k → u (a + j) ≠ z) ∨ (r = -1 ∧ ∀ j, j < b - a → u (a + j) ≠ z))) 0 0 (fun _ => False) := by
  refine Met.ofW (cc := b_Slice_find) (maxL := 3) (ret := (some FieldType.int)) (by decide) rfl ?_
  intro p e s m args below meth c s₁ B hml hv
  obtain ⟨rfl, hP, hK, hN⟩ := hv
  have hx := B.exec
  have hb := B.bytes
  have hr := B.returns
  have hts := atoms_spec (ws := w_Slice_find) B.pre
  have tbin : ∀ w ∈ tb, w ∈ w_Slice_find := fun w h => List.mem_cons_of_mem _ h
  have htb : ∀ w ∈ tb, w.before _ s = true := fun w h => hts w (tbin w h)
  have hown : s.vm.findClass "TrustChain$Slice" = some m.cls := findClass_of_methodNamed B.named
  have hlocks := B.notSynchronized
  have hcs : 0 ≤ (headSpec w_Slice_find ({ frames := 1, cells := 0, slots := 0, locals := 22 })).room.cells ∧ 0 ≤ (headSpec w_Slice_find ({ frames := 1, cells := 0, slots := 0, locals := 22 })).room.slots := ⟨Nat.zero_le _, Nat.zero_le _⟩
  have hP : va_P (dC, dI) classes [(h, .inr (0, [.ref t, .int (nI a), .int (nI b)])), (t, .inl (cA, n, .inl (tx u)))] s.heap := hP
  have hl := lv_entry ([.ref h, .int (nI z)]) (n := 3) (Nat.le_of_ble_eq_true rfl)
  rw [lg_entry_eq]
  generalize (lg_sl ([.ref h, .int (nI z)]) ++ List.replicate (3 - (lg_sl ([.ref h, .int (nI z)])).length) Slot.unset).toArray = ls at hl ⊢
  have hl : lv_has ls 3 [(0, .ref h), (1, .int (nI z))] := hl
  refine lv_iconst (v := 0) hx hb d_Slice_find_0 (by decide) ?_
  refine lv_istore_n (lv' := [(2, .int 0), (0, .ref h), (1, .int (nI z))]) hx hb d_Slice_find_1 rfl hl (by decide) rfl (fun ls hl => ?_)
  refine w_loop (α := Nat) (fun k => k ≤ b - a ∧ ∀ j, j < k → u (a + j) ≠ z) (fun k => b - a - k) (fun k => [(0, .ref h), (1, .int (nI z)), (2, .int (nI k))]) (fun _ => []) 3 2 (fun k ls hJ hl ih => ?_) 0 ls (⟨Nat.zero_le _, fun j h => absurd h (Nat.not_lt_zero j)⟩) (lv_sub hl [1, 2, 0] rfl)
  refine lv_iload_n hx hb d_Slice_find_2 rfl (lv_at hl 2 rfl) ?_
  refine lv_aload_n hx hb d_Slice_find_3 rfl (lv_at hl 0 rfl) ?_
  refine vp_callSi (pu_callV (As := []) (rest := [.int (nI k)]) ⟨hx, hb, hml, hown, hts⟩ tbin (c_Slice_length l dC dI h t a b hab) q3_149 q3_150 q3_151 q1_20 q3_152 (n := 0) (by decide +kernel) rfl ⟨rfl, rfl⟩ ⟨Nat.le_of_ble_eq_true rfl, Nat.le_of_ble_eq_true rfl⟩ hcs hN hK hP [0] rfl [] rfl 0 0 rfl rfl rfl hl.1 rfl (Nat.le_of_ble_eq_true rfl) d_Slice_find_4) (fun r4 hr4 => ?_)
  refine lv_icmp_ge (tgt := 27) hx hb d_Slice_find_7 (by decide) (fun c7 => ?_) (fun c7 => ?_)
  · have hke : k = b - a := by rw [hr4, nI_leI (by omega) (by omega)] at c7; omega
    refine lv_iconst (v := -1) hx hb d_Slice_find_27 (by decide) ?_
    exact W.iret (v := -1) hx hb hr (fun t ht hW => ⟨_, rfl, Or.inr ⟨rfl, hke ▸ hJ.2⟩, ht⟩) (fun q h => by cases h) d_Slice_find_28
  · have hlt : k < b - a := by rw [hr4, nI_leI (by omega) (by omega)] at c7; omega
    refine lv_aload_n hx hb d_Slice_find_10 rfl (lv_at hl 0 rfl) ?_
    refine lv_iload_n hx hb d_Slice_find_11 rfl (lv_at hl 2 rfl) ?_
    refine vp_callSi (pu_callV (As := [.int (nI k)]) (rest := []) ⟨hx, hb, hml, hown, hts⟩ tbin (c_Slice_at l dC dI h t a b n cA u (nI k) hu hab hbn hn) q3_154 q3_155 q3_156 q1_20 q3_157 (n := 1) (by decide +kernel) rfl ⟨rfl, rfl⟩ ⟨Nat.le_of_ble_eq_true rfl, Nat.le_of_ble_eq_true rfl⟩ hcs hN hK hP [0, 1] rfl [0] rfl 0 0 rfl rfl rfl hl.1 rfl (Nat.le_of_ble_eq_true rfl) d_Slice_find_12) (fun r12 hr12 => ?_)
    rw [sl_oct (by omega) (by omega)] at hr12
    refine lv_iload_n hx hb d_Slice_find_15 rfl (lv_at hl 1 rfl) ?_
    refine lv_icmp_ne (tgt := 21) hx hb d_Slice_find_16 (by decide) (fun c16 => ?_) (fun c16 => ?_)
    · have hq : u (a + k) ≠ z := fun q => c16 (by rw [hr12, q])
      refine lv_iinc (v := nI (k + 1)) (lv' := [(2, .int (nI (k + 1))), (0, .ref h), (1, .int (nI z))]) hx hb d_Slice_find_21 hl (k := 2) rfl (nI_1 _) (by decide) rfl (fun ls hl => ?_)
      refine lv_goto (tgt := 2) hx hb d_Slice_find_24 (by decide) ?_
      exact ih (k + 1) ls (by omega) (⟨by omega, lt_s hJ.2 hq⟩) (lv_sub hl [1, 2, 0] rfl)
    · have hq : u (a + k) = z := by rw [hr12, nI_eq (by have := hu (a + k); omega) (by omega)] at c16; exact c16
      refine lv_iload_n hx hb d_Slice_find_19 rfl (lv_at hl 2 rfl) ?_
      exact W.iret (v := nI k) hx hb hr (fun t ht hW => ⟨_, rfl, Or.inl ⟨k, hlt, rfl, hq, hJ.2⟩, ht⟩) (fun q h => by cases h) d_Slice_find_20
set_option maxHeartbeats 4000000 in
set_option maxRecDepth 100000 in
theorem c_Slice_number (l : Launch) (dC : Nat → ClassId) (dI : Nat → Nat → Nat) (h t a b n : Nat) (cA : ClassId) (u : Nat → Nat) (hu : ∀ j, u j < 256) (hab : a ≤ b) (hbn : b ≤ n) (hn : n < 2 ^ 31) : Met l y_Slice_number w_Slice_number ({ frames := 1, cells := 0, slots := 0, locals := 22 }) (pu_P [.ref h] (dC, dI) [(h, .inr (0, [.ref t, .int (nI a), .int (nI b)])), (t, .inl (cA, n, .inl (tx u)))] [(cA, .byte)]) (vp_Sl (fun r => r = sl_num u a b)) 0 0 (fun _ => False) := by
  refine Met.ofW (cc := b_Slice_number) (maxL := 4) (ret := (some FieldType.long)) (by decide) rfl ?_
  intro p e s m args below meth c s₁ B hml hv
  obtain ⟨rfl, hP, hK, hN⟩ := hv
  have hx := B.exec
  have hb := B.bytes
  have hr := B.returns
  have hts := atoms_spec (ws := w_Slice_number) B.pre
  have tbin : ∀ w ∈ tb, w ∈ w_Slice_number := fun w h => List.mem_cons_of_mem _ h
  have htb : ∀ w ∈ tb, w.before _ s = true := fun w h => hts w (tbin w h)
  have hown : s.vm.findClass "TrustChain$Slice" = some m.cls := findClass_of_methodNamed B.named
  have hlocks := B.notSynchronized
  have hcs : 0 ≤ (headSpec w_Slice_number ({ frames := 1, cells := 0, slots := 0, locals := 22 })).room.cells ∧ 0 ≤ (headSpec w_Slice_number ({ frames := 1, cells := 0, slots := 0, locals := 22 })).room.slots := ⟨Nat.zero_le _, Nat.zero_le _⟩
  have hP : va_P (dC, dI) classes [(h, .inr (0, [.ref t, .int (nI a), .int (nI b)])), (t, .inl (cA, n, .inl (tx u)))] s.heap := hP
  have hl := lv_entry ([.ref h]) (n := 4) (Nat.le_of_ble_eq_true rfl)
  rw [lg_entry_eq]
  generalize (lg_sl ([.ref h]) ++ List.replicate (4 - (lg_sl ([.ref h])).length) Slot.unset).toArray = ls at hl ⊢
  have hl : lv_has ls 4 [(0, .ref h)] := hl
  refine lv_aload_n hx hb d_Slice_number_0 rfl (lv_at hl 0 rfl) ?_
  refine vp_callSi (pu_callV (As := []) (rest := []) ⟨hx, hb, hml, hown, hts⟩ tbin (c_Slice_length l dC dI h t a b hab) q3_149 q3_150 q3_151 q1_20 q3_152 (n := 0) (by decide +kernel) rfl ⟨rfl, rfl⟩ ⟨Nat.le_of_ble_eq_true rfl, Nat.le_of_ble_eq_true rfl⟩ hcs hN hK hP [0] rfl [] rfl 0 0 rfl rfl rfl hl.1 rfl (Nat.le_of_ble_eq_true rfl) d_Slice_number_1) (fun r1 hr1 => ?_)
  refine lv_bipush (v := 8) hx hb d_Slice_number_4 (by decide) ?_
  refine lv_icmp_le (tgt := 13) hx hb d_Slice_number_6 (by decide) (fun c6 => ?_) (fun c6 => ?_)
  · have hsm : ¬ 8 < b - a := by rw [hr1, show (8 : Int32) = nI 8 from rfl, nI_leI (by omega) (by omega)] at c6; omega
    refine w_joinL (J := fun v => v = numG u a b 0) (pc := 31) (ls := ls) (rest := []) (fun v hv => ?_) (fun k31 => ?_)
    · skip
      subst hv
      refine lv_lstore_n (lv' := [(1, .long (numG u a b 0)), (0, .ref h)]) hx hb d_Slice_number_31 rfl hl (by decide) rfl (fun ls hl => ?_)
      refine lv_iconst (v := 0) hx hb d_Slice_number_32 (by decide) ?_
      refine lv_istore_n (lv' := [(3, .int 0), (1, .long (numG u a b 0)), (0, .ref h)]) hx hb d_Slice_number_33 rfl hl (by decide) rfl (fun ls hl => ?_)
      refine w_loop (α := Nat) (fun k => k ≤ b - a) (fun k => b - a - k) (fun k => [(0, .ref h), (1, .long (numG u a b k)), (3, .int (nI k))]) (fun _ => []) 4 34 (fun k ls hJ hl ih => ?_) 0 ls (Nat.zero_le _) (lv_sub hl [2, 1, 0] rfl)
      refine lv_iload_n hx hb d_Slice_number_34 rfl (lv_at hl 2 rfl) ?_
      refine lv_aload_n hx hb d_Slice_number_35 rfl (lv_at hl 0 rfl) ?_
      refine vp_callSi (pu_callV (As := []) (rest := [.int (nI k)]) ⟨hx, hb, hml, hown, hts⟩ tbin (c_Slice_length l dC dI h t a b hab) q3_149 q3_150 q3_151 q1_20 q3_152 (n := 0) (by decide +kernel) rfl ⟨rfl, rfl⟩ ⟨Nat.le_of_ble_eq_true rfl, Nat.le_of_ble_eq_true rfl⟩ hcs hN hK hP [0] rfl [] rfl 0 0 rfl rfl rfl hl.1 rfl (Nat.le_of_ble_eq_true rfl) d_Slice_number_36) (fun r36 hr36 => ?_)
      refine lv_icmp_ge (tgt := 60) hx hb d_Slice_number_39 (by decide) (fun c39 => ?_) (fun c39 => ?_)
      · have hke : k = b - a := by rw [hr36, nI_leI (by omega) (by omega)] at c39; omega
        refine lv_lload_n hx hb d_Slice_number_60 rfl (lv_at hl 1 rfl) ?_
        exact W.lret (v := numG u a b k) hx hb hr (fun t ht hW => ⟨_, rfl, by rw [hke, sl_num, if_neg hsm], ht⟩) (fun q h => by cases h) d_Slice_number_61
      · have hlt : k < b - a := by rw [hr36, nI_leI (by omega) (by omega)] at c39; omega
        refine lv_lload_n hx hb d_Slice_number_42 rfl (lv_at hl 1 rfl) ?_
        refine lv_bipush (v := 8) hx hb d_Slice_number_43 (by decide) ?_
        refine lv_lshl (v := (numG u a b k) <<< ((8 : Int32).toInt64 &&& 63)) hx hb d_Slice_number_45 rfl ?_
        refine lv_aload_n hx hb d_Slice_number_46 rfl (lv_at hl 0 rfl) ?_
        refine lv_iload_n hx hb d_Slice_number_47 rfl (lv_at hl 2 rfl) ?_
        refine vp_callSi (pu_callV (As := [.int (nI k)]) (rest := [.long ((numG u a b k) <<< ((8 : Int32).toInt64 &&& 63))]) ⟨hx, hb, hml, hown, hts⟩ tbin (c_Slice_at l dC dI h t a b n cA u (nI k) hu hab hbn hn) q3_154 q3_155 q3_156 q1_20 q3_157 (n := 1) (by decide +kernel) rfl ⟨rfl, rfl⟩ ⟨Nat.le_of_ble_eq_true rfl, Nat.le_of_ble_eq_true rfl⟩ hcs hN hK hP [0, 1] rfl [0] rfl 0 0 rfl rfl rfl hl.1 rfl (Nat.le_of_ble_eq_true rfl) d_Slice_number_48) (fun r48 hr48 => ?_)
        rw [show (r48 : Int32) = nI (u (a + k)) from by rw [hr48]; exact sl_oct (by omega) (by omega)]
        refine lv_i2l (v := (nI (u (a + k))).toInt64) hx hb d_Slice_number_51 rfl ?_
        refine lv_lor hx hb d_Slice_number_52 ?_
        rw [show (((numG u a b k) <<< ((8 : Int32).toInt64 &&& 63)) ||| ((nI (u (a + k))).toInt64) : Int64) = numG u a b (k + 1) from rfl]
        refine lv_lstore_n (lv' := [(1, .long (numG u a b (k + 1))), (0, .ref h), (3, .int (nI k))]) hx hb d_Slice_number_53 rfl hl (by decide) rfl (fun ls hl => ?_)
        refine lv_iinc (v := nI (k + 1)) (lv' := [(3, .int (nI (k + 1))), (1, .long (numG u a b (k + 1))), (0, .ref h)]) hx hb d_Slice_number_54 hl (k := 2) rfl (nI_1 _) (by decide) rfl (fun ls hl => ?_)
        refine lv_goto (tgt := 34) hx hb d_Slice_number_57 (by decide) ?_
        exact ih (k + 1) ls (by omega) (by omega) (lv_sub hl [2, 1, 0] rfl)
    · skip
      refine lv_aload_n hx hb d_Slice_number_13 rfl (lv_at hl 0 rfl) ?_
      refine lv_iconst (v := 0) hx hb d_Slice_number_14 (by decide) ?_
      refine vp_callSi (pu_callV (As := [.int 0]) (rest := []) ⟨hx, hb, hml, hown, hts⟩ tbin (c_Slice_at l dC dI h t a b n cA u 0 hu hab hbn hn) q3_154 q3_155 q3_156 q1_20 q3_157 (n := 1) (by decide +kernel) rfl ⟨rfl, rfl⟩ ⟨Nat.le_of_ble_eq_true rfl, Nat.le_of_ble_eq_true rfl⟩ hcs hN hK hP [0, 1] rfl [0] rfl 0 0 rfl rfl rfl hl.1 rfl (Nat.le_of_ble_eq_true rfl) d_Slice_number_15) (fun r15 hr15 => ?_)
      refine lv_sipush (v := 128) hx hb d_Slice_number_18 (by decide) ?_
      refine lv_icmp_lt (tgt := 30) hx hb d_Slice_number_21 (by decide) (fun c21 => ?_) (fun c21 => ?_)
      · refine lv_lconst (v := 0) hx hb d_Slice_number_30 (by decide) ?_
        exact k31 _ (by simp only [numG]; rw [if_neg (by rw [← hr15]; exact Int32.not_le.mpr c21)])
      · refine lv_ldc2 (v := -1) hx hb hown (htb _ q3_153) d_Slice_number_24 ?_
        refine lv_goto (tgt := 31) hx hb d_Slice_number_27 (by decide) ?_
        exact k31 _ (by simp only [numG]; rw [if_pos (by rw [← hr15]; exact Int32.not_lt.mp c21)])
  · have hbig : 8 < b - a := by rw [hr1, show (8 : Int32) = nI 8 from rfl, nI_leI (by omega) (by omega)] at c6; omega
    refine lv_ldc2 (v := -1) hx hb hown (htb _ q3_153) d_Slice_number_9 ?_
    exact W.lret (v := -1) hx hb hr (fun t ht hW => ⟨_, rfl, by simp [sl_num, hbig], ht⟩) (fun q h => by cases h) d_Slice_number_12
end
section
/-! My own rows over the kit: methods that change their world: start, end, joins and loops with a world. -/
/-- the start: the world's cells, apart, at a heap of size sz -/
def mu_P (av : List Value) (D : va_G) (ws : va_W) (tys : List (ClassId × FieldType)) (sz : Nat) : Array Value → State → Prop := va_Pc av (fun U => U.heap.size = sz ∧ va_P D classes ws U.heap ∧ va_K D classes tys U ∧ va_D (fun _ => True) ws ∧ nwOK U)
/-- the end: the world that stands behind it -/
def mu_B {S : Type} (D : va_G) (tys : List (ClassId × FieldType)) (A : Nat → Prop) (F : S → va_W) (u : S) (t : State) : Prop := va_P D classes (F u) t.heap ∧ va_K D classes tys t ∧ va_D A (F u)
def mu_Br {S : Type} (D : va_G) (tys : List (ClassId × FieldType)) (A : Nat → Prop) (F : S → Nat → va_W) (u : S) (a : Nat) (t : State) : Prop := va_P D classes (F u a) t.heap ∧ va_K D classes tys t ∧ va_D A (F u a)
theorem mu_blind {av : List Value} {D : va_G} {ws : va_W} {tys : List (ClassId × FieldType)} {sz : Nat} : FrameBlind (mu_P av D ws tys sz) := fun a U g mk q => by
  obtain ⟨q0, q1, qP, qK, qD, qN⟩ := q
  exact ⟨q0, q1, qP, va_K.moved (u := U) (U := U.calling g mk a) (Vm.Alike.refl U.vm) qK, qD, nwOK.same (s := U) rfl qN⟩
theorem mu_pre {s : State} {H : Heap} {av : List Value} {D : va_G} {ws wsB : va_W} {tys tysB : List (ClassId × FieldType)} {A : Nat → Prop} (hN : nwOK s) (hK : va_K D classes tysB s) (hP : va_P D classes wsB H) (hD : va_D A wsB) (is : List Nat) (hn : va_nd is = true) (hs : is.map (fun i => wsB[i]?) = ws.map some) (ts : List Nat) (ht : ts.filterMap (fun i => tysB[i]?) = tys) :
    ∀ U : State, U.heap = H → s.WarmedH U.vm → mu_P av D ws tys H.size av.toArray U := fun U hU hW => by
  have hD1 := hD.sub is hn hs
  have e : is.filterMap (fun i => wsB[i]?) = ws := by
    have h1 : is.filterMap (fun i => wsB[i]?) = (is.map (fun i => wsB[i]?)).filterMap id := by rw [List.filterMap_map]; rfl
    rw [h1, hs, List.filterMap_map]
    simp
  exact ⟨rfl, by rw [hU], by rw [hU]; exact hP.sub is e, va_K.moved hW.alike (hK.sub ts ht), hD1.weaken (fun _ _ _ _ => trivial), hN.warm hW⟩
section MUC
variable {p : Program} {l : Launch} {e : Env} {R : Room} {s : State} {m : MethodId} {args : Array Value} {below : List Frame} {meth : Method} {c : Code} {H : Heap} {locs : List Loc} {cells slots : Nat} {Q : State → Prop}
variable {pc : Nat} {ls : Array Slot} {rest st0 : List Value} {cc bytes : ByteArray} {nL maxL index : Nat} {Ts : List Cond} {own C : String} {y : MethodName} {ret : Option FieldType} {rm : Room} {D : va_G} {ws wsB wr : va_W} {tys tysB : List (ClassId × FieldType)} {As : List Value} {b : Nat} {fs : List Value} {q : vw_C} {n mc ms : Nat} {A : Nat → Prop} {H0 : Heap}
/-- a virtual call of a method that changes its world -/
theorem mu_runV {Qc : Array Value → State → Outcome → State → Prop} (S : CallFix p m c cc nL s args Ts own) (hin : ∀ w ∈ tb, w ∈ Ts) (hM : Met l y (Cond.code y bytes maxL ret :: tb) rm (mu_P (.ref b :: As) D ws tys H.size) Qc mc ms (va_A ws H.size))
    (h1 : Cond.methodLink own index y ∈ tb) (h2 : Cond.instanceMethod y ∈ tb) (h3 : Cond.selects C y y ∈ tb) (h4 : Cond.initialized C ∈ tb) (h5 : Cond.code y bytes maxL ret ∈ tb)
    (hd : y.cls = C ∧ y.cls ≠ "java/lang/invoke/MethodHandle" ∧ y.cls ≠ "java/lang/invoke/VarHandle" ∧ (parseMethodDescriptor y.desc).map (fun d => d.parameters.length) = some n) (hn : As.length = n)
    (hz : rm.cells = mc ∧ rm.slots = ms) (hR : rm.frames + 1 ≤ R.frames ∧ 8 + (maxL + 11) + rm.locals ≤ R.locals) (hf : cells + mc ≤ R.cells ∧ slots + ms ≤ R.slots)
    (hN : nwOK s) (hK : va_K D classes tysB s) (hP : va_P D classes wsB H) (hD : va_D A wsB) (is : List Nat) (hnd : va_nd is = true) (hs : is.map (fun i => wsB[i]?) = ws.map some) (ts : List Nat) (ht : ts.filterMap (fun i => tysB[i]?) = tys)
    (q0 ci : Nat) (he : wsB[q0]? = some (b, .inr (ci, fs))) (hc : classes[ci]? = some q) (hq : q.1 = C)
    (hsize : ls.size = nL) (hstack : st0 = As.reverse ++ .ref b :: rest) (hW : (rest.map fun v => v.category).sum ≤ 8) (hdg : decode cc pc = .ok (.invokevirtual index, 3)) :
    va_Run p l e R s m args below meth c H locs cells slots mc ms (F0 m pc ls st0) rest (Qc (Value.ref b :: As).toArray) (va_A ws H.size) := by
  subst hstack
  subst hn
  subst hq
  exact va_runV (As := As) (rest := rest) S hM (cwV As.length S.2.2.2.2 (gd_V hin h1 h2 h3 h4 h5) rfl hz.1 hz.2 hd hR) ⟨mu_blind, va_recv hK hP hc he, mu_pre hN hK hP hD is hnd hs ts ht⟩ rfl rfl hsize rfl (lv_room hW) hdg ⟨hf.1, hf.2⟩
/-- a call of an inherited (or own) method that changes its world -/
theorem mu_runU {owner : String} {x : MethodName} {Qc : Array Value → State → Outcome → State → Prop} (S : CallFix p m c cc nL s args Ts own) (hM : Met l y (Cond.code y bytes maxL ret :: tb) rm (mu_P (.ref b :: As) D ws tys H.size) Qc mc ms (va_A ws H.size))
    (hCU : va_CU R s args own C owner index x y bytes maxL ret (Cond.code y bytes maxL ret :: tb) rm mc ms n) (hn : As.length = n) (hf : cells + mc ≤ R.cells ∧ slots + ms ≤ R.slots)
    (hN : nwOK s) (hK : va_K D classes tysB s) (hP : va_P D classes wsB H) (hD : va_D A wsB) (is : List Nat) (hnd : va_nd is = true) (hs : is.map (fun i => wsB[i]?) = ws.map some) (ts : List Nat) (ht : ts.filterMap (fun i => tysB[i]?) = tys)
    (q0 ci : Nat) (he : wsB[q0]? = some (b, .inr (ci, fs))) (hc : classes[ci]? = some q) (hq : q.1 = C)
    (hsize : ls.size = nL) (hstack : st0 = As.reverse ++ .ref b :: rest) (hW : (rest.map fun v => v.category).sum ≤ 8) (hdg : decode cc pc = .ok (.invokevirtual index, 3)) :
    va_Run p l e R s m args below meth c H locs cells slots mc ms (F0 m pc ls st0) rest (Qc (Value.ref b :: As).toArray) (va_A ws H.size) := by
  subst hstack
  subst hn
  subst hq
  exact va_runU (As := As) (rest := rest) S hM hCU ⟨mu_blind, va_recv hK hP hc he, mu_pre hN hK hP hD is hnd hs ts ht⟩ rfl rfl hsize rfl (lv_room hW) hdg ⟨hf.1, hf.2⟩
/-- a join with a world -/
theorem w_joinW {α : Type} (J : α → Prop) (lv : α → List (Nat × Value)) (st : α → List Value) (F : α → va_W) (nL pc : Nat) {g : JFrame}
    (k : ∀ (a : α) (H : Heap) (locs : List Loc) (ls : Array Slot), J a → va_P D classes (F a) H → va_D A (F a) → va_S A H0 H locs → lv_has ls nL (lv a) → W p l e R s m args below meth c H locs cells slots Q (F0 m pc ls (st a)))
    (bb : (∀ (a : α) (H : Heap) (locs : List Loc) (ls : Array Slot), J a → va_P D classes (F a) H → va_D A (F a) → va_S A H0 H locs → lv_has ls nL (lv a) → W p l e R s m args below meth c H locs cells slots Q (F0 m pc ls (st a))) → W p l e R s m args below meth c H locs cells slots Q g) : W p l e R s m args below meth c H locs cells slots Q g := bb k
/-- a loop with a world -/
theorem w_loopW {α : Type} (J : α → Prop) (μ : α → Nat) (lv : α → List (Nat × Value)) (st : α → List Value) (F : α → va_W) (nL pc : Nat)
    (step : ∀ (a : α) (H : Heap) (locs : List Loc) (ls : Array Slot), J a → va_P D classes (F a) H → va_D A (F a) → va_S A H0 H locs → lv_has ls nL (lv a) → (∀ (a' : α) (H' : Heap) (locs' : List Loc) (ls' : Array Slot), μ a' < μ a → J a' → va_P D classes (F a') H' → va_D A (F a') → va_S A H0 H' locs' → lv_has ls' nL (lv a') → W p l e R s m args below meth c H' locs' cells slots Q (F0 m pc ls' (st a'))) → W p l e R s m args below meth c H locs cells slots Q (F0 m pc ls (st a)))
    (a : α) (H : Heap) (locs : List Loc) (ls : Array Slot) (hJ : J a) (hP : va_P D classes (F a) H) (hD : va_D A (F a)) (hS : va_S A H0 H locs) (hl : lv_has ls nL (lv a)) : W p l e R s m args below meth c H locs cells slots Q (F0 m pc ls (st a)) := by
  have key : ∀ (n : Nat) (a : α) (H : Heap) (locs : List Loc) (ls : Array Slot), μ a < n → J a → va_P D classes (F a) H → va_D A (F a) → va_S A H0 H locs → lv_has ls nL (lv a) → W p l e R s m args below meth c H locs cells slots Q (F0 m pc ls (st a)) := by
    intro n
    induction n with
    | zero => intro a H locs ls h; exact absurd h (Nat.not_lt_zero _)
    | succ n ih =>
      intro a H locs ls h hJ hP hD hS hl
      exact step a H locs ls hJ hP hD hS hl (fun a' H' locs' ls' h' hJ' hP' hD' hS' hl' => ih a' H' locs' ls' (by omega) hJ' hP' hD' hS' hl')
  exact key (μ a + 1) a H locs ls (Nat.lt_succ_self _) hJ hP hD hS hl
end MUC
end
section
/-! TrustChain.Reader: its place, the start of the latest element, where it was wrong. -/
/-- place, start, wrong -/
abbrev rS : Type := Nat × Nat × Option Nat
def wI : Option Nat → Int32
  | none => -1
  | some k => nI k
def rd_ref (x : rS) (k : Nat) : rS := match x with | (p, s, none) => (p, s, some k) | (p, s, some j) => (p, s, some j)
def rd_req (x : rS) (bv : Int32) : rS := match x with | (p, s, none) => if bv = 0 then (p, s, some s) else (p, s, none) | (p, s, some j) => (p, s, some j)
def rd_fin (x : rS) (e : Nat) : rS := match x with | (p, s, none) => if p < e then (p, s, some p) else (p, s, none) | (p, s, some j) => (p, s, some j)
def rd_lea (x : rS) (e : Nat) (bv : Int32) : rS := match x with | (p, s, none) => if bv = 0 then (p, s, some s) else (e, s, none) | (p, s, some j) => (p, s, some j)
theorem oc_in {n : Nat} {i : Int32} (hn : n < 2 ^ 30) (h1 : ¬ i < 0) (h2 : ¬ nI n ≤ i) : vp_in i n := by
  obtain ⟨k, hk, rfl⟩ := nI_of h1
  rw [nI_leI (by omega) hk] at h2
  exact vp_in_nI (by omega) (by omega)
theorem oc_at {u : Nat → Nat} {n : Nat} {i : Int32} (hu : ∀ j, u j < 256) (hn : n < 2 ^ 30) (h1 : ¬ i < 0) (h2 : ¬ nI n ≤ i) : tx u i.toNatClampNeg &&& 255 = sl_at u 0 n i := by
  obtain ⟨k, hk, rfl⟩ := nI_of h1
  rw [nI_leI (by omega) hk] at h2
  rw [sl_at_nI hk, if_pos (by omega), nI_clamp hk, tx_at hu, Nat.zero_add]
theorem oc_out {u : Nat → Nat} {n : Nat} {i : Int32} (hn : n < 2 ^ 30) (h : i < 0 ∨ nI n ≤ i) : -1 = sl_at u 0 n i := by
  rcases h with h | h
  · exact sl_at_1 h
  · by_cases h1 : i < 0
    · exact sl_at_1 h1
    · obtain ⟨k, hk, rfl⟩ := nI_of h1
      rw [nI_leI (by omega) hk] at h
      rw [sl_at_nI hk, if_neg (by omega)]
theorem wI_n {w : Option Nat} (hw : ∀ k, w = some k → k < 2 ^ 31) (h : ¬ 0 ≤ wI w) : w = none := by
  cases w with
  | none => rfl
  | some k => exact absurd (nI_pos' (hw k rfl)) h
theorem wI_s {w : Option Nat} (h : 0 ≤ wI w) : ¬ w = none := fun q => absurd (q ▸ h) (by decide)
theorem wI_n' {w : Option Nat} (hw : ∀ k, w = some k → k < 2 ^ 31) (h : wI w < 0) : w = none := wI_n hw (Int32.not_le.mpr h)
theorem wI_s' {w : Option Nat} (h : ¬ wI w < 0) : ¬ w = none := wI_s (Int32.not_lt.mp h)
section RDX
variable {p s e k : Nat} {w : Option Nat} {bv : Int32}
theorem rd_ref_1 (h : ¬ w = none) : (p, s, w) = rd_ref (p, s, w) k := by cases w with | none => exact absurd rfl h | some j => rfl
theorem rd_ref_2 (h : w = none) : (p, s, some k) = rd_ref (p, s, w) k := by rw [h]; rfl
theorem rd_req_1 (h : ¬ bv = 0) : (p, s, w) = rd_req (p, s, w) bv := by cases w with | none => simp [rd_req, h] | some j => rfl
theorem rd_req_2 (h : ¬ w = none) : (p, s, w) = rd_req (p, s, w) bv := by cases w with | none => exact absurd rfl h | some j => rfl
theorem rd_req_3 (h : w = none) (hb : bv = 0) : (p, s, some s) = rd_req (p, s, w) bv := by rw [h, hb]; rfl
theorem rd_fin_1 (h : ¬ w = none) : (p, s, w) = rd_fin (p, s, w) e := by cases w with | none => exact absurd rfl h | some j => rfl
theorem rd_fin_2 (h : ¬ p < e) : (p, s, w) = rd_fin (p, s, w) e := by cases w with | none => simp [rd_fin, h] | some j => rfl
theorem rd_fin_3 (h : w = none) (hb : p < e) : (p, s, some p) = rd_fin (p, s, w) e := by rw [h]; simp [rd_fin, hb]
theorem rd_lea_1 (h : ¬ w = none) : (p, s, w) = rd_lea (p, s, w) e bv := by cases w with | none => exact absurd rfl h | some j => rfl
theorem rd_lea_2 (h : w = none) (hb : bv = 0) : (p, s, some s) = rd_lea (p, s, w) e bv := by rw [h, hb]; rfl
theorem rd_lea_3 (h : w = none) (hb : ¬ bv = 0) : (e, s, w) = rd_lea (p, s, w) e bv := by rw [h]; simp [rd_lea, hb]
end RDX

def y_Reader_octet : MethodName := ⟨"TrustChain$Reader", "octet", "(I)I"⟩
abbrev b_Reader_octet : ByteArray := prog_8_method_3_code
def w_Reader_octet : List Cond := Cond.code y_Reader_octet b_Reader_octet 2 ((some FieldType.int)) :: tb
theorem d_Reader_octet_0 : decode b_Reader_octet 0 = .ok (.iload_n 1, 1) := by decide +kernel
theorem d_Reader_octet_1 : decode b_Reader_octet 1 = .ok (.ifCond .lt 25, 3) := by decide +kernel
theorem d_Reader_octet_4 : decode b_Reader_octet 4 = .ok (.iload_n 1, 1) := by decide +kernel
theorem d_Reader_octet_5 : decode b_Reader_octet 5 = .ok (.aload_n 0, 1) := by decide +kernel
theorem d_Reader_octet_6 : decode b_Reader_octet 6 = .ok (.getfield 37, 3) := by decide +kernel
theorem d_Reader_octet_9 : decode b_Reader_octet 9 = .ok (.arraylength, 1) := by decide +kernel
theorem d_Reader_octet_10 : decode b_Reader_octet 10 = .ok (.if_icmp .ge 16, 3) := by decide +kernel
theorem d_Reader_octet_13 : decode b_Reader_octet 13 = .ok (.aload_n 0, 1) := by decide +kernel
theorem d_Reader_octet_14 : decode b_Reader_octet 14 = .ok (.getfield 37, 3) := by decide +kernel
theorem d_Reader_octet_17 : decode b_Reader_octet 17 = .ok (.iload_n 1, 1) := by decide +kernel
theorem d_Reader_octet_18 : decode b_Reader_octet 18 = .ok (.baload, 1) := by decide +kernel
theorem d_Reader_octet_19 : decode b_Reader_octet 19 = .ok (.sipush 255, 3) := by decide +kernel
theorem d_Reader_octet_22 : decode b_Reader_octet 22 = .ok (.iand, 1) := by decide +kernel
theorem d_Reader_octet_23 : decode b_Reader_octet 23 = .ok (.goto 4, 3) := by decide +kernel
theorem d_Reader_octet_26 : decode b_Reader_octet 26 = .ok (.iconst (-1), 1) := by decide +kernel
theorem d_Reader_octet_27 : decode b_Reader_octet 27 = .ok (.ireturn, 1) := by decide +kernel
def y_Reader_more : MethodName := ⟨"TrustChain$Reader", "more", "(I)Z"⟩
abbrev b_Reader_more : ByteArray := prog_8_method_4_code
def w_Reader_more : List Cond := Cond.code y_Reader_more b_Reader_more 2 ((some FieldType.boolean)) :: tb
theorem d_Reader_more_0 : decode b_Reader_more 0 = .ok (.aload_n 0, 1) := by decide +kernel
theorem d_Reader_more_1 : decode b_Reader_more 1 = .ok (.getfield 18, 3) := by decide +kernel
theorem d_Reader_more_4 : decode b_Reader_more 4 = .ok (.ifCond .ge 15, 3) := by decide +kernel
theorem d_Reader_more_7 : decode b_Reader_more 7 = .ok (.aload_n 0, 1) := by decide +kernel
theorem d_Reader_more_8 : decode b_Reader_more 8 = .ok (.getfield 9, 3) := by decide +kernel
theorem d_Reader_more_11 : decode b_Reader_more 11 = .ok (.iload_n 1, 1) := by decide +kernel
theorem d_Reader_more_12 : decode b_Reader_more 12 = .ok (.if_icmp .ge 7, 3) := by decide +kernel
theorem d_Reader_more_15 : decode b_Reader_more 15 = .ok (.iconst 1, 1) := by decide +kernel
theorem d_Reader_more_16 : decode b_Reader_more 16 = .ok (.goto 4, 3) := by decide +kernel
theorem d_Reader_more_19 : decode b_Reader_more 19 = .ok (.iconst 0, 1) := by decide +kernel
theorem d_Reader_more_20 : decode b_Reader_more 20 = .ok (.ireturn, 1) := by decide +kernel
def y_Reader_nextIs : MethodName := ⟨"TrustChain$Reader", "nextIs", "(II)Z"⟩
abbrev b_Reader_nextIs : ByteArray := prog_8_method_5_code
def w_Reader_nextIs : List Cond := Cond.code y_Reader_nextIs b_Reader_nextIs 3 ((some FieldType.boolean)) :: tb
theorem d_Reader_nextIs_0 : decode b_Reader_nextIs 0 = .ok (.aload_n 0, 1) := by decide +kernel
theorem d_Reader_nextIs_1 : decode b_Reader_nextIs 1 = .ok (.iload_n 2, 1) := by decide +kernel
theorem d_Reader_nextIs_2 : decode b_Reader_nextIs 2 = .ok (.invokevirtual 50, 3) := by decide +kernel
theorem d_Reader_nextIs_5 : decode b_Reader_nextIs 5 = .ok (.ifCond .eq 19, 3) := by decide +kernel
theorem d_Reader_nextIs_8 : decode b_Reader_nextIs 8 = .ok (.aload_n 0, 1) := by decide +kernel
theorem d_Reader_nextIs_9 : decode b_Reader_nextIs 9 = .ok (.aload_n 0, 1) := by decide +kernel
theorem d_Reader_nextIs_10 : decode b_Reader_nextIs 10 = .ok (.getfield 9, 3) := by decide +kernel
theorem d_Reader_nextIs_13 : decode b_Reader_nextIs 13 = .ok (.invokevirtual 54, 3) := by decide +kernel
theorem d_Reader_nextIs_16 : decode b_Reader_nextIs 16 = .ok (.iload_n 1, 1) := by decide +kernel
theorem d_Reader_nextIs_17 : decode b_Reader_nextIs 17 = .ok (.if_icmp .ne 7, 3) := by decide +kernel
theorem d_Reader_nextIs_20 : decode b_Reader_nextIs 20 = .ok (.iconst 1, 1) := by decide +kernel
theorem d_Reader_nextIs_21 : decode b_Reader_nextIs 21 = .ok (.goto 4, 3) := by decide +kernel
theorem d_Reader_nextIs_24 : decode b_Reader_nextIs 24 = .ok (.iconst 0, 1) := by decide +kernel
theorem d_Reader_nextIs_25 : decode b_Reader_nextIs 25 = .ok (.ireturn, 1) := by decide +kernel
def y_Reader_refuse : MethodName := ⟨"TrustChain$Reader", "refuse", "(I)V"⟩
abbrev b_Reader_refuse : ByteArray := prog_8_method_6_code
def w_Reader_refuse : List Cond := Cond.code y_Reader_refuse b_Reader_refuse 2 (none) :: tb
theorem d_Reader_refuse_0 : decode b_Reader_refuse 0 = .ok (.aload_n 0, 1) := by decide +kernel
theorem d_Reader_refuse_1 : decode b_Reader_refuse 1 = .ok (.getfield 18, 3) := by decide +kernel
theorem d_Reader_refuse_4 : decode b_Reader_refuse 4 = .ok (.ifCond .ge 8, 3) := by decide +kernel
theorem d_Reader_refuse_7 : decode b_Reader_refuse 7 = .ok (.aload_n 0, 1) := by decide +kernel
theorem d_Reader_refuse_8 : decode b_Reader_refuse 8 = .ok (.iload_n 1, 1) := by decide +kernel
theorem d_Reader_refuse_9 : decode b_Reader_refuse 9 = .ok (.putfield 18, 3) := by decide +kernel
theorem d_Reader_refuse_12 : decode b_Reader_refuse 12 = .ok (.return_, 1) := by decide +kernel
def y_Reader_require : MethodName := ⟨"TrustChain$Reader", "require", "(Z)V"⟩
abbrev b_Reader_require : ByteArray := prog_8_method_7_code
def w_Reader_require : List Cond := Cond.code y_Reader_require b_Reader_require 2 (none) :: tb
theorem d_Reader_require_0 : decode b_Reader_require 0 = .ok (.iload_n 1, 1) := by decide +kernel
theorem d_Reader_require_1 : decode b_Reader_require 1 = .ok (.ifCond .ne 18, 3) := by decide +kernel
theorem d_Reader_require_4 : decode b_Reader_require 4 = .ok (.aload_n 0, 1) := by decide +kernel
theorem d_Reader_require_5 : decode b_Reader_require 5 = .ok (.getfield 18, 3) := by decide +kernel
theorem d_Reader_require_8 : decode b_Reader_require 8 = .ok (.ifCond .ge 11, 3) := by decide +kernel
theorem d_Reader_require_11 : decode b_Reader_require 11 = .ok (.aload_n 0, 1) := by decide +kernel
theorem d_Reader_require_12 : decode b_Reader_require 12 = .ok (.aload_n 0, 1) := by decide +kernel
theorem d_Reader_require_13 : decode b_Reader_require 13 = .ok (.getfield 15, 3) := by decide +kernel
theorem d_Reader_require_16 : decode b_Reader_require 16 = .ok (.putfield 18, 3) := by decide +kernel
theorem d_Reader_require_19 : decode b_Reader_require 19 = .ok (.return_, 1) := by decide +kernel
def y_Reader_finish : MethodName := ⟨"TrustChain$Reader", "finish", "(I)V"⟩
abbrev b_Reader_finish : ByteArray := prog_8_method_9_code
def w_Reader_finish : List Cond := Cond.code y_Reader_finish b_Reader_finish 2 (none) :: tb
theorem d_Reader_finish_0 : decode b_Reader_finish 0 = .ok (.aload_n 0, 1) := by decide +kernel
theorem d_Reader_finish_1 : decode b_Reader_finish 1 = .ok (.getfield 18, 3) := by decide +kernel
theorem d_Reader_finish_4 : decode b_Reader_finish 4 = .ok (.ifCond .ge 19, 3) := by decide +kernel
theorem d_Reader_finish_7 : decode b_Reader_finish 7 = .ok (.aload_n 0, 1) := by decide +kernel
theorem d_Reader_finish_8 : decode b_Reader_finish 8 = .ok (.getfield 9, 3) := by decide +kernel
theorem d_Reader_finish_11 : decode b_Reader_finish 11 = .ok (.iload_n 1, 1) := by decide +kernel
theorem d_Reader_finish_12 : decode b_Reader_finish 12 = .ok (.if_icmp .ge 11, 3) := by decide +kernel
theorem d_Reader_finish_15 : decode b_Reader_finish 15 = .ok (.aload_n 0, 1) := by decide +kernel
theorem d_Reader_finish_16 : decode b_Reader_finish 16 = .ok (.aload_n 0, 1) := by decide +kernel
theorem d_Reader_finish_17 : decode b_Reader_finish 17 = .ok (.getfield 9, 3) := by decide +kernel
theorem d_Reader_finish_20 : decode b_Reader_finish 20 = .ok (.putfield 18, 3) := by decide +kernel
theorem d_Reader_finish_23 : decode b_Reader_finish 23 = .ok (.return_, 1) := by decide +kernel
def y_Reader_leave : MethodName := ⟨"TrustChain$Reader", "leave", "(IZ)V"⟩
abbrev b_Reader_leave : ByteArray := prog_8_method_10_code
def w_Reader_leave : List Cond := Cond.code y_Reader_leave b_Reader_leave 3 (none) :: tb
theorem d_Reader_leave_0 : decode b_Reader_leave 0 = .ok (.aload_n 0, 1) := by decide +kernel
theorem d_Reader_leave_1 : decode b_Reader_leave 1 = .ok (.getfield 18, 3) := by decide +kernel
theorem d_Reader_leave_4 : decode b_Reader_leave 4 = .ok (.ifCond .lt 4, 3) := by decide +kernel
theorem d_Reader_leave_7 : decode b_Reader_leave 7 = .ok (.return_, 1) := by decide +kernel
theorem d_Reader_leave_8 : decode b_Reader_leave 8 = .ok (.iload_n 2, 1) := by decide +kernel
theorem d_Reader_leave_9 : decode b_Reader_leave 9 = .ok (.ifCond .eq 11, 3) := by decide +kernel
theorem d_Reader_leave_12 : decode b_Reader_leave 12 = .ok (.aload_n 0, 1) := by decide +kernel
theorem d_Reader_leave_13 : decode b_Reader_leave 13 = .ok (.iload_n 1, 1) := by decide +kernel
theorem d_Reader_leave_14 : decode b_Reader_leave 14 = .ok (.putfield 9, 3) := by decide +kernel
theorem d_Reader_leave_17 : decode b_Reader_leave 17 = .ok (.goto 11, 3) := by decide +kernel
theorem d_Reader_leave_20 : decode b_Reader_leave 20 = .ok (.aload_n 0, 1) := by decide +kernel
theorem d_Reader_leave_21 : decode b_Reader_leave 21 = .ok (.aload_n 0, 1) := by decide +kernel
theorem d_Reader_leave_22 : decode b_Reader_leave 22 = .ok (.getfield 15, 3) := by decide +kernel
theorem d_Reader_leave_25 : decode b_Reader_leave 25 = .ok (.putfield 18, 3) := by decide +kernel
theorem d_Reader_leave_28 : decode b_Reader_leave 28 = .ok (.return_, 1) := by decide +kernel
set_option maxHeartbeats 4000000 in
set_option maxRecDepth 100000 in
theorem cC_octet (l : Launch) (dC : Nat → ClassId) (dI : Nat → Nat → Nat) (h res t no ki : Nat) (pp s0 n : Nat) (w : Option Nat) (pa ma ex ie : Int32) (cB : ClassId) (u : Nat → Nat) (i : Int32) (hu : ∀ j, u j < 256) (hn : n < 2 ^ 30) : Met l y_Reader_octet w_Reader_octet ({ frames := 0, cells := 0, slots := 0, locals := 0 }) (pu_P [.ref h, .int i] (dC, dI) [(h, .inr (4, [.ref res, .ref t, .ref no, .int (nI pp), .int (nI s0), .int (wI w), .int pa, .int ma, .int ex, .ref ki])), (t, .inl (cB, n, .inl (tx u)))] [(cB, .byte)]) (vp_Si (fun r => r = sl_at u 0 n i)) 0 0 (fun _ => False) := by
  refine Met.ofW (cc := b_Reader_octet) (maxL := 2) (ret := (some FieldType.int)) (by decide) rfl ?_
  intro p e s m args below meth c s₁ B hml hv
  obtain ⟨rfl, hP, hK, hN⟩ := hv
  have hx := B.exec
  have hb := B.bytes
  have hr := B.returns
  have hts := atoms_spec (ws := w_Reader_octet) B.pre
  have tbin : ∀ w ∈ tb, w ∈ w_Reader_octet := fun w h => List.mem_cons_of_mem _ h
  have htb : ∀ w ∈ tb, w.before _ s = true := fun w h => hts w (tbin w h)
  have hown : s.vm.findClass "TrustChain$Reader" = some m.cls := findClass_of_methodNamed B.named
  have hlocks := B.notSynchronized
  have hcs : 0 ≤ (headSpec w_Reader_octet ({ frames := 0, cells := 0, slots := 0, locals := 0 })).room.cells ∧ 0 ≤ (headSpec w_Reader_octet ({ frames := 0, cells := 0, slots := 0, locals := 0 })).room.slots := ⟨Nat.zero_le _, Nat.zero_le _⟩
  have hP : va_P (dC, dI) classes [(h, .inr (4, [.ref res, .ref t, .ref no, .int (nI pp), .int (nI s0), .int (wI w), .int pa, .int ma, .int ex, .ref ki])), (t, .inl (cB, n, .inl (tx u)))] s.heap := hP
  have hl := lv_entry ([.ref h, .int i]) (n := 2) (Nat.le_of_ble_eq_true rfl)
  rw [lg_entry_eq]
  generalize (lg_sl ([.ref h, .int i]) ++ List.replicate (2 - (lg_sl ([.ref h, .int i])).length) Slot.unset).toArray = ls at hl ⊢
  have hl : lv_has ls 2 [(0, .ref h), (1, .int i)] := hl
  refine w_join (J := fun v => v = sl_at u 0 n i) (pc := 27) (ls := ls) (rest := []) (fun v hv => ?_) (fun k27 => ?_)
  · skip
    exact W.iret (v := v) hx hb hr (fun t ht hW => ⟨_, rfl, hv, ht⟩) (fun q h => by cases h) d_Reader_octet_27
  · skip
    refine lv_iload_n hx hb d_Reader_octet_0 rfl (lv_at hl 1 rfl) ?_
    refine lv_if_lt (tgt := 26) hx hb d_Reader_octet_1 (by decide) (fun c1 => ?_) (fun c1 => ?_)
    · refine lv_iconst (v := -1) hx hb d_Reader_octet_26 (by decide) ?_
      exact k27 _ (oc_out hn (Or.inl c1))
    · refine lv_iload_n hx hb d_Reader_octet_4 rfl (lv_at hl 1 rfl) ?_
      refine lv_aload_n hx hb d_Reader_octet_5 rfl (lv_at hl 0 rfl) ?_
      refine va_get (v := .ref t) hx hb htb i_CertificateReader hown hK hP 0 rfl rfl 1 (by decide) (htb _ q3_58) (fun _ h9 => h9) rfl d_Reader_octet_6 ?_
      refine va_alen (v := nI n) hx hb hK hP 1 0 rfl rfl rfl d_Reader_octet_9 ?_
      refine lv_icmp_ge (tgt := 26) hx hb d_Reader_octet_10 (by decide) (fun c10 => ?_) (fun c10 => ?_)
      · refine lv_iconst (v := -1) hx hb d_Reader_octet_26 (by decide) ?_
        exact k27 _ (oc_out hn (Or.inr c10))
      · refine lv_aload_n hx hb d_Reader_octet_13 rfl (lv_at hl 0 rfl) ?_
        refine va_get (v := .ref t) hx hb htb i_CertificateReader hown hK hP 0 rfl rfl 1 (by decide) (htb _ q3_58) (fun _ h9 => h9) rfl d_Reader_octet_14 ?_
        refine lv_iload_n hx hb d_Reader_octet_17 rfl (lv_at hl 1 rfl) ?_
        have h18 : vp_in i n := oc_in hn c1 c10
        refine va_bald hx hb hK hP 1 0 rfl rfl h18 d_Reader_octet_18 ?_
        refine lv_sipush (v := 255) hx hb d_Reader_octet_19 (by decide) ?_
        refine lv_iand hx hb d_Reader_octet_22 ?_
        refine lv_goto (tgt := 27) hx hb d_Reader_octet_23 (by decide) ?_
        exact k27 _ (oc_at hu hn c1 c10)
set_option maxHeartbeats 4000000 in
set_option maxRecDepth 100000 in
theorem cC_more (l : Launch) (dC : Nat → ClassId) (dI : Nat → Nat → Nat) (h res t no ki : Nat) (pp s0 n : Nat) (w : Option Nat) (pa ma ex ie : Int32) (cB : ClassId) (u : Nat → Nat) (en : Nat) (hw : ∀ k, w = some k → k < 2 ^ 31) (hp : pp < 2 ^ 31) (he : en < 2 ^ 31) : Met l y_Reader_more w_Reader_more ({ frames := 0, cells := 0, slots := 0, locals := 0 }) (pu_P [.ref h, .int (nI en)] (dC, dI) [(h, .inr (4, [.ref res, .ref t, .ref no, .int (nI pp), .int (nI s0), .int (wI w), .int pa, .int ma, .int ex, .ref ki]))] []) (vp_Si (fun r => bz r (w = none ∧ pp < en))) 0 0 (fun _ => False) := by
  refine Met.ofW (cc := b_Reader_more) (maxL := 2) (ret := (some FieldType.boolean)) (by decide) rfl ?_
  intro p e s m args below meth c s₁ B hml hv
  obtain ⟨rfl, hP, hK, hN⟩ := hv
  have hx := B.exec
  have hb := B.bytes
  have hr := B.returns
  have hts := atoms_spec (ws := w_Reader_more) B.pre
  have tbin : ∀ w ∈ tb, w ∈ w_Reader_more := fun w h => List.mem_cons_of_mem _ h
  have htb : ∀ w ∈ tb, w.before _ s = true := fun w h => hts w (tbin w h)
  have hown : s.vm.findClass "TrustChain$Reader" = some m.cls := findClass_of_methodNamed B.named
  have hlocks := B.notSynchronized
  have hcs : 0 ≤ (headSpec w_Reader_more ({ frames := 0, cells := 0, slots := 0, locals := 0 })).room.cells ∧ 0 ≤ (headSpec w_Reader_more ({ frames := 0, cells := 0, slots := 0, locals := 0 })).room.slots := ⟨Nat.zero_le _, Nat.zero_le _⟩
  have hP : va_P (dC, dI) classes [(h, .inr (4, [.ref res, .ref t, .ref no, .int (nI pp), .int (nI s0), .int (wI w), .int pa, .int ma, .int ex, .ref ki]))] s.heap := hP
  have hl := lv_entry ([.ref h, .int (nI en)]) (n := 2) (Nat.le_of_ble_eq_true rfl)
  rw [lg_entry_eq]
  generalize (lg_sl ([.ref h, .int (nI en)]) ++ List.replicate (2 - (lg_sl ([.ref h, .int (nI en)])).length) Slot.unset).toArray = ls at hl ⊢
  have hl : lv_has ls 2 [(0, .ref h), (1, .int (nI en))] := hl
  refine w_join (J := fun v => bz v (w = none ∧ pp < en)) (pc := 20) (ls := ls) (rest := []) (fun v hv => ?_) (fun k20 => ?_)
  · skip
    exact W.zret (v := v) hx hb hr (bz_n hv) (fun t ht hW => ⟨_, rfl, hv, ht⟩) (fun q h => by cases h) d_Reader_more_20
  · skip
    refine lv_aload_n hx hb d_Reader_more_0 rfl (lv_at hl 0 rfl) ?_
    refine va_get (v := .int (wI w)) hx hb htb i_CertificateReader hown hK hP 0 rfl rfl 5 (by decide) (htb _ q3_74) (fun _ h9 => h9) rfl d_Reader_more_1 ?_
    refine lv_if_ge (tgt := 19) hx hb d_Reader_more_4 (by decide) (fun c4 => ?_) (fun c4 => ?_)
    · refine lv_iconst (v := 0) hx hb d_Reader_more_19 (by decide) ?_
      exact k20 _ (bz_f (fun q => wI_s c4 q.1))
    · refine lv_aload_n hx hb d_Reader_more_7 rfl (lv_at hl 0 rfl) ?_
      refine va_get (v := .int (nI pp)) hx hb htb i_CertificateReader hown hK hP 0 rfl rfl 3 (by decide) (htb _ q3_68) (fun _ h9 => h9) rfl d_Reader_more_8 ?_
      refine lv_iload_n hx hb d_Reader_more_11 rfl (lv_at hl 1 rfl) ?_
      refine lv_icmp_ge (tgt := 19) hx hb d_Reader_more_12 (by decide) (fun c12 => ?_) (fun c12 => ?_)
      · refine lv_iconst (v := 0) hx hb d_Reader_more_19 (by decide) ?_
        exact k20 _ (bz_f (fun q => absurd q.2 (by rw [nI_leI (by omega) (by omega)] at c12; omega)))
      · refine lv_iconst (v := 1) hx hb d_Reader_more_15 (by decide) ?_
        refine lv_goto (tgt := 20) hx hb d_Reader_more_16 (by decide) ?_
        exact k20 _ (bz_t ⟨wI_n hw c4, (nI_ltI (by omega) (by omega)).mp (Int32.not_le.mp c12)⟩)
set_option maxHeartbeats 4000000 in
set_option maxRecDepth 100000 in
theorem cC_nextIs (l : Launch) (dC : Nat → ClassId) (dI : Nat → Nat → Nat) (h res t no ki : Nat) (pp s0 n : Nat) (w : Option Nat) (pa ma ex ie : Int32) (cB : ClassId) (u : Nat → Nat) (tg en : Nat) (hu : ∀ j, u j < 256) (hn : n < 2 ^ 30) (hw : ∀ k, w = some k → k < 2 ^ 31) (he : en ≤ n) (hp : pp ≤ n) (hg : tg < 256) : Met l y_Reader_nextIs w_Reader_nextIs ({ frames := 1, cells := 0, slots := 0, locals := 21 }) (pu_P [.ref h, .int (nI tg), .int (nI en)] (dC, dI) [(h, .inr (4, [.ref res, .ref t, .ref no, .int (nI pp), .int (nI s0), .int (wI w), .int pa, .int ma, .int ex, .ref ki])), (t, .inl (cB, n, .inl (tx u)))] [(cB, .byte)]) (vp_Si (fun r => bz r (w = none ∧ pp < en ∧ u pp = tg))) 0 0 (fun _ => False) := by
  refine Met.ofW (cc := b_Reader_nextIs) (maxL := 3) (ret := (some FieldType.boolean)) (by decide) rfl ?_
  intro p e s m args below meth c s₁ B hml hv
  obtain ⟨rfl, hP, hK, hN⟩ := hv
  have hx := B.exec
  have hb := B.bytes
  have hr := B.returns
  have hts := atoms_spec (ws := w_Reader_nextIs) B.pre
  have tbin : ∀ w ∈ tb, w ∈ w_Reader_nextIs := fun w h => List.mem_cons_of_mem _ h
  have htb : ∀ w ∈ tb, w.before _ s = true := fun w h => hts w (tbin w h)
  have hown : s.vm.findClass "TrustChain$Reader" = some m.cls := findClass_of_methodNamed B.named
  have hlocks := B.notSynchronized
  have hcs : 0 ≤ (headSpec w_Reader_nextIs ({ frames := 1, cells := 0, slots := 0, locals := 21 })).room.cells ∧ 0 ≤ (headSpec w_Reader_nextIs ({ frames := 1, cells := 0, slots := 0, locals := 21 })).room.slots := ⟨Nat.zero_le _, Nat.zero_le _⟩
  have hP : va_P (dC, dI) classes [(h, .inr (4, [.ref res, .ref t, .ref no, .int (nI pp), .int (nI s0), .int (wI w), .int pa, .int ma, .int ex, .ref ki])), (t, .inl (cB, n, .inl (tx u)))] s.heap := hP
  have hl := lv_entry ([.ref h, .int (nI tg), .int (nI en)]) (n := 3) (Nat.le_of_ble_eq_true rfl)
  rw [lg_entry_eq]
  generalize (lg_sl ([.ref h, .int (nI tg), .int (nI en)]) ++ List.replicate (3 - (lg_sl ([.ref h, .int (nI tg), .int (nI en)])).length) Slot.unset).toArray = ls at hl ⊢
  have hl : lv_has ls 3 [(0, .ref h), (1, .int (nI tg)), (2, .int (nI en))] := hl
  refine w_join (J := fun v => bz v (w = none ∧ pp < en ∧ u pp = tg)) (pc := 25) (ls := ls) (rest := []) (fun v hv => ?_) (fun k25 => ?_)
  · skip
    exact W.zret (v := v) hx hb hr (bz_n hv) (fun t ht hW => ⟨_, rfl, hv, ht⟩) (fun q h => by cases h) d_Reader_nextIs_25
  · skip
    refine lv_aload_n hx hb d_Reader_nextIs_0 rfl (lv_at hl 0 rfl) ?_
    refine lv_iload_n hx hb d_Reader_nextIs_1 rfl (lv_at hl 2 rfl) ?_
    refine vp_callSi (pu_callU (As := [.int (nI en)]) (rest := []) ⟨hx, hb, hml, hown, hts⟩ (cC_more l dC dI h res t no ki pp s0 n w pa ma ex ie cB u en hw (by omega) (by omega)) (cu_of (n := 1) hts tbin q3_202 q3_204 q3_203 q3_205 q1_15 q3_207 rfl (by decide +kernel) ⟨rfl, rfl⟩ ⟨Nat.le_of_ble_eq_true rfl, Nat.le_of_ble_eq_true rfl⟩) rfl hcs hN hK hP [0] rfl [] rfl 0 4 rfl rfl rfl hl.1 rfl (Nat.le_of_ble_eq_true rfl) d_Reader_nextIs_2) (fun r2 hr2 => ?_)
    refine lv_if_eq (tgt := 24) hx hb d_Reader_nextIs_5 (by decide) (fun c5 => ?_) (fun c5 => ?_)
    · refine lv_iconst (v := 0) hx hb d_Reader_nextIs_24 (by decide) ?_
      exact k25 _ (bz_f (fun q => bz_0 hr2 c5 ⟨q.1, q.2.1⟩))
    · refine lv_aload_n hx hb d_Reader_nextIs_8 rfl (lv_at hl 0 rfl) ?_
      refine lv_aload_n hx hb d_Reader_nextIs_9 rfl (lv_at hl 0 rfl) ?_
      refine va_get (v := .int (nI pp)) hx hb htb i_CertificateReader hown hK hP 0 rfl rfl 3 (by decide) (htb _ q3_68) (fun _ h9 => h9) rfl d_Reader_nextIs_10 ?_
      refine vp_callSi (pu_callU (As := [.int (nI pp)]) (rest := []) ⟨hx, hb, hml, hown, hts⟩ (cC_octet l dC dI h res t no ki pp s0 n w pa ma ex ie cB u (nI pp) hu hn) (cu_of (n := 1) hts tbin q3_122 q3_124 q3_123 q3_125 q1_15 q3_127 rfl (by decide +kernel) ⟨rfl, rfl⟩ ⟨Nat.le_of_ble_eq_true rfl, Nat.le_of_ble_eq_true rfl⟩) rfl hcs hN hK hP [0, 1] rfl [0] rfl 0 4 rfl rfl rfl hl.1 rfl (Nat.le_of_ble_eq_true rfl) d_Reader_nextIs_13) (fun r13 hr13 => ?_)
      refine lv_iload_n hx hb d_Reader_nextIs_16 rfl (lv_at hl 1 rfl) ?_
      refine lv_icmp_ne (tgt := 24) hx hb d_Reader_nextIs_17 (by decide) (fun c17 => ?_) (fun c17 => ?_)
      · refine lv_iconst (v := 0) hx hb d_Reader_nextIs_24 (by decide) ?_
        exact k25 _ (bz_f (fun q => c17 (by rw [hr13, sl_oct (by omega) (by have := q.2.1; omega), Nat.zero_add, q.2.2])))
      · refine lv_iconst (v := 1) hx hb d_Reader_nextIs_20 (by decide) ?_
        refine lv_goto (tgt := 25) hx hb d_Reader_nextIs_21 (by decide) ?_
        exact k25 _ (bz_t ⟨(bz_1 hr2 c5).1, (bz_1 hr2 c5).2, (by rw [hr13, sl_oct (by omega) (by have := (bz_1 hr2 c5).2; omega), nI_eq (by have := hu (0 + pp); omega) (by omega)] at c17; rw [Nat.zero_add] at c17; exact c17)⟩)
set_option maxHeartbeats 4000000 in
set_option maxRecDepth 100000 in
theorem cC_refuse (l : Launch) (dC : Nat → ClassId) (dI : Nat → Nat → Nat) (h res t no ki : Nat) (pp s0 n : Nat) (w : Option Nat) (pa ma ex ie : Int32) (cB : ClassId) (u : Nat → Nat) (k0 : Nat) (sz : Nat) (hw : ∀ k, w = some k → k < 2 ^ 31) : Met l y_Reader_refuse w_Reader_refuse ({ frames := 0, cells := 0, slots := 0, locals := 0 }) (mu_P [.ref h, .int (nI k0)] (dC, dI) [(h, .inr (4, [.ref res, .ref t, .ref no, .int (nI pp), .int (nI s0), .int (wI w), .int pa, .int ma, .int ex, .ref ki]))] [] sz) (va_Qv (fun (u : rS) => u = rd_ref (pp, s0, w) k0) (mu_B (dC, dI) [] (va_A [(h, .inr (4, [.ref res, .ref t, .ref no, .int (nI pp), .int (nI s0), .int (wI w), .int pa, .int ma, .int ex, .ref ki]))] sz) (fun u' : rS => [(h, .inr (4, [.ref res, .ref t, .ref no, .int (nI u'.1), .int (nI u'.2.1), .int (wI u'.2.2), .int pa, .int ma, .int ex, .ref ki]))])) (va_A [(h, .inr (4, [.ref res, .ref t, .ref no, .int (nI pp), .int (nI s0), .int (wI w), .int pa, .int ma, .int ex, .ref ki]))] sz)) 0 0 (va_A [(h, .inr (4, [.ref res, .ref t, .ref no, .int (nI pp), .int (nI s0), .int (wI w), .int pa, .int ma, .int ex, .ref ki]))] sz) := by
  refine Met.ofW (cc := b_Reader_refuse) (maxL := 2) (ret := none) (by decide) rfl ?_
  intro p e s m args below meth c s₁ B hml hv
  obtain ⟨rfl, hsz, hP, hK, hD0, hN⟩ := hv
  have hx := B.exec
  have hb := B.bytes
  have hr := B.returns
  have hts := atoms_spec (ws := w_Reader_refuse) B.pre
  have tbin : ∀ w ∈ tb, w ∈ w_Reader_refuse := fun w h => List.mem_cons_of_mem _ h
  have htb : ∀ w ∈ tb, w.before _ s = true := fun w h => hts w (tbin w h)
  have hown : s.vm.findClass "TrustChain$Reader" = some m.cls := findClass_of_methodNamed B.named
  have hlocks := B.notSynchronized
  subst hsz
  have hD := hD0.self (sz := s.heap.size)
  generalize hAe : va_A [(h, .inr (4, [.ref res, .ref t, .ref no, .int (nI pp), .int (nI s0), .int (wI w), .int pa, .int ma, .int ex, .ref ki]))] s.heap.size = A at hD ⊢
  have hA : ∀ q : Nat, s.heap.size ≤ q → A q := fun q h => by rw [← hAe]; exact Or.inr h
  have hS : va_S A s.heap s.heap [] := va_S.rf
  have hcs : 0 ≤ (headSpec w_Reader_refuse ({ frames := 0, cells := 0, slots := 0, locals := 0 })).room.cells ∧ 0 ≤ (headSpec w_Reader_refuse ({ frames := 0, cells := 0, slots := 0, locals := 0 })).room.slots := ⟨Nat.le_refl _, Nat.le_refl _⟩
  have hP : va_P (dC, dI) classes [(h, .inr (4, [.ref res, .ref t, .ref no, .int (nI pp), .int (nI s0), .int (wI w), .int pa, .int ma, .int ex, .ref ki]))] s.heap := hP
  have hl := lv_entry ([.ref h, .int (nI k0)]) (n := 2) (Nat.le_of_ble_eq_true rfl)
  rw [lg_entry_eq]
  generalize (lg_sl ([.ref h, .int (nI k0)]) ++ List.replicate (2 - (lg_sl ([.ref h, .int (nI k0)])).length) Slot.unset).toArray = ls at hl ⊢
  have hl : lv_has ls 2 [(0, .ref h), (1, .int (nI k0))] := hl
  refine lv_aload_n hx hb d_Reader_refuse_0 rfl (lv_at hl 0 rfl) ?_
  refine va_get (v := .int (wI w)) hx hb htb i_CertificateReader hown hK hP 0 rfl rfl 5 (by decide) (htb _ q3_74) (fun _ h9 => h9) rfl d_Reader_refuse_1 ?_
  refine lv_if_ge (tgt := 12) hx hb d_Reader_refuse_4 (by decide) (fun c4 => ?_) (fun c4 => ?_)
  · exact W.vret hx hb hr (fun t ht hW => ⟨⟨(pp, s0, w), rfl, rd_ref_1 (wI_s c4), by rw [ht]; exact hP, va_K.moved hW.alike hK, hD⟩, hS.F ht⟩) hS.2.2 d_Reader_refuse_12
  · refine lv_aload_n hx hb d_Reader_refuse_7 rfl (lv_at hl 0 rfl) ?_
    refine lv_iload_n hx hb d_Reader_refuse_8 rfl (lv_at hl 1 rfl) ?_
    refine va_put (v := .int (nI k0)) (ty := .int) hx hb htb i_CertificateReader t_CertificateReader t_CertificateReader_ok n_CertificateReader hown hK hP hD hS 0 rfl rfl 5 (by decide) (htb _ q3_74) (fun _ h9 => h9) rfl (by decide +kernel) rfl rfl (Nat.le_of_ble_eq_true rfl) d_Reader_refuse_9 (fun H9 locs hP hD hS => ?_)
    have hP : va_P (dC, dI) classes [(h, .inr (4, [.ref res, .ref t, .ref no, .int (nI pp), .int (nI s0), .int (nI k0), .int pa, .int ma, .int ex, .ref ki]))] H9 := hP
    have hD : va_D A [(h, .inr (4, [.ref res, .ref t, .ref no, .int (nI pp), .int (nI s0), .int (nI k0), .int pa, .int ma, .int ex, .ref ki]))] := hD
    exact W.vret hx hb hr (fun t ht hW => ⟨⟨(pp, s0, some k0), rfl, rd_ref_2 (wI_n hw c4), by rw [ht]; exact hP, va_K.moved hW.alike hK, hD⟩, hS.F ht⟩) hS.2.2 d_Reader_refuse_12
set_option maxHeartbeats 4000000 in
set_option maxRecDepth 100000 in
theorem cC_require (l : Launch) (dC : Nat → ClassId) (dI : Nat → Nat → Nat) (h res t no ki : Nat) (pp s0 n : Nat) (w : Option Nat) (pa ma ex ie : Int32) (cB : ClassId) (u : Nat → Nat) (bv : Int32) (sz : Nat) (hw : ∀ k, w = some k → k < 2 ^ 31) : Met l y_Reader_require w_Reader_require ({ frames := 0, cells := 0, slots := 0, locals := 0 }) (mu_P [.ref h, .int bv] (dC, dI) [(h, .inr (4, [.ref res, .ref t, .ref no, .int (nI pp), .int (nI s0), .int (wI w), .int pa, .int ma, .int ex, .ref ki]))] [] sz) (va_Qv (fun (u : rS) => u = rd_req (pp, s0, w) bv) (mu_B (dC, dI) [] (va_A [(h, .inr (4, [.ref res, .ref t, .ref no, .int (nI pp), .int (nI s0), .int (wI w), .int pa, .int ma, .int ex, .ref ki]))] sz) (fun u' : rS => [(h, .inr (4, [.ref res, .ref t, .ref no, .int (nI u'.1), .int (nI u'.2.1), .int (wI u'.2.2), .int pa, .int ma, .int ex, .ref ki]))])) (va_A [(h, .inr (4, [.ref res, .ref t, .ref no, .int (nI pp), .int (nI s0), .int (wI w), .int pa, .int ma, .int ex, .ref ki]))] sz)) 0 0 (va_A [(h, .inr (4, [.ref res, .ref t, .ref no, .int (nI pp), .int (nI s0), .int (wI w), .int pa, .int ma, .int ex, .ref ki]))] sz) := by
  refine Met.ofW (cc := b_Reader_require) (maxL := 2) (ret := none) (by decide) rfl ?_
  intro p e s m args below meth c s₁ B hml hv
  obtain ⟨rfl, hsz, hP, hK, hD0, hN⟩ := hv
  have hx := B.exec
  have hb := B.bytes
  have hr := B.returns
  have hts := atoms_spec (ws := w_Reader_require) B.pre
  have tbin : ∀ w ∈ tb, w ∈ w_Reader_require := fun w h => List.mem_cons_of_mem _ h
  have htb : ∀ w ∈ tb, w.before _ s = true := fun w h => hts w (tbin w h)
  have hown : s.vm.findClass "TrustChain$Reader" = some m.cls := findClass_of_methodNamed B.named
  have hlocks := B.notSynchronized
  subst hsz
  have hD := hD0.self (sz := s.heap.size)
  generalize hAe : va_A [(h, .inr (4, [.ref res, .ref t, .ref no, .int (nI pp), .int (nI s0), .int (wI w), .int pa, .int ma, .int ex, .ref ki]))] s.heap.size = A at hD ⊢
  have hA : ∀ q : Nat, s.heap.size ≤ q → A q := fun q h => by rw [← hAe]; exact Or.inr h
  have hS : va_S A s.heap s.heap [] := va_S.rf
  have hcs : 0 ≤ (headSpec w_Reader_require ({ frames := 0, cells := 0, slots := 0, locals := 0 })).room.cells ∧ 0 ≤ (headSpec w_Reader_require ({ frames := 0, cells := 0, slots := 0, locals := 0 })).room.slots := ⟨Nat.le_refl _, Nat.le_refl _⟩
  have hP : va_P (dC, dI) classes [(h, .inr (4, [.ref res, .ref t, .ref no, .int (nI pp), .int (nI s0), .int (wI w), .int pa, .int ma, .int ex, .ref ki]))] s.heap := hP
  have hl := lv_entry ([.ref h, .int bv]) (n := 2) (Nat.le_of_ble_eq_true rfl)
  rw [lg_entry_eq]
  generalize (lg_sl ([.ref h, .int bv]) ++ List.replicate (2 - (lg_sl ([.ref h, .int bv])).length) Slot.unset).toArray = ls at hl ⊢
  have hl : lv_has ls 2 [(0, .ref h), (1, .int bv)] := hl
  refine lv_iload_n hx hb d_Reader_require_0 rfl (lv_at hl 1 rfl) ?_
  refine lv_if_ne (tgt := 19) hx hb d_Reader_require_1 (by decide) (fun c1 => ?_) (fun c1 => ?_)
  · exact W.vret hx hb hr (fun t ht hW => ⟨⟨(pp, s0, w), rfl, rd_req_1 c1, by rw [ht]; exact hP, va_K.moved hW.alike hK, hD⟩, hS.F ht⟩) hS.2.2 d_Reader_require_19
  · refine lv_aload_n hx hb d_Reader_require_4 rfl (lv_at hl 0 rfl) ?_
    refine va_get (v := .int (wI w)) hx hb htb i_CertificateReader hown hK hP 0 rfl rfl 5 (by decide) (htb _ q3_74) (fun _ h9 => h9) rfl d_Reader_require_5 ?_
    refine lv_if_ge (tgt := 19) hx hb d_Reader_require_8 (by decide) (fun c8 => ?_) (fun c8 => ?_)
    · exact W.vret hx hb hr (fun t ht hW => ⟨⟨(pp, s0, w), rfl, rd_req_2 (wI_s c8), by rw [ht]; exact hP, va_K.moved hW.alike hK, hD⟩, hS.F ht⟩) hS.2.2 d_Reader_require_19
    · refine lv_aload_n hx hb d_Reader_require_11 rfl (lv_at hl 0 rfl) ?_
      refine lv_aload_n hx hb d_Reader_require_12 rfl (lv_at hl 0 rfl) ?_
      refine va_get (v := .int (nI s0)) hx hb htb i_CertificateReader hown hK hP 0 rfl rfl 4 (by decide) (htb _ q3_73) (fun _ h9 => h9) rfl d_Reader_require_13 ?_
      refine va_put (v := .int (nI s0)) (ty := .int) hx hb htb i_CertificateReader t_CertificateReader t_CertificateReader_ok n_CertificateReader hown hK hP hD hS 0 rfl rfl 5 (by decide) (htb _ q3_74) (fun _ h9 => h9) rfl (by decide +kernel) rfl rfl (Nat.le_of_ble_eq_true rfl) d_Reader_require_16 (fun H16 locs hP hD hS => ?_)
      have hP : va_P (dC, dI) classes [(h, .inr (4, [.ref res, .ref t, .ref no, .int (nI pp), .int (nI s0), .int (nI s0), .int pa, .int ma, .int ex, .ref ki]))] H16 := hP
      have hD : va_D A [(h, .inr (4, [.ref res, .ref t, .ref no, .int (nI pp), .int (nI s0), .int (nI s0), .int pa, .int ma, .int ex, .ref ki]))] := hD
      exact W.vret hx hb hr (fun t ht hW => ⟨⟨(pp, s0, some s0), rfl, rd_req_3 (wI_n hw c8) (by simpa using c1), by rw [ht]; exact hP, va_K.moved hW.alike hK, hD⟩, hS.F ht⟩) hS.2.2 d_Reader_require_19
set_option maxHeartbeats 4000000 in
set_option maxRecDepth 100000 in
theorem cC_finish (l : Launch) (dC : Nat → ClassId) (dI : Nat → Nat → Nat) (h res t no ki : Nat) (pp s0 n : Nat) (w : Option Nat) (pa ma ex ie : Int32) (cB : ClassId) (u : Nat → Nat) (en : Nat) (sz : Nat) (hw : ∀ k, w = some k → k < 2 ^ 31) (hp : pp < 2 ^ 31) (he : en < 2 ^ 31) : Met l y_Reader_finish w_Reader_finish ({ frames := 0, cells := 0, slots := 0, locals := 0 }) (mu_P [.ref h, .int (nI en)] (dC, dI) [(h, .inr (4, [.ref res, .ref t, .ref no, .int (nI pp), .int (nI s0), .int (wI w), .int pa, .int ma, .int ex, .ref ki]))] [] sz) (va_Qv (fun (u : rS) => u = rd_fin (pp, s0, w) en) (mu_B (dC, dI) [] (va_A [(h, .inr (4, [.ref res, .ref t, .ref no, .int (nI pp), .int (nI s0), .int (wI w), .int pa, .int ma, .int ex, .ref ki]))] sz) (fun u' : rS => [(h, .inr (4, [.ref res, .ref t, .ref no, .int (nI u'.1), .int (nI u'.2.1), .int (wI u'.2.2), .int pa, .int ma, .int ex, .ref ki]))])) (va_A [(h, .inr (4, [.ref res, .ref t, .ref no, .int (nI pp), .int (nI s0), .int (wI w), .int pa, .int ma, .int ex, .ref ki]))] sz)) 0 0 (va_A [(h, .inr (4, [.ref res, .ref t, .ref no, .int (nI pp), .int (nI s0), .int (wI w), .int pa, .int ma, .int ex, .ref ki]))] sz) := by
  refine Met.ofW (cc := b_Reader_finish) (maxL := 2) (ret := none) (by decide) rfl ?_
  intro p e s m args below meth c s₁ B hml hv
  obtain ⟨rfl, hsz, hP, hK, hD0, hN⟩ := hv
  have hx := B.exec
  have hb := B.bytes
  have hr := B.returns
  have hts := atoms_spec (ws := w_Reader_finish) B.pre
  have tbin : ∀ w ∈ tb, w ∈ w_Reader_finish := fun w h => List.mem_cons_of_mem _ h
  have htb : ∀ w ∈ tb, w.before _ s = true := fun w h => hts w (tbin w h)
  have hown : s.vm.findClass "TrustChain$Reader" = some m.cls := findClass_of_methodNamed B.named
  have hlocks := B.notSynchronized
  subst hsz
  have hD := hD0.self (sz := s.heap.size)
  generalize hAe : va_A [(h, .inr (4, [.ref res, .ref t, .ref no, .int (nI pp), .int (nI s0), .int (wI w), .int pa, .int ma, .int ex, .ref ki]))] s.heap.size = A at hD ⊢
  have hA : ∀ q : Nat, s.heap.size ≤ q → A q := fun q h => by rw [← hAe]; exact Or.inr h
  have hS : va_S A s.heap s.heap [] := va_S.rf
  have hcs : 0 ≤ (headSpec w_Reader_finish ({ frames := 0, cells := 0, slots := 0, locals := 0 })).room.cells ∧ 0 ≤ (headSpec w_Reader_finish ({ frames := 0, cells := 0, slots := 0, locals := 0 })).room.slots := ⟨Nat.le_refl _, Nat.le_refl _⟩
  have hP : va_P (dC, dI) classes [(h, .inr (4, [.ref res, .ref t, .ref no, .int (nI pp), .int (nI s0), .int (wI w), .int pa, .int ma, .int ex, .ref ki]))] s.heap := hP
  have hl := lv_entry ([.ref h, .int (nI en)]) (n := 2) (Nat.le_of_ble_eq_true rfl)
  rw [lg_entry_eq]
  generalize (lg_sl ([.ref h, .int (nI en)]) ++ List.replicate (2 - (lg_sl ([.ref h, .int (nI en)])).length) Slot.unset).toArray = ls at hl ⊢
  have hl : lv_has ls 2 [(0, .ref h), (1, .int (nI en))] := hl
  refine lv_aload_n hx hb d_Reader_finish_0 rfl (lv_at hl 0 rfl) ?_
  refine va_get (v := .int (wI w)) hx hb htb i_CertificateReader hown hK hP 0 rfl rfl 5 (by decide) (htb _ q3_74) (fun _ h9 => h9) rfl d_Reader_finish_1 ?_
  refine lv_if_ge (tgt := 23) hx hb d_Reader_finish_4 (by decide) (fun c4 => ?_) (fun c4 => ?_)
  · exact W.vret hx hb hr (fun t ht hW => ⟨⟨(pp, s0, w), rfl, rd_fin_1 (wI_s c4), by rw [ht]; exact hP, va_K.moved hW.alike hK, hD⟩, hS.F ht⟩) hS.2.2 d_Reader_finish_23
  · refine lv_aload_n hx hb d_Reader_finish_7 rfl (lv_at hl 0 rfl) ?_
    refine va_get (v := .int (nI pp)) hx hb htb i_CertificateReader hown hK hP 0 rfl rfl 3 (by decide) (htb _ q3_68) (fun _ h9 => h9) rfl d_Reader_finish_8 ?_
    refine lv_iload_n hx hb d_Reader_finish_11 rfl (lv_at hl 1 rfl) ?_
    refine lv_icmp_ge (tgt := 23) hx hb d_Reader_finish_12 (by decide) (fun c12 => ?_) (fun c12 => ?_)
    · exact W.vret hx hb hr (fun t ht hW => ⟨⟨(pp, s0, w), rfl, rd_fin_2 (by rw [nI_leI (by omega) (by omega)] at c12; omega), by rw [ht]; exact hP, va_K.moved hW.alike hK, hD⟩, hS.F ht⟩) hS.2.2 d_Reader_finish_23
    · refine lv_aload_n hx hb d_Reader_finish_15 rfl (lv_at hl 0 rfl) ?_
      refine lv_aload_n hx hb d_Reader_finish_16 rfl (lv_at hl 0 rfl) ?_
      refine va_get (v := .int (nI pp)) hx hb htb i_CertificateReader hown hK hP 0 rfl rfl 3 (by decide) (htb _ q3_68) (fun _ h9 => h9) rfl d_Reader_finish_17 ?_
      refine va_put (v := .int (nI pp)) (ty := .int) hx hb htb i_CertificateReader t_CertificateReader t_CertificateReader_ok n_CertificateReader hown hK hP hD hS 0 rfl rfl 5 (by decide) (htb _ q3_74) (fun _ h9 => h9) rfl (by decide +kernel) rfl rfl (Nat.le_of_ble_eq_true rfl) d_Reader_finish_20 (fun H20 locs hP hD hS => ?_)
      have hP : va_P (dC, dI) classes [(h, .inr (4, [.ref res, .ref t, .ref no, .int (nI pp), .int (nI s0), .int (nI pp), .int pa, .int ma, .int ex, .ref ki]))] H20 := hP
      have hD : va_D A [(h, .inr (4, [.ref res, .ref t, .ref no, .int (nI pp), .int (nI s0), .int (nI pp), .int pa, .int ma, .int ex, .ref ki]))] := hD
      exact W.vret hx hb hr (fun t ht hW => ⟨⟨(pp, s0, some pp), rfl, rd_fin_3 (wI_n hw c4) (by rw [nI_leI (by omega) (by omega)] at c12; omega), by rw [ht]; exact hP, va_K.moved hW.alike hK, hD⟩, hS.F ht⟩) hS.2.2 d_Reader_finish_23
set_option maxHeartbeats 4000000 in
set_option maxRecDepth 100000 in
theorem cC_leave (l : Launch) (dC : Nat → ClassId) (dI : Nat → Nat → Nat) (h res t no ki : Nat) (pp s0 n : Nat) (w : Option Nat) (pa ma ex ie : Int32) (cB : ClassId) (u : Nat → Nat) (en : Nat) (bv : Int32) (sz : Nat) (hw : ∀ k, w = some k → k < 2 ^ 31) : Met l y_Reader_leave w_Reader_leave ({ frames := 0, cells := 0, slots := 0, locals := 0 }) (mu_P [.ref h, .int (nI en), .int bv] (dC, dI) [(h, .inr (4, [.ref res, .ref t, .ref no, .int (nI pp), .int (nI s0), .int (wI w), .int pa, .int ma, .int ex, .ref ki]))] [] sz) (va_Qv (fun (u : rS) => u = rd_lea (pp, s0, w) en bv) (mu_B (dC, dI) [] (va_A [(h, .inr (4, [.ref res, .ref t, .ref no, .int (nI pp), .int (nI s0), .int (wI w), .int pa, .int ma, .int ex, .ref ki]))] sz) (fun u' : rS => [(h, .inr (4, [.ref res, .ref t, .ref no, .int (nI u'.1), .int (nI u'.2.1), .int (wI u'.2.2), .int pa, .int ma, .int ex, .ref ki]))])) (va_A [(h, .inr (4, [.ref res, .ref t, .ref no, .int (nI pp), .int (nI s0), .int (wI w), .int pa, .int ma, .int ex, .ref ki]))] sz)) 0 0 (va_A [(h, .inr (4, [.ref res, .ref t, .ref no, .int (nI pp), .int (nI s0), .int (wI w), .int pa, .int ma, .int ex, .ref ki]))] sz) := by
  refine Met.ofW (cc := b_Reader_leave) (maxL := 3) (ret := none) (by decide) rfl ?_
  intro p e s m args below meth c s₁ B hml hv
  obtain ⟨rfl, hsz, hP, hK, hD0, hN⟩ := hv
  have hx := B.exec
  have hb := B.bytes
  have hr := B.returns
  have hts := atoms_spec (ws := w_Reader_leave) B.pre
  have tbin : ∀ w ∈ tb, w ∈ w_Reader_leave := fun w h => List.mem_cons_of_mem _ h
  have htb : ∀ w ∈ tb, w.before _ s = true := fun w h => hts w (tbin w h)
  have hown : s.vm.findClass "TrustChain$Reader" = some m.cls := findClass_of_methodNamed B.named
  have hlocks := B.notSynchronized
  subst hsz
  have hD := hD0.self (sz := s.heap.size)
  generalize hAe : va_A [(h, .inr (4, [.ref res, .ref t, .ref no, .int (nI pp), .int (nI s0), .int (wI w), .int pa, .int ma, .int ex, .ref ki]))] s.heap.size = A at hD ⊢
  have hA : ∀ q : Nat, s.heap.size ≤ q → A q := fun q h => by rw [← hAe]; exact Or.inr h
  have hS : va_S A s.heap s.heap [] := va_S.rf
  have hcs : 0 ≤ (headSpec w_Reader_leave ({ frames := 0, cells := 0, slots := 0, locals := 0 })).room.cells ∧ 0 ≤ (headSpec w_Reader_leave ({ frames := 0, cells := 0, slots := 0, locals := 0 })).room.slots := ⟨Nat.le_refl _, Nat.le_refl _⟩
  have hP : va_P (dC, dI) classes [(h, .inr (4, [.ref res, .ref t, .ref no, .int (nI pp), .int (nI s0), .int (wI w), .int pa, .int ma, .int ex, .ref ki]))] s.heap := hP
  have hl := lv_entry ([.ref h, .int (nI en), .int bv]) (n := 3) (Nat.le_of_ble_eq_true rfl)
  rw [lg_entry_eq]
  generalize (lg_sl ([.ref h, .int (nI en), .int bv]) ++ List.replicate (3 - (lg_sl ([.ref h, .int (nI en), .int bv])).length) Slot.unset).toArray = ls at hl ⊢
  have hl : lv_has ls 3 [(0, .ref h), (1, .int (nI en)), (2, .int bv)] := hl
  refine lv_aload_n hx hb d_Reader_leave_0 rfl (lv_at hl 0 rfl) ?_
  refine va_get (v := .int (wI w)) hx hb htb i_CertificateReader hown hK hP 0 rfl rfl 5 (by decide) (htb _ q3_74) (fun _ h9 => h9) rfl d_Reader_leave_1 ?_
  refine lv_if_lt (tgt := 8) hx hb d_Reader_leave_4 (by decide) (fun c4 => ?_) (fun c4 => ?_)
  · refine lv_iload_n hx hb d_Reader_leave_8 rfl (lv_at hl 2 rfl) ?_
    refine lv_if_eq (tgt := 20) hx hb d_Reader_leave_9 (by decide) (fun c9 => ?_) (fun c9 => ?_)
    · refine lv_aload_n hx hb d_Reader_leave_20 rfl (lv_at hl 0 rfl) ?_
      refine lv_aload_n hx hb d_Reader_leave_21 rfl (lv_at hl 0 rfl) ?_
      refine va_get (v := .int (nI s0)) hx hb htb i_CertificateReader hown hK hP 0 rfl rfl 4 (by decide) (htb _ q3_73) (fun _ h9 => h9) rfl d_Reader_leave_22 ?_
      refine va_put (v := .int (nI s0)) (ty := .int) hx hb htb i_CertificateReader t_CertificateReader t_CertificateReader_ok n_CertificateReader hown hK hP hD hS 0 rfl rfl 5 (by decide) (htb _ q3_74) (fun _ h9 => h9) rfl (by decide +kernel) rfl rfl (Nat.le_of_ble_eq_true rfl) d_Reader_leave_25 (fun H25 locs hP hD hS => ?_)
      have hP : va_P (dC, dI) classes [(h, .inr (4, [.ref res, .ref t, .ref no, .int (nI pp), .int (nI s0), .int (nI s0), .int pa, .int ma, .int ex, .ref ki]))] H25 := hP
      have hD : va_D A [(h, .inr (4, [.ref res, .ref t, .ref no, .int (nI pp), .int (nI s0), .int (nI s0), .int pa, .int ma, .int ex, .ref ki]))] := hD
      exact W.vret hx hb hr (fun t ht hW => ⟨⟨(pp, s0, some s0), rfl, rd_lea_2 (wI_n' hw c4) c9, by rw [ht]; exact hP, va_K.moved hW.alike hK, hD⟩, hS.F ht⟩) hS.2.2 d_Reader_leave_28
    · refine lv_aload_n hx hb d_Reader_leave_12 rfl (lv_at hl 0 rfl) ?_
      refine lv_iload_n hx hb d_Reader_leave_13 rfl (lv_at hl 1 rfl) ?_
      refine va_put (v := .int (nI en)) (ty := .int) hx hb htb i_CertificateReader t_CertificateReader t_CertificateReader_ok n_CertificateReader hown hK hP hD hS 0 rfl rfl 3 (by decide) (htb _ q3_68) (fun _ h9 => h9) rfl (by decide +kernel) rfl rfl (Nat.le_of_ble_eq_true rfl) d_Reader_leave_14 (fun H14 locs hP hD hS => ?_)
      have hP : va_P (dC, dI) classes [(h, .inr (4, [.ref res, .ref t, .ref no, .int (nI en), .int (nI s0), .int (wI w), .int pa, .int ma, .int ex, .ref ki]))] H14 := hP
      have hD : va_D A [(h, .inr (4, [.ref res, .ref t, .ref no, .int (nI en), .int (nI s0), .int (wI w), .int pa, .int ma, .int ex, .ref ki]))] := hD
      refine lv_goto (tgt := 28) hx hb d_Reader_leave_17 (by decide) ?_
      exact W.vret hx hb hr (fun t ht hW => ⟨⟨(en, s0, w), rfl, rd_lea_3 (wI_n' hw c4) c9, by rw [ht]; exact hP, va_K.moved hW.alike hK, hD⟩, hS.F ht⟩) hS.2.2 d_Reader_leave_28
  · exact W.vret hx hb hr (fun t ht hW => ⟨⟨(pp, s0, w), rfl, rd_lea_1 (wI_s' c4), by rw [ht]; exact hP, va_K.moved hW.alike hK, hD⟩, hS.F ht⟩) hS.2.2 d_Reader_leave_7
set_option maxHeartbeats 4000000 in
set_option maxRecDepth 100000 in
theorem cL_octet (l : Launch) (dC : Nat → ClassId) (dI : Nat → Nat → Nat) (h res t no ki : Nat) (pp s0 n : Nat) (w : Option Nat) (pa ma ex ie : Int32) (cB : ClassId) (u : Nat → Nat) (i : Int32) (hu : ∀ j, u j < 256) (hn : n < 2 ^ 30) : Met l y_Reader_octet w_Reader_octet ({ frames := 0, cells := 0, slots := 0, locals := 0 }) (pu_P [.ref h, .int i] (dC, dI) [(h, .inr (5, [.ref res, .int ie, .ref t, .ref no, .int (nI pp), .int (nI s0), .int (wI w), .int pa, .int ma, .int ex, .ref ki])), (t, .inl (cB, n, .inl (tx u)))] [(cB, .byte)]) (vp_Si (fun r => r = sl_at u 0 n i)) 0 0 (fun _ => False) := by
  refine Met.ofW (cc := b_Reader_octet) (maxL := 2) (ret := (some FieldType.int)) (by decide) rfl ?_
  intro p e s m args below meth c s₁ B hml hv
  obtain ⟨rfl, hP, hK, hN⟩ := hv
  have hx := B.exec
  have hb := B.bytes
  have hr := B.returns
  have hts := atoms_spec (ws := w_Reader_octet) B.pre
  have tbin : ∀ w ∈ tb, w ∈ w_Reader_octet := fun w h => List.mem_cons_of_mem _ h
  have htb : ∀ w ∈ tb, w.before _ s = true := fun w h => hts w (tbin w h)
  have hown : s.vm.findClass "TrustChain$Reader" = some m.cls := findClass_of_methodNamed B.named
  have hlocks := B.notSynchronized
  have hcs : 0 ≤ (headSpec w_Reader_octet ({ frames := 0, cells := 0, slots := 0, locals := 0 })).room.cells ∧ 0 ≤ (headSpec w_Reader_octet ({ frames := 0, cells := 0, slots := 0, locals := 0 })).room.slots := ⟨Nat.zero_le _, Nat.zero_le _⟩
  have hP : va_P (dC, dI) classes [(h, .inr (5, [.ref res, .int ie, .ref t, .ref no, .int (nI pp), .int (nI s0), .int (wI w), .int pa, .int ma, .int ex, .ref ki])), (t, .inl (cB, n, .inl (tx u)))] s.heap := hP
  have hl := lv_entry ([.ref h, .int i]) (n := 2) (Nat.le_of_ble_eq_true rfl)
  rw [lg_entry_eq]
  generalize (lg_sl ([.ref h, .int i]) ++ List.replicate (2 - (lg_sl ([.ref h, .int i])).length) Slot.unset).toArray = ls at hl ⊢
  have hl : lv_has ls 2 [(0, .ref h), (1, .int i)] := hl
  refine w_join (J := fun v => v = sl_at u 0 n i) (pc := 27) (ls := ls) (rest := []) (fun v hv => ?_) (fun k27 => ?_)
  · skip
    exact W.iret (v := v) hx hb hr (fun t ht hW => ⟨_, rfl, hv, ht⟩) (fun q h => by cases h) d_Reader_octet_27
  · skip
    refine lv_iload_n hx hb d_Reader_octet_0 rfl (lv_at hl 1 rfl) ?_
    refine lv_if_lt (tgt := 26) hx hb d_Reader_octet_1 (by decide) (fun c1 => ?_) (fun c1 => ?_)
    · refine lv_iconst (v := -1) hx hb d_Reader_octet_26 (by decide) ?_
      exact k27 _ (oc_out hn (Or.inl c1))
    · refine lv_iload_n hx hb d_Reader_octet_4 rfl (lv_at hl 1 rfl) ?_
      refine lv_aload_n hx hb d_Reader_octet_5 rfl (lv_at hl 0 rfl) ?_
      refine va_get (v := .ref t) hx hb htb i_ListReader hown hK hP 0 rfl rfl 2 (by decide) (htb _ q3_58) (fun _ h9 => h9) rfl d_Reader_octet_6 ?_
      refine va_alen (v := nI n) hx hb hK hP 1 0 rfl rfl rfl d_Reader_octet_9 ?_
      refine lv_icmp_ge (tgt := 26) hx hb d_Reader_octet_10 (by decide) (fun c10 => ?_) (fun c10 => ?_)
      · refine lv_iconst (v := -1) hx hb d_Reader_octet_26 (by decide) ?_
        exact k27 _ (oc_out hn (Or.inr c10))
      · refine lv_aload_n hx hb d_Reader_octet_13 rfl (lv_at hl 0 rfl) ?_
        refine va_get (v := .ref t) hx hb htb i_ListReader hown hK hP 0 rfl rfl 2 (by decide) (htb _ q3_58) (fun _ h9 => h9) rfl d_Reader_octet_14 ?_
        refine lv_iload_n hx hb d_Reader_octet_17 rfl (lv_at hl 1 rfl) ?_
        have h18 : vp_in i n := oc_in hn c1 c10
        refine va_bald hx hb hK hP 1 0 rfl rfl h18 d_Reader_octet_18 ?_
        refine lv_sipush (v := 255) hx hb d_Reader_octet_19 (by decide) ?_
        refine lv_iand hx hb d_Reader_octet_22 ?_
        refine lv_goto (tgt := 27) hx hb d_Reader_octet_23 (by decide) ?_
        exact k27 _ (oc_at hu hn c1 c10)
set_option maxHeartbeats 4000000 in
set_option maxRecDepth 100000 in
theorem cL_more (l : Launch) (dC : Nat → ClassId) (dI : Nat → Nat → Nat) (h res t no ki : Nat) (pp s0 n : Nat) (w : Option Nat) (pa ma ex ie : Int32) (cB : ClassId) (u : Nat → Nat) (en : Nat) (hw : ∀ k, w = some k → k < 2 ^ 31) (hp : pp < 2 ^ 31) (he : en < 2 ^ 31) : Met l y_Reader_more w_Reader_more ({ frames := 0, cells := 0, slots := 0, locals := 0 }) (pu_P [.ref h, .int (nI en)] (dC, dI) [(h, .inr (5, [.ref res, .int ie, .ref t, .ref no, .int (nI pp), .int (nI s0), .int (wI w), .int pa, .int ma, .int ex, .ref ki]))] []) (vp_Si (fun r => bz r (w = none ∧ pp < en))) 0 0 (fun _ => False) := by
  refine Met.ofW (cc := b_Reader_more) (maxL := 2) (ret := (some FieldType.boolean)) (by decide) rfl ?_
  intro p e s m args below meth c s₁ B hml hv
  obtain ⟨rfl, hP, hK, hN⟩ := hv
  have hx := B.exec
  have hb := B.bytes
  have hr := B.returns
  have hts := atoms_spec (ws := w_Reader_more) B.pre
  have tbin : ∀ w ∈ tb, w ∈ w_Reader_more := fun w h => List.mem_cons_of_mem _ h
  have htb : ∀ w ∈ tb, w.before _ s = true := fun w h => hts w (tbin w h)
  have hown : s.vm.findClass "TrustChain$Reader" = some m.cls := findClass_of_methodNamed B.named
  have hlocks := B.notSynchronized
  have hcs : 0 ≤ (headSpec w_Reader_more ({ frames := 0, cells := 0, slots := 0, locals := 0 })).room.cells ∧ 0 ≤ (headSpec w_Reader_more ({ frames := 0, cells := 0, slots := 0, locals := 0 })).room.slots := ⟨Nat.zero_le _, Nat.zero_le _⟩
  have hP : va_P (dC, dI) classes [(h, .inr (5, [.ref res, .int ie, .ref t, .ref no, .int (nI pp), .int (nI s0), .int (wI w), .int pa, .int ma, .int ex, .ref ki]))] s.heap := hP
  have hl := lv_entry ([.ref h, .int (nI en)]) (n := 2) (Nat.le_of_ble_eq_true rfl)
  rw [lg_entry_eq]
  generalize (lg_sl ([.ref h, .int (nI en)]) ++ List.replicate (2 - (lg_sl ([.ref h, .int (nI en)])).length) Slot.unset).toArray = ls at hl ⊢
  have hl : lv_has ls 2 [(0, .ref h), (1, .int (nI en))] := hl
  refine w_join (J := fun v => bz v (w = none ∧ pp < en)) (pc := 20) (ls := ls) (rest := []) (fun v hv => ?_) (fun k20 => ?_)
  · skip
    exact W.zret (v := v) hx hb hr (bz_n hv) (fun t ht hW => ⟨_, rfl, hv, ht⟩) (fun q h => by cases h) d_Reader_more_20
  · skip
    refine lv_aload_n hx hb d_Reader_more_0 rfl (lv_at hl 0 rfl) ?_
    refine va_get (v := .int (wI w)) hx hb htb i_ListReader hown hK hP 0 rfl rfl 6 (by decide) (htb _ q3_74) (fun _ h9 => h9) rfl d_Reader_more_1 ?_
    refine lv_if_ge (tgt := 19) hx hb d_Reader_more_4 (by decide) (fun c4 => ?_) (fun c4 => ?_)
    · refine lv_iconst (v := 0) hx hb d_Reader_more_19 (by decide) ?_
      exact k20 _ (bz_f (fun q => wI_s c4 q.1))
    · refine lv_aload_n hx hb d_Reader_more_7 rfl (lv_at hl 0 rfl) ?_
      refine va_get (v := .int (nI pp)) hx hb htb i_ListReader hown hK hP 0 rfl rfl 4 (by decide) (htb _ q3_68) (fun _ h9 => h9) rfl d_Reader_more_8 ?_
      refine lv_iload_n hx hb d_Reader_more_11 rfl (lv_at hl 1 rfl) ?_
      refine lv_icmp_ge (tgt := 19) hx hb d_Reader_more_12 (by decide) (fun c12 => ?_) (fun c12 => ?_)
      · refine lv_iconst (v := 0) hx hb d_Reader_more_19 (by decide) ?_
        exact k20 _ (bz_f (fun q => absurd q.2 (by rw [nI_leI (by omega) (by omega)] at c12; omega)))
      · refine lv_iconst (v := 1) hx hb d_Reader_more_15 (by decide) ?_
        refine lv_goto (tgt := 20) hx hb d_Reader_more_16 (by decide) ?_
        exact k20 _ (bz_t ⟨wI_n hw c4, (nI_ltI (by omega) (by omega)).mp (Int32.not_le.mp c12)⟩)
set_option maxHeartbeats 4000000 in
set_option maxRecDepth 100000 in
theorem cL_nextIs (l : Launch) (dC : Nat → ClassId) (dI : Nat → Nat → Nat) (h res t no ki : Nat) (pp s0 n : Nat) (w : Option Nat) (pa ma ex ie : Int32) (cB : ClassId) (u : Nat → Nat) (tg en : Nat) (hu : ∀ j, u j < 256) (hn : n < 2 ^ 30) (hw : ∀ k, w = some k → k < 2 ^ 31) (he : en ≤ n) (hp : pp ≤ n) (hg : tg < 256) : Met l y_Reader_nextIs w_Reader_nextIs ({ frames := 1, cells := 0, slots := 0, locals := 21 }) (pu_P [.ref h, .int (nI tg), .int (nI en)] (dC, dI) [(h, .inr (5, [.ref res, .int ie, .ref t, .ref no, .int (nI pp), .int (nI s0), .int (wI w), .int pa, .int ma, .int ex, .ref ki])), (t, .inl (cB, n, .inl (tx u)))] [(cB, .byte)]) (vp_Si (fun r => bz r (w = none ∧ pp < en ∧ u pp = tg))) 0 0 (fun _ => False) := by
  refine Met.ofW (cc := b_Reader_nextIs) (maxL := 3) (ret := (some FieldType.boolean)) (by decide) rfl ?_
  intro p e s m args below meth c s₁ B hml hv
  obtain ⟨rfl, hP, hK, hN⟩ := hv
  have hx := B.exec
  have hb := B.bytes
  have hr := B.returns
  have hts := atoms_spec (ws := w_Reader_nextIs) B.pre
  have tbin : ∀ w ∈ tb, w ∈ w_Reader_nextIs := fun w h => List.mem_cons_of_mem _ h
  have htb : ∀ w ∈ tb, w.before _ s = true := fun w h => hts w (tbin w h)
  have hown : s.vm.findClass "TrustChain$Reader" = some m.cls := findClass_of_methodNamed B.named
  have hlocks := B.notSynchronized
  have hcs : 0 ≤ (headSpec w_Reader_nextIs ({ frames := 1, cells := 0, slots := 0, locals := 21 })).room.cells ∧ 0 ≤ (headSpec w_Reader_nextIs ({ frames := 1, cells := 0, slots := 0, locals := 21 })).room.slots := ⟨Nat.zero_le _, Nat.zero_le _⟩
  have hP : va_P (dC, dI) classes [(h, .inr (5, [.ref res, .int ie, .ref t, .ref no, .int (nI pp), .int (nI s0), .int (wI w), .int pa, .int ma, .int ex, .ref ki])), (t, .inl (cB, n, .inl (tx u)))] s.heap := hP
  have hl := lv_entry ([.ref h, .int (nI tg), .int (nI en)]) (n := 3) (Nat.le_of_ble_eq_true rfl)
  rw [lg_entry_eq]
  generalize (lg_sl ([.ref h, .int (nI tg), .int (nI en)]) ++ List.replicate (3 - (lg_sl ([.ref h, .int (nI tg), .int (nI en)])).length) Slot.unset).toArray = ls at hl ⊢
  have hl : lv_has ls 3 [(0, .ref h), (1, .int (nI tg)), (2, .int (nI en))] := hl
  refine w_join (J := fun v => bz v (w = none ∧ pp < en ∧ u pp = tg)) (pc := 25) (ls := ls) (rest := []) (fun v hv => ?_) (fun k25 => ?_)
  · skip
    exact W.zret (v := v) hx hb hr (bz_n hv) (fun t ht hW => ⟨_, rfl, hv, ht⟩) (fun q h => by cases h) d_Reader_nextIs_25
  · skip
    refine lv_aload_n hx hb d_Reader_nextIs_0 rfl (lv_at hl 0 rfl) ?_
    refine lv_iload_n hx hb d_Reader_nextIs_1 rfl (lv_at hl 2 rfl) ?_
    refine vp_callSi (pu_callU (As := [.int (nI en)]) (rest := []) ⟨hx, hb, hml, hown, hts⟩ (cL_more l dC dI h res t no ki pp s0 n w pa ma ex ie cB u en hw (by omega) (by omega)) (cu_of (n := 1) hts tbin q3_202 q3_204 q3_203 q3_206 q1_15 q3_207 rfl (by decide +kernel) ⟨rfl, rfl⟩ ⟨Nat.le_of_ble_eq_true rfl, Nat.le_of_ble_eq_true rfl⟩) rfl hcs hN hK hP [0] rfl [] rfl 0 5 rfl rfl rfl hl.1 rfl (Nat.le_of_ble_eq_true rfl) d_Reader_nextIs_2) (fun r2 hr2 => ?_)
    refine lv_if_eq (tgt := 24) hx hb d_Reader_nextIs_5 (by decide) (fun c5 => ?_) (fun c5 => ?_)
    · refine lv_iconst (v := 0) hx hb d_Reader_nextIs_24 (by decide) ?_
      exact k25 _ (bz_f (fun q => bz_0 hr2 c5 ⟨q.1, q.2.1⟩))
    · refine lv_aload_n hx hb d_Reader_nextIs_8 rfl (lv_at hl 0 rfl) ?_
      refine lv_aload_n hx hb d_Reader_nextIs_9 rfl (lv_at hl 0 rfl) ?_
      refine va_get (v := .int (nI pp)) hx hb htb i_ListReader hown hK hP 0 rfl rfl 4 (by decide) (htb _ q3_68) (fun _ h9 => h9) rfl d_Reader_nextIs_10 ?_
      refine vp_callSi (pu_callU (As := [.int (nI pp)]) (rest := []) ⟨hx, hb, hml, hown, hts⟩ (cL_octet l dC dI h res t no ki pp s0 n w pa ma ex ie cB u (nI pp) hu hn) (cu_of (n := 1) hts tbin q3_122 q3_124 q3_123 q3_126 q1_15 q3_127 rfl (by decide +kernel) ⟨rfl, rfl⟩ ⟨Nat.le_of_ble_eq_true rfl, Nat.le_of_ble_eq_true rfl⟩) rfl hcs hN hK hP [0, 1] rfl [0] rfl 0 5 rfl rfl rfl hl.1 rfl (Nat.le_of_ble_eq_true rfl) d_Reader_nextIs_13) (fun r13 hr13 => ?_)
      refine lv_iload_n hx hb d_Reader_nextIs_16 rfl (lv_at hl 1 rfl) ?_
      refine lv_icmp_ne (tgt := 24) hx hb d_Reader_nextIs_17 (by decide) (fun c17 => ?_) (fun c17 => ?_)
      · refine lv_iconst (v := 0) hx hb d_Reader_nextIs_24 (by decide) ?_
        exact k25 _ (bz_f (fun q => c17 (by rw [hr13, sl_oct (by omega) (by have := q.2.1; omega), Nat.zero_add, q.2.2])))
      · refine lv_iconst (v := 1) hx hb d_Reader_nextIs_20 (by decide) ?_
        refine lv_goto (tgt := 25) hx hb d_Reader_nextIs_21 (by decide) ?_
        exact k25 _ (bz_t ⟨(bz_1 hr2 c5).1, (bz_1 hr2 c5).2, (by rw [hr13, sl_oct (by omega) (by have := (bz_1 hr2 c5).2; omega), nI_eq (by have := hu (0 + pp); omega) (by omega)] at c17; rw [Nat.zero_add] at c17; exact c17)⟩)
set_option maxHeartbeats 4000000 in
set_option maxRecDepth 100000 in
theorem cL_refuse (l : Launch) (dC : Nat → ClassId) (dI : Nat → Nat → Nat) (h res t no ki : Nat) (pp s0 n : Nat) (w : Option Nat) (pa ma ex ie : Int32) (cB : ClassId) (u : Nat → Nat) (k0 : Nat) (sz : Nat) (hw : ∀ k, w = some k → k < 2 ^ 31) : Met l y_Reader_refuse w_Reader_refuse ({ frames := 0, cells := 0, slots := 0, locals := 0 }) (mu_P [.ref h, .int (nI k0)] (dC, dI) [(h, .inr (5, [.ref res, .int ie, .ref t, .ref no, .int (nI pp), .int (nI s0), .int (wI w), .int pa, .int ma, .int ex, .ref ki]))] [] sz) (va_Qv (fun (u : rS) => u = rd_ref (pp, s0, w) k0) (mu_B (dC, dI) [] (va_A [(h, .inr (5, [.ref res, .int ie, .ref t, .ref no, .int (nI pp), .int (nI s0), .int (wI w), .int pa, .int ma, .int ex, .ref ki]))] sz) (fun u' : rS => [(h, .inr (5, [.ref res, .int ie, .ref t, .ref no, .int (nI u'.1), .int (nI u'.2.1), .int (wI u'.2.2), .int pa, .int ma, .int ex, .ref ki]))])) (va_A [(h, .inr (5, [.ref res, .int ie, .ref t, .ref no, .int (nI pp), .int (nI s0), .int (wI w), .int pa, .int ma, .int ex, .ref ki]))] sz)) 0 0 (va_A [(h, .inr (5, [.ref res, .int ie, .ref t, .ref no, .int (nI pp), .int (nI s0), .int (wI w), .int pa, .int ma, .int ex, .ref ki]))] sz) := by
  refine Met.ofW (cc := b_Reader_refuse) (maxL := 2) (ret := none) (by decide) rfl ?_
  intro p e s m args below meth c s₁ B hml hv
  obtain ⟨rfl, hsz, hP, hK, hD0, hN⟩ := hv
  have hx := B.exec
  have hb := B.bytes
  have hr := B.returns
  have hts := atoms_spec (ws := w_Reader_refuse) B.pre
  have tbin : ∀ w ∈ tb, w ∈ w_Reader_refuse := fun w h => List.mem_cons_of_mem _ h
  have htb : ∀ w ∈ tb, w.before _ s = true := fun w h => hts w (tbin w h)
  have hown : s.vm.findClass "TrustChain$Reader" = some m.cls := findClass_of_methodNamed B.named
  have hlocks := B.notSynchronized
  subst hsz
  have hD := hD0.self (sz := s.heap.size)
  generalize hAe : va_A [(h, .inr (5, [.ref res, .int ie, .ref t, .ref no, .int (nI pp), .int (nI s0), .int (wI w), .int pa, .int ma, .int ex, .ref ki]))] s.heap.size = A at hD ⊢
  have hA : ∀ q : Nat, s.heap.size ≤ q → A q := fun q h => by rw [← hAe]; exact Or.inr h
  have hS : va_S A s.heap s.heap [] := va_S.rf
  have hcs : 0 ≤ (headSpec w_Reader_refuse ({ frames := 0, cells := 0, slots := 0, locals := 0 })).room.cells ∧ 0 ≤ (headSpec w_Reader_refuse ({ frames := 0, cells := 0, slots := 0, locals := 0 })).room.slots := ⟨Nat.le_refl _, Nat.le_refl _⟩
  have hP : va_P (dC, dI) classes [(h, .inr (5, [.ref res, .int ie, .ref t, .ref no, .int (nI pp), .int (nI s0), .int (wI w), .int pa, .int ma, .int ex, .ref ki]))] s.heap := hP
  have hl := lv_entry ([.ref h, .int (nI k0)]) (n := 2) (Nat.le_of_ble_eq_true rfl)
  rw [lg_entry_eq]
  generalize (lg_sl ([.ref h, .int (nI k0)]) ++ List.replicate (2 - (lg_sl ([.ref h, .int (nI k0)])).length) Slot.unset).toArray = ls at hl ⊢
  have hl : lv_has ls 2 [(0, .ref h), (1, .int (nI k0))] := hl
  refine lv_aload_n hx hb d_Reader_refuse_0 rfl (lv_at hl 0 rfl) ?_
  refine va_get (v := .int (wI w)) hx hb htb i_ListReader hown hK hP 0 rfl rfl 6 (by decide) (htb _ q3_74) (fun _ h9 => h9) rfl d_Reader_refuse_1 ?_
  refine lv_if_ge (tgt := 12) hx hb d_Reader_refuse_4 (by decide) (fun c4 => ?_) (fun c4 => ?_)
  · exact W.vret hx hb hr (fun t ht hW => ⟨⟨(pp, s0, w), rfl, rd_ref_1 (wI_s c4), by rw [ht]; exact hP, va_K.moved hW.alike hK, hD⟩, hS.F ht⟩) hS.2.2 d_Reader_refuse_12
  · refine lv_aload_n hx hb d_Reader_refuse_7 rfl (lv_at hl 0 rfl) ?_
    refine lv_iload_n hx hb d_Reader_refuse_8 rfl (lv_at hl 1 rfl) ?_
    refine va_put (v := .int (nI k0)) (ty := .int) hx hb htb i_ListReader t_ListReader t_ListReader_ok n_ListReader hown hK hP hD hS 0 rfl rfl 6 (by decide) (htb _ q3_74) (fun _ h9 => h9) rfl (by decide +kernel) rfl rfl (Nat.le_of_ble_eq_true rfl) d_Reader_refuse_9 (fun H9 locs hP hD hS => ?_)
    have hP : va_P (dC, dI) classes [(h, .inr (5, [.ref res, .int ie, .ref t, .ref no, .int (nI pp), .int (nI s0), .int (nI k0), .int pa, .int ma, .int ex, .ref ki]))] H9 := hP
    have hD : va_D A [(h, .inr (5, [.ref res, .int ie, .ref t, .ref no, .int (nI pp), .int (nI s0), .int (nI k0), .int pa, .int ma, .int ex, .ref ki]))] := hD
    exact W.vret hx hb hr (fun t ht hW => ⟨⟨(pp, s0, some k0), rfl, rd_ref_2 (wI_n hw c4), by rw [ht]; exact hP, va_K.moved hW.alike hK, hD⟩, hS.F ht⟩) hS.2.2 d_Reader_refuse_12
set_option maxHeartbeats 4000000 in
set_option maxRecDepth 100000 in
theorem cL_require (l : Launch) (dC : Nat → ClassId) (dI : Nat → Nat → Nat) (h res t no ki : Nat) (pp s0 n : Nat) (w : Option Nat) (pa ma ex ie : Int32) (cB : ClassId) (u : Nat → Nat) (bv : Int32) (sz : Nat) (hw : ∀ k, w = some k → k < 2 ^ 31) : Met l y_Reader_require w_Reader_require ({ frames := 0, cells := 0, slots := 0, locals := 0 }) (mu_P [.ref h, .int bv] (dC, dI) [(h, .inr (5, [.ref res, .int ie, .ref t, .ref no, .int (nI pp), .int (nI s0), .int (wI w), .int pa, .int ma, .int ex, .ref ki]))] [] sz) (va_Qv (fun (u : rS) => u = rd_req (pp, s0, w) bv) (mu_B (dC, dI) [] (va_A [(h, .inr (5, [.ref res, .int ie, .ref t, .ref no, .int (nI pp), .int (nI s0), .int (wI w), .int pa, .int ma, .int ex, .ref ki]))] sz) (fun u' : rS => [(h, .inr (5, [.ref res, .int ie, .ref t, .ref no, .int (nI u'.1), .int (nI u'.2.1), .int (wI u'.2.2), .int pa, .int ma, .int ex, .ref ki]))])) (va_A [(h, .inr (5, [.ref res, .int ie, .ref t, .ref no, .int (nI pp), .int (nI s0), .int (wI w), .int pa, .int ma, .int ex, .ref ki]))] sz)) 0 0 (va_A [(h, .inr (5, [.ref res, .int ie, .ref t, .ref no, .int (nI pp), .int (nI s0), .int (wI w), .int pa, .int ma, .int ex, .ref ki]))] sz) := by
  refine Met.ofW (cc := b_Reader_require) (maxL := 2) (ret := none) (by decide) rfl ?_
  intro p e s m args below meth c s₁ B hml hv
  obtain ⟨rfl, hsz, hP, hK, hD0, hN⟩ := hv
  have hx := B.exec
  have hb := B.bytes
  have hr := B.returns
  have hts := atoms_spec (ws := w_Reader_require) B.pre
  have tbin : ∀ w ∈ tb, w ∈ w_Reader_require := fun w h => List.mem_cons_of_mem _ h
  have htb : ∀ w ∈ tb, w.before _ s = true := fun w h => hts w (tbin w h)
  have hown : s.vm.findClass "TrustChain$Reader" = some m.cls := findClass_of_methodNamed B.named
  have hlocks := B.notSynchronized
  subst hsz
  have hD := hD0.self (sz := s.heap.size)
  generalize hAe : va_A [(h, .inr (5, [.ref res, .int ie, .ref t, .ref no, .int (nI pp), .int (nI s0), .int (wI w), .int pa, .int ma, .int ex, .ref ki]))] s.heap.size = A at hD ⊢
  have hA : ∀ q : Nat, s.heap.size ≤ q → A q := fun q h => by rw [← hAe]; exact Or.inr h
  have hS : va_S A s.heap s.heap [] := va_S.rf
  have hcs : 0 ≤ (headSpec w_Reader_require ({ frames := 0, cells := 0, slots := 0, locals := 0 })).room.cells ∧ 0 ≤ (headSpec w_Reader_require ({ frames := 0, cells := 0, slots := 0, locals := 0 })).room.slots := ⟨Nat.le_refl _, Nat.le_refl _⟩
  have hP : va_P (dC, dI) classes [(h, .inr (5, [.ref res, .int ie, .ref t, .ref no, .int (nI pp), .int (nI s0), .int (wI w), .int pa, .int ma, .int ex, .ref ki]))] s.heap := hP
  have hl := lv_entry ([.ref h, .int bv]) (n := 2) (Nat.le_of_ble_eq_true rfl)
  rw [lg_entry_eq]
  generalize (lg_sl ([.ref h, .int bv]) ++ List.replicate (2 - (lg_sl ([.ref h, .int bv])).length) Slot.unset).toArray = ls at hl ⊢
  have hl : lv_has ls 2 [(0, .ref h), (1, .int bv)] := hl
  refine lv_iload_n hx hb d_Reader_require_0 rfl (lv_at hl 1 rfl) ?_
  refine lv_if_ne (tgt := 19) hx hb d_Reader_require_1 (by decide) (fun c1 => ?_) (fun c1 => ?_)
  · exact W.vret hx hb hr (fun t ht hW => ⟨⟨(pp, s0, w), rfl, rd_req_1 c1, by rw [ht]; exact hP, va_K.moved hW.alike hK, hD⟩, hS.F ht⟩) hS.2.2 d_Reader_require_19
  · refine lv_aload_n hx hb d_Reader_require_4 rfl (lv_at hl 0 rfl) ?_
    refine va_get (v := .int (wI w)) hx hb htb i_ListReader hown hK hP 0 rfl rfl 6 (by decide) (htb _ q3_74) (fun _ h9 => h9) rfl d_Reader_require_5 ?_
    refine lv_if_ge (tgt := 19) hx hb d_Reader_require_8 (by decide) (fun c8 => ?_) (fun c8 => ?_)
    · exact W.vret hx hb hr (fun t ht hW => ⟨⟨(pp, s0, w), rfl, rd_req_2 (wI_s c8), by rw [ht]; exact hP, va_K.moved hW.alike hK, hD⟩, hS.F ht⟩) hS.2.2 d_Reader_require_19
    · refine lv_aload_n hx hb d_Reader_require_11 rfl (lv_at hl 0 rfl) ?_
      refine lv_aload_n hx hb d_Reader_require_12 rfl (lv_at hl 0 rfl) ?_
      refine va_get (v := .int (nI s0)) hx hb htb i_ListReader hown hK hP 0 rfl rfl 5 (by decide) (htb _ q3_73) (fun _ h9 => h9) rfl d_Reader_require_13 ?_
      refine va_put (v := .int (nI s0)) (ty := .int) hx hb htb i_ListReader t_ListReader t_ListReader_ok n_ListReader hown hK hP hD hS 0 rfl rfl 6 (by decide) (htb _ q3_74) (fun _ h9 => h9) rfl (by decide +kernel) rfl rfl (Nat.le_of_ble_eq_true rfl) d_Reader_require_16 (fun H16 locs hP hD hS => ?_)
      have hP : va_P (dC, dI) classes [(h, .inr (5, [.ref res, .int ie, .ref t, .ref no, .int (nI pp), .int (nI s0), .int (nI s0), .int pa, .int ma, .int ex, .ref ki]))] H16 := hP
      have hD : va_D A [(h, .inr (5, [.ref res, .int ie, .ref t, .ref no, .int (nI pp), .int (nI s0), .int (nI s0), .int pa, .int ma, .int ex, .ref ki]))] := hD
      exact W.vret hx hb hr (fun t ht hW => ⟨⟨(pp, s0, some s0), rfl, rd_req_3 (wI_n hw c8) (by simpa using c1), by rw [ht]; exact hP, va_K.moved hW.alike hK, hD⟩, hS.F ht⟩) hS.2.2 d_Reader_require_19
set_option maxHeartbeats 4000000 in
set_option maxRecDepth 100000 in
theorem cL_finish (l : Launch) (dC : Nat → ClassId) (dI : Nat → Nat → Nat) (h res t no ki : Nat) (pp s0 n : Nat) (w : Option Nat) (pa ma ex ie : Int32) (cB : ClassId) (u : Nat → Nat) (en : Nat) (sz : Nat) (hw : ∀ k, w = some k → k < 2 ^ 31) (hp : pp < 2 ^ 31) (he : en < 2 ^ 31) : Met l y_Reader_finish w_Reader_finish ({ frames := 0, cells := 0, slots := 0, locals := 0 }) (mu_P [.ref h, .int (nI en)] (dC, dI) [(h, .inr (5, [.ref res, .int ie, .ref t, .ref no, .int (nI pp), .int (nI s0), .int (wI w), .int pa, .int ma, .int ex, .ref ki]))] [] sz) (va_Qv (fun (u : rS) => u = rd_fin (pp, s0, w) en) (mu_B (dC, dI) [] (va_A [(h, .inr (5, [.ref res, .int ie, .ref t, .ref no, .int (nI pp), .int (nI s0), .int (wI w), .int pa, .int ma, .int ex, .ref ki]))] sz) (fun u' : rS => [(h, .inr (5, [.ref res, .int ie, .ref t, .ref no, .int (nI u'.1), .int (nI u'.2.1), .int (wI u'.2.2), .int pa, .int ma, .int ex, .ref ki]))])) (va_A [(h, .inr (5, [.ref res, .int ie, .ref t, .ref no, .int (nI pp), .int (nI s0), .int (wI w), .int pa, .int ma, .int ex, .ref ki]))] sz)) 0 0 (va_A [(h, .inr (5, [.ref res, .int ie, .ref t, .ref no, .int (nI pp), .int (nI s0), .int (wI w), .int pa, .int ma, .int ex, .ref ki]))] sz) := by
  refine Met.ofW (cc := b_Reader_finish) (maxL := 2) (ret := none) (by decide) rfl ?_
  intro p e s m args below meth c s₁ B hml hv
  obtain ⟨rfl, hsz, hP, hK, hD0, hN⟩ := hv
  have hx := B.exec
  have hb := B.bytes
  have hr := B.returns
  have hts := atoms_spec (ws := w_Reader_finish) B.pre
  have tbin : ∀ w ∈ tb, w ∈ w_Reader_finish := fun w h => List.mem_cons_of_mem _ h
  have htb : ∀ w ∈ tb, w.before _ s = true := fun w h => hts w (tbin w h)
  have hown : s.vm.findClass "TrustChain$Reader" = some m.cls := findClass_of_methodNamed B.named
  have hlocks := B.notSynchronized
  subst hsz
  have hD := hD0.self (sz := s.heap.size)
  generalize hAe : va_A [(h, .inr (5, [.ref res, .int ie, .ref t, .ref no, .int (nI pp), .int (nI s0), .int (wI w), .int pa, .int ma, .int ex, .ref ki]))] s.heap.size = A at hD ⊢
  have hA : ∀ q : Nat, s.heap.size ≤ q → A q := fun q h => by rw [← hAe]; exact Or.inr h
  have hS : va_S A s.heap s.heap [] := va_S.rf
  have hcs : 0 ≤ (headSpec w_Reader_finish ({ frames := 0, cells := 0, slots := 0, locals := 0 })).room.cells ∧ 0 ≤ (headSpec w_Reader_finish ({ frames := 0, cells := 0, slots := 0, locals := 0 })).room.slots := ⟨Nat.le_refl _, Nat.le_refl _⟩
  have hP : va_P (dC, dI) classes [(h, .inr (5, [.ref res, .int ie, .ref t, .ref no, .int (nI pp), .int (nI s0), .int (wI w), .int pa, .int ma, .int ex, .ref ki]))] s.heap := hP
  have hl := lv_entry ([.ref h, .int (nI en)]) (n := 2) (Nat.le_of_ble_eq_true rfl)
  rw [lg_entry_eq]
  generalize (lg_sl ([.ref h, .int (nI en)]) ++ List.replicate (2 - (lg_sl ([.ref h, .int (nI en)])).length) Slot.unset).toArray = ls at hl ⊢
  have hl : lv_has ls 2 [(0, .ref h), (1, .int (nI en))] := hl
  refine lv_aload_n hx hb d_Reader_finish_0 rfl (lv_at hl 0 rfl) ?_
  refine va_get (v := .int (wI w)) hx hb htb i_ListReader hown hK hP 0 rfl rfl 6 (by decide) (htb _ q3_74) (fun _ h9 => h9) rfl d_Reader_finish_1 ?_
  refine lv_if_ge (tgt := 23) hx hb d_Reader_finish_4 (by decide) (fun c4 => ?_) (fun c4 => ?_)
  · exact W.vret hx hb hr (fun t ht hW => ⟨⟨(pp, s0, w), rfl, rd_fin_1 (wI_s c4), by rw [ht]; exact hP, va_K.moved hW.alike hK, hD⟩, hS.F ht⟩) hS.2.2 d_Reader_finish_23
  · refine lv_aload_n hx hb d_Reader_finish_7 rfl (lv_at hl 0 rfl) ?_
    refine va_get (v := .int (nI pp)) hx hb htb i_ListReader hown hK hP 0 rfl rfl 4 (by decide) (htb _ q3_68) (fun _ h9 => h9) rfl d_Reader_finish_8 ?_
    refine lv_iload_n hx hb d_Reader_finish_11 rfl (lv_at hl 1 rfl) ?_
    refine lv_icmp_ge (tgt := 23) hx hb d_Reader_finish_12 (by decide) (fun c12 => ?_) (fun c12 => ?_)
    · exact W.vret hx hb hr (fun t ht hW => ⟨⟨(pp, s0, w), rfl, rd_fin_2 (by rw [nI_leI (by omega) (by omega)] at c12; omega), by rw [ht]; exact hP, va_K.moved hW.alike hK, hD⟩, hS.F ht⟩) hS.2.2 d_Reader_finish_23
    · refine lv_aload_n hx hb d_Reader_finish_15 rfl (lv_at hl 0 rfl) ?_
      refine lv_aload_n hx hb d_Reader_finish_16 rfl (lv_at hl 0 rfl) ?_
      refine va_get (v := .int (nI pp)) hx hb htb i_ListReader hown hK hP 0 rfl rfl 4 (by decide) (htb _ q3_68) (fun _ h9 => h9) rfl d_Reader_finish_17 ?_
      refine va_put (v := .int (nI pp)) (ty := .int) hx hb htb i_ListReader t_ListReader t_ListReader_ok n_ListReader hown hK hP hD hS 0 rfl rfl 6 (by decide) (htb _ q3_74) (fun _ h9 => h9) rfl (by decide +kernel) rfl rfl (Nat.le_of_ble_eq_true rfl) d_Reader_finish_20 (fun H20 locs hP hD hS => ?_)
      have hP : va_P (dC, dI) classes [(h, .inr (5, [.ref res, .int ie, .ref t, .ref no, .int (nI pp), .int (nI s0), .int (nI pp), .int pa, .int ma, .int ex, .ref ki]))] H20 := hP
      have hD : va_D A [(h, .inr (5, [.ref res, .int ie, .ref t, .ref no, .int (nI pp), .int (nI s0), .int (nI pp), .int pa, .int ma, .int ex, .ref ki]))] := hD
      exact W.vret hx hb hr (fun t ht hW => ⟨⟨(pp, s0, some pp), rfl, rd_fin_3 (wI_n hw c4) (by rw [nI_leI (by omega) (by omega)] at c12; omega), by rw [ht]; exact hP, va_K.moved hW.alike hK, hD⟩, hS.F ht⟩) hS.2.2 d_Reader_finish_23
set_option maxHeartbeats 4000000 in
set_option maxRecDepth 100000 in
theorem cL_leave (l : Launch) (dC : Nat → ClassId) (dI : Nat → Nat → Nat) (h res t no ki : Nat) (pp s0 n : Nat) (w : Option Nat) (pa ma ex ie : Int32) (cB : ClassId) (u : Nat → Nat) (en : Nat) (bv : Int32) (sz : Nat) (hw : ∀ k, w = some k → k < 2 ^ 31) : Met l y_Reader_leave w_Reader_leave ({ frames := 0, cells := 0, slots := 0, locals := 0 }) (mu_P [.ref h, .int (nI en), .int bv] (dC, dI) [(h, .inr (5, [.ref res, .int ie, .ref t, .ref no, .int (nI pp), .int (nI s0), .int (wI w), .int pa, .int ma, .int ex, .ref ki]))] [] sz) (va_Qv (fun (u : rS) => u = rd_lea (pp, s0, w) en bv) (mu_B (dC, dI) [] (va_A [(h, .inr (5, [.ref res, .int ie, .ref t, .ref no, .int (nI pp), .int (nI s0), .int (wI w), .int pa, .int ma, .int ex, .ref ki]))] sz) (fun u' : rS => [(h, .inr (5, [.ref res, .int ie, .ref t, .ref no, .int (nI u'.1), .int (nI u'.2.1), .int (wI u'.2.2), .int pa, .int ma, .int ex, .ref ki]))])) (va_A [(h, .inr (5, [.ref res, .int ie, .ref t, .ref no, .int (nI pp), .int (nI s0), .int (wI w), .int pa, .int ma, .int ex, .ref ki]))] sz)) 0 0 (va_A [(h, .inr (5, [.ref res, .int ie, .ref t, .ref no, .int (nI pp), .int (nI s0), .int (wI w), .int pa, .int ma, .int ex, .ref ki]))] sz) := by
  refine Met.ofW (cc := b_Reader_leave) (maxL := 3) (ret := none) (by decide) rfl ?_
  intro p e s m args below meth c s₁ B hml hv
  obtain ⟨rfl, hsz, hP, hK, hD0, hN⟩ := hv
  have hx := B.exec
  have hb := B.bytes
  have hr := B.returns
  have hts := atoms_spec (ws := w_Reader_leave) B.pre
  have tbin : ∀ w ∈ tb, w ∈ w_Reader_leave := fun w h => List.mem_cons_of_mem _ h
  have htb : ∀ w ∈ tb, w.before _ s = true := fun w h => hts w (tbin w h)
  have hown : s.vm.findClass "TrustChain$Reader" = some m.cls := findClass_of_methodNamed B.named
  have hlocks := B.notSynchronized
  subst hsz
  have hD := hD0.self (sz := s.heap.size)
  generalize hAe : va_A [(h, .inr (5, [.ref res, .int ie, .ref t, .ref no, .int (nI pp), .int (nI s0), .int (wI w), .int pa, .int ma, .int ex, .ref ki]))] s.heap.size = A at hD ⊢
  have hA : ∀ q : Nat, s.heap.size ≤ q → A q := fun q h => by rw [← hAe]; exact Or.inr h
  have hS : va_S A s.heap s.heap [] := va_S.rf
  have hcs : 0 ≤ (headSpec w_Reader_leave ({ frames := 0, cells := 0, slots := 0, locals := 0 })).room.cells ∧ 0 ≤ (headSpec w_Reader_leave ({ frames := 0, cells := 0, slots := 0, locals := 0 })).room.slots := ⟨Nat.le_refl _, Nat.le_refl _⟩
  have hP : va_P (dC, dI) classes [(h, .inr (5, [.ref res, .int ie, .ref t, .ref no, .int (nI pp), .int (nI s0), .int (wI w), .int pa, .int ma, .int ex, .ref ki]))] s.heap := hP
  have hl := lv_entry ([.ref h, .int (nI en), .int bv]) (n := 3) (Nat.le_of_ble_eq_true rfl)
  rw [lg_entry_eq]
  generalize (lg_sl ([.ref h, .int (nI en), .int bv]) ++ List.replicate (3 - (lg_sl ([.ref h, .int (nI en), .int bv])).length) Slot.unset).toArray = ls at hl ⊢
  have hl : lv_has ls 3 [(0, .ref h), (1, .int (nI en)), (2, .int bv)] := hl
  refine lv_aload_n hx hb d_Reader_leave_0 rfl (lv_at hl 0 rfl) ?_
  refine va_get (v := .int (wI w)) hx hb htb i_ListReader hown hK hP 0 rfl rfl 6 (by decide) (htb _ q3_74) (fun _ h9 => h9) rfl d_Reader_leave_1 ?_
  refine lv_if_lt (tgt := 8) hx hb d_Reader_leave_4 (by decide) (fun c4 => ?_) (fun c4 => ?_)
  · refine lv_iload_n hx hb d_Reader_leave_8 rfl (lv_at hl 2 rfl) ?_
    refine lv_if_eq (tgt := 20) hx hb d_Reader_leave_9 (by decide) (fun c9 => ?_) (fun c9 => ?_)
    · refine lv_aload_n hx hb d_Reader_leave_20 rfl (lv_at hl 0 rfl) ?_
      refine lv_aload_n hx hb d_Reader_leave_21 rfl (lv_at hl 0 rfl) ?_
      refine va_get (v := .int (nI s0)) hx hb htb i_ListReader hown hK hP 0 rfl rfl 5 (by decide) (htb _ q3_73) (fun _ h9 => h9) rfl d_Reader_leave_22 ?_
      refine va_put (v := .int (nI s0)) (ty := .int) hx hb htb i_ListReader t_ListReader t_ListReader_ok n_ListReader hown hK hP hD hS 0 rfl rfl 6 (by decide) (htb _ q3_74) (fun _ h9 => h9) rfl (by decide +kernel) rfl rfl (Nat.le_of_ble_eq_true rfl) d_Reader_leave_25 (fun H25 locs hP hD hS => ?_)
      have hP : va_P (dC, dI) classes [(h, .inr (5, [.ref res, .int ie, .ref t, .ref no, .int (nI pp), .int (nI s0), .int (nI s0), .int pa, .int ma, .int ex, .ref ki]))] H25 := hP
      have hD : va_D A [(h, .inr (5, [.ref res, .int ie, .ref t, .ref no, .int (nI pp), .int (nI s0), .int (nI s0), .int pa, .int ma, .int ex, .ref ki]))] := hD
      exact W.vret hx hb hr (fun t ht hW => ⟨⟨(pp, s0, some s0), rfl, rd_lea_2 (wI_n' hw c4) c9, by rw [ht]; exact hP, va_K.moved hW.alike hK, hD⟩, hS.F ht⟩) hS.2.2 d_Reader_leave_28
    · refine lv_aload_n hx hb d_Reader_leave_12 rfl (lv_at hl 0 rfl) ?_
      refine lv_iload_n hx hb d_Reader_leave_13 rfl (lv_at hl 1 rfl) ?_
      refine va_put (v := .int (nI en)) (ty := .int) hx hb htb i_ListReader t_ListReader t_ListReader_ok n_ListReader hown hK hP hD hS 0 rfl rfl 4 (by decide) (htb _ q3_68) (fun _ h9 => h9) rfl (by decide +kernel) rfl rfl (Nat.le_of_ble_eq_true rfl) d_Reader_leave_14 (fun H14 locs hP hD hS => ?_)
      have hP : va_P (dC, dI) classes [(h, .inr (5, [.ref res, .int ie, .ref t, .ref no, .int (nI en), .int (nI s0), .int (wI w), .int pa, .int ma, .int ex, .ref ki]))] H14 := hP
      have hD : va_D A [(h, .inr (5, [.ref res, .int ie, .ref t, .ref no, .int (nI en), .int (nI s0), .int (wI w), .int pa, .int ma, .int ex, .ref ki]))] := hD
      refine lv_goto (tgt := 28) hx hb d_Reader_leave_17 (by decide) ?_
      exact W.vret hx hb hr (fun t ht hW => ⟨⟨(en, s0, w), rfl, rd_lea_3 (wI_n' hw c4) c9, by rw [ht]; exact hP, va_K.moved hW.alike hK, hD⟩, hS.F ht⟩) hS.2.2 d_Reader_leave_28
  · exact W.vret hx hb hr (fun t ht hW => ⟨⟨(pp, s0, w), rfl, rd_lea_1 (wI_s' c4), by rw [ht]; exact hP, va_K.moved hW.alike hK, hD⟩, hS.F ht⟩) hS.2.2 d_Reader_leave_7
end
section
/-! TrustChain.Reader.open: the head of an element. -/
section JOA
variable {p : Program} {l : Launch} {e : Env} {R : Room} {s : State} {m : MethodId} {args : Array Value} {below : List Frame} {meth : Method} {c : Code} {H : Heap} {locs : List Loc} {cells slots : Nat} {Q : State → Prop}
/-- a join over locals, the heap as it is -/
theorem w_joinA {α : Type} (J : α → Prop) (lv : α → List (Nat × Value)) (st : α → List Value) (nL pc : Nat) {g : JFrame}
    (k : ∀ (a : α) (ls : Array Slot), J a → lv_has ls nL (lv a) → W p l e R s m args below meth c H locs cells slots Q (F0 m pc ls (st a)))
    (b : (∀ (a : α) (ls : Array Slot), J a → lv_has ls nL (lv a) → W p l e R s m args below meth c H locs cells slots Q (F0 m pc ls (st a))) → W p l e R s m args below meth c H locs cells slots Q g) : W p l e R s m args below meth c H locs cells slots Q g := b k
end JOA
/-- an octet of a text, -1 behind it -/
def oc (u : Nat → Nat) (n k : Nat) : Int32 := if k < n then nI (u k) else -1
theorem oc_eq {u : Nat → Nat} {n k : Nat} (hk : k < 2 ^ 31) : sl_at u 0 n (nI k) = oc u n k := by
  rw [sl_at_nI hk, oc, Nat.zero_add]
/-- how long the head of the element at p is, and what is in it: as the text has it -/
def hx (u : Nat → Nat) (n p : Nat) : Option (Nat × Nat) :=
  if p + 1 < n then
    (if u (p + 1) = 129 then (if p + 2 < n ∧ 128 ≤ u (p + 2) then some (3, u (p + 2)) else none)
     else if u (p + 1) = 130 then (if p + 3 < n ∧ 1 ≤ u (p + 2) then some (4, u (p + 2) * 256 + u (p + 3)) else none)
     else if u (p + 1) < 128 then some (2, u (p + 1)) else none)
  else none
def rd_opn (u : Nat → Nat) (n : Nat) (x : rS) (tg en : Nat) : rS × Nat := match x with
  | (p, _, some j) => ((p, p, some j), p)
  | (p, _, none) => if en ≤ p then ((p, p, some en), p) else match hx u n p with
    | none => ((p, p, some p), p)
    | some (h, m) => if u p = tg ∧ p + h + m ≤ en then ((p + h, p, none), p + h + m) else ((p, p, some p), p)
/-- the three locals where the head has been looked at -/
def hxJ (u : Nat → Nat) (n p : Nat) (a : Int32 × Int32 × Int32) : Prop :=
  (a.1 < a.2.2 ∧ hx u n p = none) ∨ ∃ h m : Nat, a.1 = nI m ∧ a.2.1 = nI h ∧ ¬ a.1 < a.2.2 ∧ m < 2 ^ 17 ∧ h ≤ 4 ∧ (hx u n p = some (h, m) ∨ (hx u n p = none ∧ n < p + h + m))
section HXP
variable {u : Nat → Nat} {n p s tg en : Nat} {w : Option Nat}
theorem oc_129 (hu : ∀ j, u j < 256) {k v : Nat} (hv : v < 256) (h : oc u n k = nI v) : k < n ∧ u k = v := by
  unfold oc at h
  by_cases hk : k < n
  · rw [if_pos hk, nI_eq (by have := hu k; omega) (by omega)] at h
    exact ⟨hk, h⟩
  · rw [if_neg hk] at h
    have h2 := congrArg Int32.toInt h
    rw [nI_toInt (by omega)] at h2
    exact absurd h2 (by have e : ((-1 : Int32)).toInt = -1 := by decide
                        rw [e]; omega)
theorem lt_m1 {k : Nat} (hk : k < 2 ^ 31) : (-1 : Int32) < nI k := by
  rw [Int32.lt_iff_toInt_lt, nI_toInt hk]
  have e : ((-1 : Int32)).toInt = -1 := by decide
  omega
theorem hxJ_A (hu : ∀ j, u j < 256) (h1 : oc u n (p + 1) = nI 129) : hxJ u n p (oc u n (p + 2), 3, 128) := by
  obtain ⟨h2, h3⟩ := oc_129 hu (by omega) h1
  have hq := hu (p + 2)
  by_cases h4 : p + 2 < n
  · by_cases h5 : 128 ≤ u (p + 2)
    · refine Or.inr ⟨3, u (p + 2), by simp [oc, h4], rfl, ?_, by omega, by omega, Or.inl (by simp [hx, h2, h3, h4, h5])⟩
      simp only [oc, if_pos h4]
      rw [show (128 : Int32) = nI 128 from rfl, nI_ltI (by omega) (by omega)]; omega
    · refine Or.inl ⟨?_, by simp [hx, h2, h3, h5]⟩
      simp only [oc, if_pos h4]
      rw [show (128 : Int32) = nI 128 from rfl, nI_ltI (by omega) (by omega)]; omega
  · refine Or.inl ⟨?_, by simp [hx, h2, h3, h4]⟩
    simp only [oc, if_neg h4]; decide
theorem hxJ_B (hu : ∀ j, u j < 256) (h1 : oc u n (p + 1) = nI 130) : hxJ u n p (oc u n (p + 2) * 256 + oc u n (p + 3), 4, 256) := by
  obtain ⟨h2, h3⟩ := oc_129 hu (by omega) h1
  have hq := hu (p + 2)
  have hq3 := hu (p + 3)
  by_cases h4 : p + 3 < n
  · have h5 : p + 2 < n := by omega
    have e : oc u n (p + 2) * 256 + oc u n (p + 3) = nI (u (p + 2) * 256 + u (p + 3)) := by
      simp only [oc, if_pos h4, if_pos h5]
      rw [show (256 : Int32) = nI 256 from rfl, pk_mul, nI_add]
    rw [e]
    by_cases h6 : 1 ≤ u (p + 2)
    · refine Or.inr ⟨4, _, rfl, rfl, ?_, by omega, by omega, Or.inl (by simp [hx, h2, h3, h4, h6])⟩
      show ¬ nI _ < (256 : Int32)
      rw [show (256 : Int32) = nI 256 from rfl, nI_ltI (by omega) (by omega)]; omega
    · refine Or.inl ⟨?_, by simp [hx, h2, h3, h6]⟩
      show nI _ < (256 : Int32)
      rw [show (256 : Int32) = nI 256 from rfl, nI_ltI (by omega) (by omega)]; omega
  · by_cases h5 : p + 2 < n
    · by_cases h6 : 1 ≤ u (p + 2)
      · have e : oc u n (p + 2) * 256 + oc u n (p + 3) = nI (u (p + 2) * 256 - 1) := by
          simp only [oc, if_neg h4, if_pos h5]
          rw [show (256 : Int32) = nI 256 from rfl, pk_mul]
          obtain ⟨z, hz⟩ : ∃ z, u (p + 2) * 256 = z + 1 := ⟨u (p + 2) * 256 - 1, by omega⟩
          rw [hz, pk_m1, Nat.add_sub_cancel]
        rw [e]
        by_cases h7 : u (p + 2) * 256 - 1 < 256
        · refine Or.inl ⟨?_, by simp [hx, h2, h3, h4]⟩
          show nI _ < (256 : Int32)
          rw [show (256 : Int32) = nI 256 from rfl, nI_ltI (by omega) (by omega)]; omega
        · refine Or.inr ⟨4, _, rfl, rfl, ?_, by omega, by omega, Or.inr ⟨by simp [hx, h2, h3, h4], by omega⟩⟩
          show ¬ nI _ < (256 : Int32)
          rw [show (256 : Int32) = nI 256 from rfl, nI_ltI (by omega) (by omega)]; omega
      · have e : u (p + 2) = 0 := by omega
        refine Or.inl ⟨?_, by simp [hx, h2, h3, h4]⟩
        simp only [oc, if_neg h4, if_pos h5, e]
        decide
    · refine Or.inl ⟨?_, by simp [hx, h2, h3, h4]⟩
      simp only [oc, if_neg h4, if_neg h5]
      decide
theorem hxJ_C (hu : ∀ j, u j < 256) (h1 : ¬ oc u n (p + 1) = nI 129) (h2 : ¬ oc u n (p + 1) = nI 130) (h3 : ¬ oc u n (p + 1) < 128) : hxJ u n p (-1, 2, 0) := by
  refine Or.inl ⟨by decide, ?_⟩
  unfold hx
  by_cases h4 : p + 1 < n
  · simp only [oc, if_pos h4] at h1 h2 h3
    have hq := hu (p + 1)
    rw [if_pos h4, if_neg (fun q => h1 (by rw [q])), if_neg (fun q => h2 (by rw [q])), if_neg (fun q => h3 ?_)]
    rw [show (128 : Int32) = nI 128 from rfl, nI_ltI (by omega) (by omega)]; exact q
  · rw [if_neg h4]
theorem hxJ_D (hu : ∀ j, u j < 256) (h1 : ¬ oc u n (p + 1) = nI 129) (h2 : ¬ oc u n (p + 1) = nI 130) (h3 : oc u n (p + 1) < 128) : hxJ u n p (oc u n (p + 1), 2, 0) := by
  have hq := hu (p + 1)
  by_cases h4 : p + 1 < n
  · simp only [oc, if_pos h4] at h1 h2 h3 ⊢
    rw [show (128 : Int32) = nI 128 from rfl, nI_ltI (by omega) (by omega)] at h3
    refine Or.inr ⟨2, u (p + 1), rfl, rfl, ?_, by omega, by omega, Or.inl ?_⟩
    · show ¬ nI _ < (0 : Int32)
      exact nI_pos (by omega)
    · unfold hx
      rw [if_pos h4, if_neg (fun q => h1 (by rw [q])), if_neg (fun q => h2 (by rw [q])), if_pos h3]
  · simp only [oc, if_neg h4]
    exact Or.inl ⟨by decide, by simp [hx, h4]⟩
theorem hxJ_b {a : Int32 × Int32 × Int32} (hJ : hxJ u n p a) (h : a.1 < a.2.2) : hx u n p = none := by
  rcases hJ with hJ | ⟨_, _, _, _, h2, _⟩
  · exact hJ.2
  · exact absurd h h2
theorem hxJ_c {a : Int32 × Int32 × Int32} (hJ : hxJ u n p a) (hn : n < 2 ^ 30) (hp : p < en) (he : en ≤ n) (h1 : ¬ a.1 < a.2.2) (h : ¬ nI p + a.2.1 + a.1 ≤ nI en) : ∀ k m, hx u n p = some (k, m) → ¬ p + k + m ≤ en := by
  rcases hJ with hJ | ⟨k, m, e1, e2, _, hm, hk, hJ⟩
  · exact absurd hJ.1 h1
  · intro k' m' e3
    rcases hJ with hJ | hJ
    · rw [hJ] at e3
      cases e3
      rw [e1, e2, nI_add, nI_add, nI_leI (by omega) (by omega)] at h
      exact h
    · rw [hJ.1] at e3
      cases e3
theorem hxJ_d {a : Int32 × Int32 × Int32} (hJ : hxJ u n p a) (hn : n < 2 ^ 30) (hp : p < en) (he : en ≤ n) (h1 : ¬ a.1 < a.2.2) (h : nI p + a.2.1 + a.1 ≤ nI en) : ∃ k m, hx u n p = some (k, m) ∧ a.1 = nI m ∧ a.2.1 = nI k ∧ p + k + m ≤ en := by
  rcases hJ with hJ | ⟨k, m, e1, e2, _, hm, hk, hJ⟩
  · exact absurd hJ.1 h1
  · rw [e1, e2, nI_add, nI_add, nI_leI (by omega) (by omega)] at h
    rcases hJ with hJ | hJ
    · exact ⟨k, m, hJ, e1, e2, h⟩
    · exact absurd hJ.2 (by omega)
theorem opn_1 (h : ¬ w = none) : rd_opn u n (p, s, w) tg en = ((p, p, w), p) := by
  cases w with
  | none => exact absurd rfl h
  | some j => rfl
theorem opn_2 (h : w = none) (h2 : en ≤ p) : rd_opn u n (p, s, w) tg en = ((p, p, some en), p) := by
  subst h; simp [rd_opn, h2]
theorem opn_3 (h : w = none) (h2 : ¬ en ≤ p) (h3 : ∀ k m, hx u n p = some (k, m) → ¬ (u p = tg ∧ p + k + m ≤ en)) : rd_opn u n (p, s, w) tg en = ((p, p, some p), p) := by
  subst h
  simp only [rd_opn, if_neg h2]
  cases hq : hx u n p with
  | none => rfl
  | some z =>
    obtain ⟨k, m⟩ := z
    simp only [if_neg (h3 k m hq)]
theorem opn_4 {k m : Nat} (h : w = none) (h2 : ¬ en ≤ p) (h3 : hx u n p = some (k, m)) (h4 : u p = tg) (h5 : p + k + m ≤ en) : rd_opn u n (p, s, w) tg en = ((p + k, p, none), p + k + m) := by
  subst h
  simp only [rd_opn, if_neg h2, h3, if_pos (And.intro h4 h5)]
end HXP

def y_Reader_open : MethodName := ⟨"TrustChain$Reader", "open", "(II)I"⟩
abbrev b_Reader_open : ByteArray := prog_8_method_8_code
def w_Reader_open : List Cond := Cond.code y_Reader_open b_Reader_open 6 ((some FieldType.int)) :: tb
theorem d_Reader_open_0 : decode b_Reader_open 0 = .ok (.aload_n 0, 1) := by decide +kernel
theorem d_Reader_open_1 : decode b_Reader_open 1 = .ok (.aload_n 0, 1) := by decide +kernel
theorem d_Reader_open_2 : decode b_Reader_open 2 = .ok (.getfield 9, 3) := by decide +kernel
theorem d_Reader_open_5 : decode b_Reader_open 5 = .ok (.putfield 15, 3) := by decide +kernel
theorem d_Reader_open_8 : decode b_Reader_open 8 = .ok (.aload_n 0, 1) := by decide +kernel
theorem d_Reader_open_9 : decode b_Reader_open 9 = .ok (.getfield 18, 3) := by decide +kernel
theorem d_Reader_open_12 : decode b_Reader_open 12 = .ok (.ifCond .lt 8, 3) := by decide +kernel
theorem d_Reader_open_15 : decode b_Reader_open 15 = .ok (.aload_n 0, 1) := by decide +kernel
theorem d_Reader_open_16 : decode b_Reader_open 16 = .ok (.getfield 9, 3) := by decide +kernel
theorem d_Reader_open_19 : decode b_Reader_open 19 = .ok (.ireturn, 1) := by decide +kernel
theorem d_Reader_open_20 : decode b_Reader_open 20 = .ok (.aload_n 0, 1) := by decide +kernel
theorem d_Reader_open_21 : decode b_Reader_open 21 = .ok (.getfield 9, 3) := by decide +kernel
theorem d_Reader_open_24 : decode b_Reader_open 24 = .ok (.iload_n 2, 1) := by decide +kernel
theorem d_Reader_open_25 : decode b_Reader_open 25 = .ok (.if_icmp .lt 13, 3) := by decide +kernel
theorem d_Reader_open_28 : decode b_Reader_open 28 = .ok (.aload_n 0, 1) := by decide +kernel
theorem d_Reader_open_29 : decode b_Reader_open 29 = .ok (.iload_n 2, 1) := by decide +kernel
theorem d_Reader_open_30 : decode b_Reader_open 30 = .ok (.putfield 18, 3) := by decide +kernel
theorem d_Reader_open_33 : decode b_Reader_open 33 = .ok (.aload_n 0, 1) := by decide +kernel
theorem d_Reader_open_34 : decode b_Reader_open 34 = .ok (.getfield 9, 3) := by decide +kernel
theorem d_Reader_open_37 : decode b_Reader_open 37 = .ok (.ireturn, 1) := by decide +kernel
theorem d_Reader_open_38 : decode b_Reader_open 38 = .ok (.aload_n 0, 1) := by decide +kernel
theorem d_Reader_open_39 : decode b_Reader_open 39 = .ok (.aload_n 0, 1) := by decide +kernel
theorem d_Reader_open_40 : decode b_Reader_open 40 = .ok (.getfield 9, 3) := by decide +kernel
theorem d_Reader_open_43 : decode b_Reader_open 43 = .ok (.iconst 1, 1) := by decide +kernel
theorem d_Reader_open_44 : decode b_Reader_open 44 = .ok (.iadd, 1) := by decide +kernel
theorem d_Reader_open_45 : decode b_Reader_open 45 = .ok (.invokevirtual 54, 3) := by decide +kernel
theorem d_Reader_open_48 : decode b_Reader_open 48 = .ok (.istore_n 3, 1) := by decide +kernel
theorem d_Reader_open_49 : decode b_Reader_open 49 = .ok (.iconst 2, 1) := by decide +kernel
theorem d_Reader_open_50 : decode b_Reader_open 50 = .ok (.istore 4, 2) := by decide +kernel
theorem d_Reader_open_52 : decode b_Reader_open 52 = .ok (.iconst 0, 1) := by decide +kernel
theorem d_Reader_open_53 : decode b_Reader_open 53 = .ok (.istore 5, 2) := by decide +kernel
theorem d_Reader_open_55 : decode b_Reader_open 55 = .ok (.iload_n 3, 1) := by decide +kernel
theorem d_Reader_open_56 : decode b_Reader_open 56 = .ok (.sipush 129, 3) := by decide +kernel
theorem d_Reader_open_59 : decode b_Reader_open 59 = .ok (.if_icmp .ne 25, 3) := by decide +kernel
theorem d_Reader_open_62 : decode b_Reader_open 62 = .ok (.aload_n 0, 1) := by decide +kernel
theorem d_Reader_open_63 : decode b_Reader_open 63 = .ok (.aload_n 0, 1) := by decide +kernel
theorem d_Reader_open_64 : decode b_Reader_open 64 = .ok (.getfield 9, 3) := by decide +kernel
theorem d_Reader_open_67 : decode b_Reader_open 67 = .ok (.iconst 2, 1) := by decide +kernel
theorem d_Reader_open_68 : decode b_Reader_open 68 = .ok (.iadd, 1) := by decide +kernel
theorem d_Reader_open_69 : decode b_Reader_open 69 = .ok (.invokevirtual 54, 3) := by decide +kernel
theorem d_Reader_open_72 : decode b_Reader_open 72 = .ok (.istore_n 3, 1) := by decide +kernel
theorem d_Reader_open_73 : decode b_Reader_open 73 = .ok (.iconst 3, 1) := by decide +kernel
theorem d_Reader_open_74 : decode b_Reader_open 74 = .ok (.istore 4, 2) := by decide +kernel
theorem d_Reader_open_76 : decode b_Reader_open 76 = .ok (.sipush 128, 3) := by decide +kernel
theorem d_Reader_open_79 : decode b_Reader_open 79 = .ok (.istore 5, 2) := by decide +kernel
theorem d_Reader_open_81 : decode b_Reader_open 81 = .ok (.goto 56, 3) := by decide +kernel
theorem d_Reader_open_84 : decode b_Reader_open 84 = .ok (.iload_n 3, 1) := by decide +kernel
theorem d_Reader_open_85 : decode b_Reader_open 85 = .ok (.sipush 130, 3) := by decide +kernel
theorem d_Reader_open_88 : decode b_Reader_open 88 = .ok (.if_icmp .ne 40, 3) := by decide +kernel
theorem d_Reader_open_91 : decode b_Reader_open 91 = .ok (.aload_n 0, 1) := by decide +kernel
theorem d_Reader_open_92 : decode b_Reader_open 92 = .ok (.aload_n 0, 1) := by decide +kernel
theorem d_Reader_open_93 : decode b_Reader_open 93 = .ok (.getfield 9, 3) := by decide +kernel
theorem d_Reader_open_96 : decode b_Reader_open 96 = .ok (.iconst 2, 1) := by decide +kernel
theorem d_Reader_open_97 : decode b_Reader_open 97 = .ok (.iadd, 1) := by decide +kernel
theorem d_Reader_open_98 : decode b_Reader_open 98 = .ok (.invokevirtual 54, 3) := by decide +kernel
theorem d_Reader_open_101 : decode b_Reader_open 101 = .ok (.sipush 256, 3) := by decide +kernel
theorem d_Reader_open_104 : decode b_Reader_open 104 = .ok (.imul, 1) := by decide +kernel
theorem d_Reader_open_105 : decode b_Reader_open 105 = .ok (.aload_n 0, 1) := by decide +kernel
theorem d_Reader_open_106 : decode b_Reader_open 106 = .ok (.aload_n 0, 1) := by decide +kernel
theorem d_Reader_open_107 : decode b_Reader_open 107 = .ok (.getfield 9, 3) := by decide +kernel
theorem d_Reader_open_110 : decode b_Reader_open 110 = .ok (.iconst 3, 1) := by decide +kernel
theorem d_Reader_open_111 : decode b_Reader_open 111 = .ok (.iadd, 1) := by decide +kernel
theorem d_Reader_open_112 : decode b_Reader_open 112 = .ok (.invokevirtual 54, 3) := by decide +kernel
theorem d_Reader_open_115 : decode b_Reader_open 115 = .ok (.iadd, 1) := by decide +kernel
theorem d_Reader_open_116 : decode b_Reader_open 116 = .ok (.istore_n 3, 1) := by decide +kernel
theorem d_Reader_open_117 : decode b_Reader_open 117 = .ok (.iconst 4, 1) := by decide +kernel
theorem d_Reader_open_118 : decode b_Reader_open 118 = .ok (.istore 4, 2) := by decide +kernel
theorem d_Reader_open_120 : decode b_Reader_open 120 = .ok (.sipush 256, 3) := by decide +kernel
theorem d_Reader_open_123 : decode b_Reader_open 123 = .ok (.istore 5, 2) := by decide +kernel
theorem d_Reader_open_125 : decode b_Reader_open 125 = .ok (.goto 12, 3) := by decide +kernel
theorem d_Reader_open_128 : decode b_Reader_open 128 = .ok (.iload_n 3, 1) := by decide +kernel
theorem d_Reader_open_129 : decode b_Reader_open 129 = .ok (.sipush 128, 3) := by decide +kernel
theorem d_Reader_open_132 : decode b_Reader_open 132 = .ok (.if_icmp .lt 5, 3) := by decide +kernel
theorem d_Reader_open_135 : decode b_Reader_open 135 = .ok (.iconst (-1), 1) := by decide +kernel
theorem d_Reader_open_136 : decode b_Reader_open 136 = .ok (.istore_n 3, 1) := by decide +kernel
theorem d_Reader_open_137 : decode b_Reader_open 137 = .ok (.aload_n 0, 1) := by decide +kernel
theorem d_Reader_open_138 : decode b_Reader_open 138 = .ok (.aload_n 0, 1) := by decide +kernel
theorem d_Reader_open_139 : decode b_Reader_open 139 = .ok (.getfield 9, 3) := by decide +kernel
theorem d_Reader_open_142 : decode b_Reader_open 142 = .ok (.invokevirtual 54, 3) := by decide +kernel
theorem d_Reader_open_145 : decode b_Reader_open 145 = .ok (.iload_n 1, 1) := by decide +kernel
theorem d_Reader_open_146 : decode b_Reader_open 146 = .ok (.if_icmp .ne 22, 3) := by decide +kernel
theorem d_Reader_open_149 : decode b_Reader_open 149 = .ok (.iload_n 3, 1) := by decide +kernel
theorem d_Reader_open_150 : decode b_Reader_open 150 = .ok (.iload 5, 2) := by decide +kernel
theorem d_Reader_open_152 : decode b_Reader_open 152 = .ok (.if_icmp .lt 16, 3) := by decide +kernel
theorem d_Reader_open_155 : decode b_Reader_open 155 = .ok (.aload_n 0, 1) := by decide +kernel
theorem d_Reader_open_156 : decode b_Reader_open 156 = .ok (.getfield 9, 3) := by decide +kernel
theorem d_Reader_open_159 : decode b_Reader_open 159 = .ok (.iload 4, 2) := by decide +kernel
theorem d_Reader_open_161 : decode b_Reader_open 161 = .ok (.iadd, 1) := by decide +kernel
theorem d_Reader_open_162 : decode b_Reader_open 162 = .ok (.iload_n 3, 1) := by decide +kernel
theorem d_Reader_open_163 : decode b_Reader_open 163 = .ok (.iadd, 1) := by decide +kernel
theorem d_Reader_open_164 : decode b_Reader_open 164 = .ok (.iload_n 2, 1) := by decide +kernel
theorem d_Reader_open_165 : decode b_Reader_open 165 = .ok (.if_icmp .le 16, 3) := by decide +kernel
theorem d_Reader_open_168 : decode b_Reader_open 168 = .ok (.aload_n 0, 1) := by decide +kernel
theorem d_Reader_open_169 : decode b_Reader_open 169 = .ok (.aload_n 0, 1) := by decide +kernel
theorem d_Reader_open_170 : decode b_Reader_open 170 = .ok (.getfield 9, 3) := by decide +kernel
theorem d_Reader_open_173 : decode b_Reader_open 173 = .ok (.putfield 18, 3) := by decide +kernel
theorem d_Reader_open_176 : decode b_Reader_open 176 = .ok (.aload_n 0, 1) := by decide +kernel
theorem d_Reader_open_177 : decode b_Reader_open 177 = .ok (.getfield 9, 3) := by decide +kernel
theorem d_Reader_open_180 : decode b_Reader_open 180 = .ok (.ireturn, 1) := by decide +kernel
theorem d_Reader_open_181 : decode b_Reader_open 181 = .ok (.aload_n 0, 1) := by decide +kernel
theorem d_Reader_open_182 : decode b_Reader_open 182 = .ok (.dup, 1) := by decide +kernel
theorem d_Reader_open_183 : decode b_Reader_open 183 = .ok (.getfield 9, 3) := by decide +kernel
theorem d_Reader_open_186 : decode b_Reader_open 186 = .ok (.iload 4, 2) := by decide +kernel
theorem d_Reader_open_188 : decode b_Reader_open 188 = .ok (.iadd, 1) := by decide +kernel
theorem d_Reader_open_189 : decode b_Reader_open 189 = .ok (.putfield 9, 3) := by decide +kernel
theorem d_Reader_open_192 : decode b_Reader_open 192 = .ok (.aload_n 0, 1) := by decide +kernel
theorem d_Reader_open_193 : decode b_Reader_open 193 = .ok (.getfield 9, 3) := by decide +kernel
theorem d_Reader_open_196 : decode b_Reader_open 196 = .ok (.iload_n 3, 1) := by decide +kernel
theorem d_Reader_open_197 : decode b_Reader_open 197 = .ok (.iadd, 1) := by decide +kernel
theorem d_Reader_open_198 : decode b_Reader_open 198 = .ok (.ireturn, 1) := by decide +kernel
set_option maxHeartbeats 4000000 in
set_option maxRecDepth 100000 in
theorem cC_open (l : Launch) (dC : Nat → ClassId) (dI : Nat → Nat → Nat) (h res t no ki : Nat) (pp s0 n : Nat) (w : Option Nat) (pa ma ex ie : Int32) (cB : ClassId) (u : Nat → Nat) (tg en : Nat) (sz : Nat) (hu : ∀ j, u j < 256) (hn : n < 2 ^ 30) (hw : ∀ k, w = some k → k < 2 ^ 31) (he : en ≤ n) (hp : pp ≤ n) (hg : tg < 256) : Met l y_Reader_open w_Reader_open ({ frames := 1, cells := 0, slots := 0, locals := 21 }) (mu_P [.ref h, .int (nI tg), .int (nI en)] (dC, dI) [(h, .inr (4, [.ref res, .ref t, .ref no, .int (nI pp), .int (nI s0), .int (wI w), .int pa, .int ma, .int ex, .ref ki])), (t, .inl (cB, n, .inl (tx u)))] [(cB, .byte)] sz) (va_Qi (fun r (u' : rS) => u' = (rd_opn u n (pp, s0, w) tg en).1 ∧ r = nI (rd_opn u n (pp, s0, w) tg en).2) (mu_B (dC, dI) [(cB, .byte)] (va_A [(h, .inr (4, [.ref res, .ref t, .ref no, .int (nI pp), .int (nI s0), .int (wI w), .int pa, .int ma, .int ex, .ref ki])), (t, .inl (cB, n, .inl (tx u)))] sz) (fun u' : rS => [(h, .inr (4, [.ref res, .ref t, .ref no, .int (nI u'.1), .int (nI u'.2.1), .int (wI u'.2.2), .int pa, .int ma, .int ex, .ref ki])), (t, .inl (cB, n, .inl (tx u)))])) (va_A [(h, .inr (4, [.ref res, .ref t, .ref no, .int (nI pp), .int (nI s0), .int (wI w), .int pa, .int ma, .int ex, .ref ki])), (t, .inl (cB, n, .inl (tx u)))] sz)) 0 0 (va_A [(h, .inr (4, [.ref res, .ref t, .ref no, .int (nI pp), .int (nI s0), .int (wI w), .int pa, .int ma, .int ex, .ref ki])), (t, .inl (cB, n, .inl (tx u)))] sz) := by
  refine Met.ofW (cc := b_Reader_open) (maxL := 6) (ret := (some FieldType.int)) (by decide) rfl ?_
  intro p e s m args below meth c s₁ B hml hv
  obtain ⟨rfl, hsz, hP, hK, hD0, hN⟩ := hv
  have hx := B.exec
  have hb := B.bytes
  have hr := B.returns
  have hts := atoms_spec (ws := w_Reader_open) B.pre
  have tbin : ∀ w ∈ tb, w ∈ w_Reader_open := fun w h => List.mem_cons_of_mem _ h
  have htb : ∀ w ∈ tb, w.before _ s = true := fun w h => hts w (tbin w h)
  have hown : s.vm.findClass "TrustChain$Reader" = some m.cls := findClass_of_methodNamed B.named
  have hlocks := B.notSynchronized
  subst hsz
  have hD := hD0.self (sz := s.heap.size)
  generalize hAe : va_A [(h, .inr (4, [.ref res, .ref t, .ref no, .int (nI pp), .int (nI s0), .int (wI w), .int pa, .int ma, .int ex, .ref ki])), (t, .inl (cB, n, .inl (tx u)))] s.heap.size = A at hD ⊢
  have hA : ∀ q : Nat, s.heap.size ≤ q → A q := fun q h => by rw [← hAe]; exact Or.inr h
  have hS : va_S A s.heap s.heap [] := va_S.rf
  have hcs : 0 ≤ (headSpec w_Reader_open ({ frames := 1, cells := 0, slots := 0, locals := 21 })).room.cells ∧ 0 ≤ (headSpec w_Reader_open ({ frames := 1, cells := 0, slots := 0, locals := 21 })).room.slots := ⟨Nat.le_refl _, Nat.le_refl _⟩
  have hP : va_P (dC, dI) classes [(h, .inr (4, [.ref res, .ref t, .ref no, .int (nI pp), .int (nI s0), .int (wI w), .int pa, .int ma, .int ex, .ref ki])), (t, .inl (cB, n, .inl (tx u)))] s.heap := hP
  have hl := lv_entry ([.ref h, .int (nI tg), .int (nI en)]) (n := 6) (Nat.le_of_ble_eq_true rfl)
  rw [lg_entry_eq]
  generalize (lg_sl ([.ref h, .int (nI tg), .int (nI en)]) ++ List.replicate (6 - (lg_sl ([.ref h, .int (nI tg), .int (nI en)])).length) Slot.unset).toArray = ls at hl ⊢
  have hl : lv_has ls 6 [(0, .ref h), (1, .int (nI tg)), (2, .int (nI en))] := hl
  refine lv_aload_n hx hb d_Reader_open_0 rfl (lv_at hl 0 rfl) ?_
  refine lv_aload_n hx hb d_Reader_open_1 rfl (lv_at hl 0 rfl) ?_
  refine va_get (v := .int (nI pp)) hx hb htb i_CertificateReader hown hK hP 0 rfl rfl 3 (by decide) (htb _ q3_68) (fun _ h9 => h9) rfl d_Reader_open_2 ?_
  refine va_put (v := .int (nI pp)) (ty := .int) hx hb htb i_CertificateReader t_CertificateReader t_CertificateReader_ok n_CertificateReader hown hK hP hD hS 0 rfl rfl 4 (by decide) (htb _ q3_73) (fun _ h9 => h9) rfl (by decide +kernel) rfl rfl (Nat.le_of_ble_eq_true rfl) d_Reader_open_5 (fun H5 locs hP hD hS => ?_)
  have hP : va_P (dC, dI) classes [(h, .inr (4, [.ref res, .ref t, .ref no, .int (nI pp), .int (nI pp), .int (wI w), .int pa, .int ma, .int ex, .ref ki])), (t, .inl (cB, n, .inl (tx u)))] H5 := hP
  have hD : va_D A [(h, .inr (4, [.ref res, .ref t, .ref no, .int (nI pp), .int (nI pp), .int (wI w), .int pa, .int ma, .int ex, .ref ki])), (t, .inl (cB, n, .inl (tx u)))] := hD
  refine lv_aload_n hx hb d_Reader_open_8 rfl (lv_at hl 0 rfl) ?_
  refine va_get (v := .int (wI w)) hx hb htb i_CertificateReader hown hK hP 0 rfl rfl 5 (by decide) (htb _ q3_74) (fun _ h9 => h9) rfl d_Reader_open_9 ?_
  refine lv_if_lt (tgt := 20) hx hb d_Reader_open_12 (by decide) (fun c12 => ?_) (fun c12 => ?_)
  · have hwn := wI_n' hw c12
    refine lv_aload_n hx hb d_Reader_open_20 rfl (lv_at hl 0 rfl) ?_
    refine va_get (v := .int (nI pp)) hx hb htb i_CertificateReader hown hK hP 0 rfl rfl 3 (by decide) (htb _ q3_68) (fun _ h9 => h9) rfl d_Reader_open_21 ?_
    refine lv_iload_n hx hb d_Reader_open_24 rfl (lv_at hl 2 rfl) ?_
    refine lv_icmp_lt (tgt := 38) hx hb d_Reader_open_25 (by decide) (fun c25 => ?_) (fun c25 => ?_)
    · have hlt : pp < en := by rw [nI_ltI (by omega) (by omega)] at c25; exact c25
      refine w_joinA (α := Int32 × Int32 × Int32) (fun a => hxJ u n pp a) (fun a => [(0, .ref h), (1, .int (nI tg)), (2, .int (nI en)), (3, .int a.1), (4, .int a.2.1), (5, .int a.2.2)]) (fun _ => []) 6 137 (fun a ls hJ hl => ?_) (fun k137 => ?_)
      · skip
        refine lv_aload_n hx hb d_Reader_open_137 rfl (lv_at hl 0 rfl) ?_
        refine lv_aload_n hx hb d_Reader_open_138 rfl (lv_at hl 0 rfl) ?_
        refine va_get (v := .int (nI pp)) hx hb htb i_CertificateReader hown hK hP 0 rfl rfl 3 (by decide) (htb _ q3_68) (fun _ h9 => h9) rfl d_Reader_open_139 ?_
        refine vp_callSi (pu_callU (As := [.int (nI pp)]) (rest := []) ⟨hx, hb, hml, hown, hts⟩ (cC_octet l dC dI h res t no ki pp pp n w pa ma ex ie cB u (nI pp) hu hn) (cu_of (n := 1) hts tbin q3_122 q3_124 q3_123 q3_125 q1_15 q3_127 rfl (by decide +kernel) ⟨rfl, rfl⟩ ⟨Nat.le_of_ble_eq_true rfl, Nat.le_of_ble_eq_true rfl⟩) rfl hcs hN hK hP [0, 1] rfl [0] rfl 0 4 rfl rfl rfl hl.1 rfl (Nat.le_of_ble_eq_true rfl) d_Reader_open_142) (fun r142 hr142 => ?_)
        rw [oc_eq (by omega), oc, if_pos (by omega)] at hr142
        refine lv_iload_n hx hb d_Reader_open_145 rfl (lv_at hl 1 rfl) ?_
        refine lv_icmp_ne (tgt := 168) hx hb d_Reader_open_146 (by decide) (fun c146 => ?_) (fun c146 => ?_)
        · refine lv_aload_n hx hb d_Reader_open_168 rfl (lv_at hl 0 rfl) ?_
          refine lv_aload_n hx hb d_Reader_open_169 rfl (lv_at hl 0 rfl) ?_
          refine va_get (v := .int (nI pp)) hx hb htb i_CertificateReader hown hK hP 0 rfl rfl 3 (by decide) (htb _ q3_68) (fun _ h9 => h9) rfl d_Reader_open_170 ?_
          refine va_put (v := .int (nI pp)) (ty := .int) hx hb htb i_CertificateReader t_CertificateReader t_CertificateReader_ok n_CertificateReader hown hK hP hD hS 0 rfl rfl 5 (by decide) (htb _ q3_74) (fun _ h9 => h9) rfl (by decide +kernel) rfl rfl (Nat.le_of_ble_eq_true rfl) d_Reader_open_173 (fun H173 locs hP hD hS => ?_)
          have hP : va_P (dC, dI) classes [(h, .inr (4, [.ref res, .ref t, .ref no, .int (nI pp), .int (nI pp), .int (nI pp), .int pa, .int ma, .int ex, .ref ki])), (t, .inl (cB, n, .inl (tx u)))] H173 := hP
          have hD : va_D A [(h, .inr (4, [.ref res, .ref t, .ref no, .int (nI pp), .int (nI pp), .int (nI pp), .int pa, .int ma, .int ex, .ref ki])), (t, .inl (cB, n, .inl (tx u)))] := hD
          refine lv_aload_n hx hb d_Reader_open_176 rfl (lv_at hl 0 rfl) ?_
          refine va_get (v := .int (nI pp)) hx hb htb i_CertificateReader hown hK hP 0 rfl rfl 3 (by decide) (htb _ q3_68) (fun _ h9 => h9) rfl d_Reader_open_177 ?_
          exact W.iret (v := nI pp) hx hb hr (fun t ht hW => ⟨⟨_, (pp, pp, some pp), rfl, ⟨by rw [opn_3 hwn (by omega) (fun k m hq z => c146 (by rw [hr142, z.1]))], by rw [opn_3 hwn (by omega) (fun k m hq z => c146 (by rw [hr142, z.1]))]⟩, by rw [ht]; exact hP, va_K.moved hW.alike hK, hD⟩, hS.F ht⟩) hS.2.2 d_Reader_open_180
        · refine lv_iload_n hx hb d_Reader_open_149 rfl (lv_at hl 3 rfl) ?_
          refine lv_iload hx hb d_Reader_open_150 (lv_at hl 5 rfl) ?_
          refine lv_icmp_lt (tgt := 168) hx hb d_Reader_open_152 (by decide) (fun c152 => ?_) (fun c152 => ?_)
          · refine lv_aload_n hx hb d_Reader_open_168 rfl (lv_at hl 0 rfl) ?_
            refine lv_aload_n hx hb d_Reader_open_169 rfl (lv_at hl 0 rfl) ?_
            refine va_get (v := .int (nI pp)) hx hb htb i_CertificateReader hown hK hP 0 rfl rfl 3 (by decide) (htb _ q3_68) (fun _ h9 => h9) rfl d_Reader_open_170 ?_
            refine va_put (v := .int (nI pp)) (ty := .int) hx hb htb i_CertificateReader t_CertificateReader t_CertificateReader_ok n_CertificateReader hown hK hP hD hS 0 rfl rfl 5 (by decide) (htb _ q3_74) (fun _ h9 => h9) rfl (by decide +kernel) rfl rfl (Nat.le_of_ble_eq_true rfl) d_Reader_open_173 (fun H173 locs hP hD hS => ?_)
            have hP : va_P (dC, dI) classes [(h, .inr (4, [.ref res, .ref t, .ref no, .int (nI pp), .int (nI pp), .int (nI pp), .int pa, .int ma, .int ex, .ref ki])), (t, .inl (cB, n, .inl (tx u)))] H173 := hP
            have hD : va_D A [(h, .inr (4, [.ref res, .ref t, .ref no, .int (nI pp), .int (nI pp), .int (nI pp), .int pa, .int ma, .int ex, .ref ki])), (t, .inl (cB, n, .inl (tx u)))] := hD
            refine lv_aload_n hx hb d_Reader_open_176 rfl (lv_at hl 0 rfl) ?_
            refine va_get (v := .int (nI pp)) hx hb htb i_CertificateReader hown hK hP 0 rfl rfl 3 (by decide) (htb _ q3_68) (fun _ h9 => h9) rfl d_Reader_open_177 ?_
            exact W.iret (v := nI pp) hx hb hr (fun t ht hW => ⟨⟨_, (pp, pp, some pp), rfl, ⟨by rw [opn_3 hwn (by omega) (fun k m hq => absurd (hq.symm.trans (hxJ_b hJ c152)) (by simp))], by rw [opn_3 hwn (by omega) (fun k m hq => absurd (hq.symm.trans (hxJ_b hJ c152)) (by simp))]⟩, by rw [ht]; exact hP, va_K.moved hW.alike hK, hD⟩, hS.F ht⟩) hS.2.2 d_Reader_open_180
          · refine lv_aload_n hx hb d_Reader_open_155 rfl (lv_at hl 0 rfl) ?_
            refine va_get (v := .int (nI pp)) hx hb htb i_CertificateReader hown hK hP 0 rfl rfl 3 (by decide) (htb _ q3_68) (fun _ h9 => h9) rfl d_Reader_open_156 ?_
            refine lv_iload hx hb d_Reader_open_159 (lv_at hl 4 rfl) ?_
            refine lv_iadd hx hb d_Reader_open_161 ?_
            refine lv_iload_n hx hb d_Reader_open_162 rfl (lv_at hl 3 rfl) ?_
            refine lv_iadd hx hb d_Reader_open_163 ?_
            refine lv_iload_n hx hb d_Reader_open_164 rfl (lv_at hl 2 rfl) ?_
            refine lv_icmp_le (tgt := 181) hx hb d_Reader_open_165 (by decide) (fun c165 => ?_) (fun c165 => ?_)
            · obtain ⟨k1, m1, hhx, e1, e2, hle⟩ := hxJ_d hJ hn hlt he c152 c165
              refine lv_aload_n hx hb d_Reader_open_181 rfl (lv_at hl 0 rfl) ?_
              refine lv_dup hx hb d_Reader_open_182 rfl ?_
              refine va_get (v := .int (nI pp)) hx hb htb i_CertificateReader hown hK hP 0 rfl rfl 3 (by decide) (htb _ q3_68) (fun _ h9 => h9) rfl d_Reader_open_183 ?_
              refine lv_iload hx hb d_Reader_open_186 (lv_at hl 4 rfl) ?_
              refine lv_iadd hx hb d_Reader_open_188 ?_
              rw [show ((nI pp) + a.2.1 : Int32) = nI (pp + k1) from by rw [e2]; exact nI_add pp k1]
              refine va_put (v := .int (nI (pp + k1))) (ty := .int) hx hb htb i_CertificateReader t_CertificateReader t_CertificateReader_ok n_CertificateReader hown hK hP hD hS 0 rfl rfl 3 (by decide) (htb _ q3_68) (fun _ h9 => h9) rfl (by decide +kernel) rfl rfl (Nat.le_of_ble_eq_true rfl) d_Reader_open_189 (fun H189 locs hP hD hS => ?_)
              have hP : va_P (dC, dI) classes [(h, .inr (4, [.ref res, .ref t, .ref no, .int (nI (pp + k1)), .int (nI pp), .int (wI w), .int pa, .int ma, .int ex, .ref ki])), (t, .inl (cB, n, .inl (tx u)))] H189 := hP
              have hD : va_D A [(h, .inr (4, [.ref res, .ref t, .ref no, .int (nI (pp + k1)), .int (nI pp), .int (wI w), .int pa, .int ma, .int ex, .ref ki])), (t, .inl (cB, n, .inl (tx u)))] := hD
              subst hwn
              refine lv_aload_n hx hb d_Reader_open_192 rfl (lv_at hl 0 rfl) ?_
              refine va_get (v := .int (nI (pp + k1))) hx hb htb i_CertificateReader hown hK hP 0 rfl rfl 3 (by decide) (htb _ q3_68) (fun _ h9 => h9) rfl d_Reader_open_193 ?_
              refine lv_iload_n hx hb d_Reader_open_196 rfl (lv_at hl 3 rfl) ?_
              refine lv_iadd hx hb d_Reader_open_197 ?_
              rw [show ((nI (pp + k1)) + a.1 : Int32) = nI (pp + k1 + m1) from by rw [e1]; exact nI_add (pp + k1) m1]
              exact W.iret (v := nI (pp + k1 + m1)) hx hb hr (fun t ht hW => ⟨⟨_, (pp + k1, pp, none), rfl, ⟨by rw [opn_4 rfl (by omega) hhx (by rw [hr142, nI_eq (by have := hu pp; omega) (by omega)] at c146; exact c146) hle], by rw [opn_4 rfl (by omega) hhx (by rw [hr142, nI_eq (by have := hu pp; omega) (by omega)] at c146; exact c146) hle]⟩, by rw [ht]; exact hP, va_K.moved hW.alike hK, hD⟩, hS.F ht⟩) hS.2.2 d_Reader_open_198
            · refine lv_aload_n hx hb d_Reader_open_168 rfl (lv_at hl 0 rfl) ?_
              refine lv_aload_n hx hb d_Reader_open_169 rfl (lv_at hl 0 rfl) ?_
              refine va_get (v := .int (nI pp)) hx hb htb i_CertificateReader hown hK hP 0 rfl rfl 3 (by decide) (htb _ q3_68) (fun _ h9 => h9) rfl d_Reader_open_170 ?_
              refine va_put (v := .int (nI pp)) (ty := .int) hx hb htb i_CertificateReader t_CertificateReader t_CertificateReader_ok n_CertificateReader hown hK hP hD hS 0 rfl rfl 5 (by decide) (htb _ q3_74) (fun _ h9 => h9) rfl (by decide +kernel) rfl rfl (Nat.le_of_ble_eq_true rfl) d_Reader_open_173 (fun H173 locs hP hD hS => ?_)
              have hP : va_P (dC, dI) classes [(h, .inr (4, [.ref res, .ref t, .ref no, .int (nI pp), .int (nI pp), .int (nI pp), .int pa, .int ma, .int ex, .ref ki])), (t, .inl (cB, n, .inl (tx u)))] H173 := hP
              have hD : va_D A [(h, .inr (4, [.ref res, .ref t, .ref no, .int (nI pp), .int (nI pp), .int (nI pp), .int pa, .int ma, .int ex, .ref ki])), (t, .inl (cB, n, .inl (tx u)))] := hD
              refine lv_aload_n hx hb d_Reader_open_176 rfl (lv_at hl 0 rfl) ?_
              refine va_get (v := .int (nI pp)) hx hb htb i_CertificateReader hown hK hP 0 rfl rfl 3 (by decide) (htb _ q3_68) (fun _ h9 => h9) rfl d_Reader_open_177 ?_
              exact W.iret (v := nI pp) hx hb hr (fun t ht hW => ⟨⟨_, (pp, pp, some pp), rfl, ⟨by rw [opn_3 hwn (by omega) (fun k m hq z => hxJ_c hJ hn hlt he c152 c165 k m hq z.2)], by rw [opn_3 hwn (by omega) (fun k m hq z => hxJ_c hJ hn hlt he c152 c165 k m hq z.2)]⟩, by rw [ht]; exact hP, va_K.moved hW.alike hK, hD⟩, hS.F ht⟩) hS.2.2 d_Reader_open_180
      · skip
        refine lv_aload_n hx hb d_Reader_open_38 rfl (lv_at hl 0 rfl) ?_
        refine lv_aload_n hx hb d_Reader_open_39 rfl (lv_at hl 0 rfl) ?_
        refine va_get (v := .int (nI pp)) hx hb htb i_CertificateReader hown hK hP 0 rfl rfl 3 (by decide) (htb _ q3_68) (fun _ h9 => h9) rfl d_Reader_open_40 ?_
        refine lv_iconst (v := 1) hx hb d_Reader_open_43 (by decide) ?_
        refine lv_iadd hx hb d_Reader_open_44 ?_
        rw [show ((nI pp) + 1 : Int32) = nI (pp + 1) from nI_add pp 1]
        refine vp_callSi (pu_callU (As := [.int (nI (pp + 1))]) (rest := []) ⟨hx, hb, hml, hown, hts⟩ (cC_octet l dC dI h res t no ki pp pp n w pa ma ex ie cB u (nI (pp + 1)) hu hn) (cu_of (n := 1) hts tbin q3_122 q3_124 q3_123 q3_125 q1_15 q3_127 rfl (by decide +kernel) ⟨rfl, rfl⟩ ⟨Nat.le_of_ble_eq_true rfl, Nat.le_of_ble_eq_true rfl⟩) rfl hcs hN hK hP [0, 1] rfl [0] rfl 0 4 rfl rfl rfl hl.1 rfl (Nat.le_of_ble_eq_true rfl) d_Reader_open_45) (fun r45 hr45 => ?_)
        rw [oc_eq (by omega)] at hr45
        refine lv_istore_n (lv' := [(3, .int r45), (0, .ref h), (1, .int (nI tg)), (2, .int (nI en))]) hx hb d_Reader_open_48 rfl hl (by decide) rfl (fun ls hl => ?_)
        refine lv_iconst (v := 2) hx hb d_Reader_open_49 (by decide) ?_
        refine lv_istore (lv' := [(4, .int 2), (3, .int r45), (0, .ref h), (1, .int (nI tg)), (2, .int (nI en))]) hx hb d_Reader_open_50 hl (by decide) rfl (fun ls hl => ?_)
        refine lv_iconst (v := 0) hx hb d_Reader_open_52 (by decide) ?_
        refine lv_istore (lv' := [(5, .int 0), (4, .int 2), (3, .int r45), (0, .ref h), (1, .int (nI tg)), (2, .int (nI en))]) hx hb d_Reader_open_53 hl (by decide) rfl (fun ls hl => ?_)
        refine lv_iload_n hx hb d_Reader_open_55 rfl (lv_at hl 2 rfl) ?_
        refine lv_sipush (v := 129) hx hb d_Reader_open_56 (by decide) ?_
        refine lv_icmp_ne (tgt := 84) hx hb d_Reader_open_59 (by decide) (fun c59 => ?_) (fun c59 => ?_)
        · refine lv_iload_n hx hb d_Reader_open_84 rfl (lv_at hl 2 rfl) ?_
          refine lv_sipush (v := 130) hx hb d_Reader_open_85 (by decide) ?_
          refine lv_icmp_ne (tgt := 128) hx hb d_Reader_open_88 (by decide) (fun c88 => ?_) (fun c88 => ?_)
          · refine lv_iload_n hx hb d_Reader_open_128 rfl (lv_at hl 2 rfl) ?_
            refine lv_sipush (v := 128) hx hb d_Reader_open_129 (by decide) ?_
            refine lv_icmp_lt (tgt := 137) hx hb d_Reader_open_132 (by decide) (fun c132 => ?_) (fun c132 => ?_)
            · exact k137 (r45, 2, 0) ls (by rw [hr45]; exact hxJ_D hu (by rw [← hr45]; exact c59) (by rw [← hr45]; exact c88) (by rw [← hr45]; exact c132)) (lv_sub hl [3, 4, 5, 2, 1, 0] rfl)
            · refine lv_iconst (v := -1) hx hb d_Reader_open_135 (by decide) ?_
              refine lv_istore_n (lv' := [(3, .int (-1)), (5, .int 0), (4, .int 2), (0, .ref h), (1, .int (nI tg)), (2, .int (nI en))]) hx hb d_Reader_open_136 rfl hl (by decide) rfl (fun ls hl => ?_)
              exact k137 (-1, 2, 0) ls (hxJ_C hu (by rw [← hr45]; exact c59) (by rw [← hr45]; exact c88) (by rw [← hr45]; exact c132)) (lv_sub hl [3, 4, 5, 0, 2, 1] rfl)
          · refine lv_aload_n hx hb d_Reader_open_91 rfl (lv_at hl 3 rfl) ?_
            refine lv_aload_n hx hb d_Reader_open_92 rfl (lv_at hl 3 rfl) ?_
            refine va_get (v := .int (nI pp)) hx hb htb i_CertificateReader hown hK hP 0 rfl rfl 3 (by decide) (htb _ q3_68) (fun _ h9 => h9) rfl d_Reader_open_93 ?_
            refine lv_iconst (v := 2) hx hb d_Reader_open_96 (by decide) ?_
            refine lv_iadd hx hb d_Reader_open_97 ?_
            rw [show ((nI pp) + 2 : Int32) = nI (pp + 2) from nI_add pp 2]
            refine vp_callSi (pu_callU (As := [.int (nI (pp + 2))]) (rest := []) ⟨hx, hb, hml, hown, hts⟩ (cC_octet l dC dI h res t no ki pp pp n w pa ma ex ie cB u (nI (pp + 2)) hu hn) (cu_of (n := 1) hts tbin q3_122 q3_124 q3_123 q3_125 q1_15 q3_127 rfl (by decide +kernel) ⟨rfl, rfl⟩ ⟨Nat.le_of_ble_eq_true rfl, Nat.le_of_ble_eq_true rfl⟩) rfl hcs hN hK hP [0, 1] rfl [0] rfl 0 4 rfl rfl rfl hl.1 rfl (Nat.le_of_ble_eq_true rfl) d_Reader_open_98) (fun r98 hr98 => ?_)
            rw [oc_eq (by omega)] at hr98
            refine lv_sipush (v := 256) hx hb d_Reader_open_101 (by decide) ?_
            refine lv_imul hx hb d_Reader_open_104 ?_
            refine lv_aload_n hx hb d_Reader_open_105 rfl (lv_at hl 3 rfl) ?_
            refine lv_aload_n hx hb d_Reader_open_106 rfl (lv_at hl 3 rfl) ?_
            refine va_get (v := .int (nI pp)) hx hb htb i_CertificateReader hown hK hP 0 rfl rfl 3 (by decide) (htb _ q3_68) (fun _ h9 => h9) rfl d_Reader_open_107 ?_
            refine lv_iconst (v := 3) hx hb d_Reader_open_110 (by decide) ?_
            refine lv_iadd hx hb d_Reader_open_111 ?_
            rw [show ((nI pp) + 3 : Int32) = nI (pp + 3) from nI_add pp 3]
            refine vp_callSi (pu_callU (As := [.int (nI (pp + 3))]) (rest := [.int (r98 * 256)]) ⟨hx, hb, hml, hown, hts⟩ (cC_octet l dC dI h res t no ki pp pp n w pa ma ex ie cB u (nI (pp + 3)) hu hn) (cu_of (n := 1) hts tbin q3_122 q3_124 q3_123 q3_125 q1_15 q3_127 rfl (by decide +kernel) ⟨rfl, rfl⟩ ⟨Nat.le_of_ble_eq_true rfl, Nat.le_of_ble_eq_true rfl⟩) rfl hcs hN hK hP [0, 1] rfl [0] rfl 0 4 rfl rfl rfl hl.1 rfl (Nat.le_of_ble_eq_true rfl) d_Reader_open_112) (fun r112 hr112 => ?_)
            rw [oc_eq (by omega)] at hr112
            refine lv_iadd hx hb d_Reader_open_115 ?_
            refine lv_istore_n (lv' := [(3, .int ((r98 * 256) + r112)), (5, .int 0), (4, .int 2), (0, .ref h), (1, .int (nI tg)), (2, .int (nI en))]) hx hb d_Reader_open_116 rfl hl (by decide) rfl (fun ls hl => ?_)
            refine lv_iconst (v := 4) hx hb d_Reader_open_117 (by decide) ?_
            refine lv_istore (lv' := [(4, .int 4), (3, .int ((r98 * 256) + r112)), (5, .int 0), (0, .ref h), (1, .int (nI tg)), (2, .int (nI en))]) hx hb d_Reader_open_118 hl (by decide) rfl (fun ls hl => ?_)
            refine lv_sipush (v := 256) hx hb d_Reader_open_120 (by decide) ?_
            refine lv_istore (lv' := [(5, .int 256), (4, .int 4), (3, .int ((r98 * 256) + r112)), (0, .ref h), (1, .int (nI tg)), (2, .int (nI en))]) hx hb d_Reader_open_123 hl (by decide) rfl (fun ls hl => ?_)
            refine lv_goto (tgt := 137) hx hb d_Reader_open_125 (by decide) ?_
            exact k137 ((r98 * 256) + r112, 4, 256) ls (by rw [hr98, hr112]; exact hxJ_B hu (by rw [← hr45]; exact c88)) (lv_sub hl [3, 4, 5, 2, 1, 0] rfl)
        · refine lv_aload_n hx hb d_Reader_open_62 rfl (lv_at hl 3 rfl) ?_
          refine lv_aload_n hx hb d_Reader_open_63 rfl (lv_at hl 3 rfl) ?_
          refine va_get (v := .int (nI pp)) hx hb htb i_CertificateReader hown hK hP 0 rfl rfl 3 (by decide) (htb _ q3_68) (fun _ h9 => h9) rfl d_Reader_open_64 ?_
          refine lv_iconst (v := 2) hx hb d_Reader_open_67 (by decide) ?_
          refine lv_iadd hx hb d_Reader_open_68 ?_
          rw [show ((nI pp) + 2 : Int32) = nI (pp + 2) from nI_add pp 2]
          refine vp_callSi (pu_callU (As := [.int (nI (pp + 2))]) (rest := []) ⟨hx, hb, hml, hown, hts⟩ (cC_octet l dC dI h res t no ki pp pp n w pa ma ex ie cB u (nI (pp + 2)) hu hn) (cu_of (n := 1) hts tbin q3_122 q3_124 q3_123 q3_125 q1_15 q3_127 rfl (by decide +kernel) ⟨rfl, rfl⟩ ⟨Nat.le_of_ble_eq_true rfl, Nat.le_of_ble_eq_true rfl⟩) rfl hcs hN hK hP [0, 1] rfl [0] rfl 0 4 rfl rfl rfl hl.1 rfl (Nat.le_of_ble_eq_true rfl) d_Reader_open_69) (fun r69 hr69 => ?_)
          rw [oc_eq (by omega)] at hr69
          refine lv_istore_n (lv' := [(3, .int r69), (5, .int 0), (4, .int 2), (0, .ref h), (1, .int (nI tg)), (2, .int (nI en))]) hx hb d_Reader_open_72 rfl hl (by decide) rfl (fun ls hl => ?_)
          refine lv_iconst (v := 3) hx hb d_Reader_open_73 (by decide) ?_
          refine lv_istore (lv' := [(4, .int 3), (3, .int r69), (5, .int 0), (0, .ref h), (1, .int (nI tg)), (2, .int (nI en))]) hx hb d_Reader_open_74 hl (by decide) rfl (fun ls hl => ?_)
          refine lv_sipush (v := 128) hx hb d_Reader_open_76 (by decide) ?_
          refine lv_istore (lv' := [(5, .int 128), (4, .int 3), (3, .int r69), (0, .ref h), (1, .int (nI tg)), (2, .int (nI en))]) hx hb d_Reader_open_79 hl (by decide) rfl (fun ls hl => ?_)
          refine lv_goto (tgt := 137) hx hb d_Reader_open_81 (by decide) ?_
          exact k137 (r69, 3, 128) ls (by rw [hr69]; exact hxJ_A hu (by rw [← hr45]; exact c59)) (lv_sub hl [3, 4, 5, 2, 1, 0] rfl)
    · have hge : en ≤ pp := by rw [nI_ltI (by omega) (by omega)] at c25; omega
      refine lv_aload_n hx hb d_Reader_open_28 rfl (lv_at hl 0 rfl) ?_
      refine lv_iload_n hx hb d_Reader_open_29 rfl (lv_at hl 2 rfl) ?_
      refine va_put (v := .int (nI en)) (ty := .int) hx hb htb i_CertificateReader t_CertificateReader t_CertificateReader_ok n_CertificateReader hown hK hP hD hS 0 rfl rfl 5 (by decide) (htb _ q3_74) (fun _ h9 => h9) rfl (by decide +kernel) rfl rfl (Nat.le_of_ble_eq_true rfl) d_Reader_open_30 (fun H30 locs hP hD hS => ?_)
      have hP : va_P (dC, dI) classes [(h, .inr (4, [.ref res, .ref t, .ref no, .int (nI pp), .int (nI pp), .int (nI en), .int pa, .int ma, .int ex, .ref ki])), (t, .inl (cB, n, .inl (tx u)))] H30 := hP
      have hD : va_D A [(h, .inr (4, [.ref res, .ref t, .ref no, .int (nI pp), .int (nI pp), .int (nI en), .int pa, .int ma, .int ex, .ref ki])), (t, .inl (cB, n, .inl (tx u)))] := hD
      refine lv_aload_n hx hb d_Reader_open_33 rfl (lv_at hl 0 rfl) ?_
      refine va_get (v := .int (nI pp)) hx hb htb i_CertificateReader hown hK hP 0 rfl rfl 3 (by decide) (htb _ q3_68) (fun _ h9 => h9) rfl d_Reader_open_34 ?_
      exact W.iret (v := nI pp) hx hb hr (fun t ht hW => ⟨⟨_, (pp, pp, some en), rfl, ⟨by rw [opn_2 hwn hge], by rw [opn_2 hwn hge]⟩, by rw [ht]; exact hP, va_K.moved hW.alike hK, hD⟩, hS.F ht⟩) hS.2.2 d_Reader_open_37
  · refine lv_aload_n hx hb d_Reader_open_15 rfl (lv_at hl 0 rfl) ?_
    refine va_get (v := .int (nI pp)) hx hb htb i_CertificateReader hown hK hP 0 rfl rfl 3 (by decide) (htb _ q3_68) (fun _ h9 => h9) rfl d_Reader_open_16 ?_
    exact W.iret (v := nI pp) hx hb hr (fun t ht hW => ⟨⟨_, (pp, pp, w), rfl, ⟨by rw [opn_1 (wI_s' c12)], by rw [opn_1 (wI_s' c12)]⟩, by rw [ht]; exact hP, va_K.moved hW.alike hK, hD⟩, hS.F ht⟩) hS.2.2 d_Reader_open_19
set_option maxHeartbeats 4000000 in
set_option maxRecDepth 100000 in
theorem cL_open (l : Launch) (dC : Nat → ClassId) (dI : Nat → Nat → Nat) (h res t no ki : Nat) (pp s0 n : Nat) (w : Option Nat) (pa ma ex ie : Int32) (cB : ClassId) (u : Nat → Nat) (tg en : Nat) (sz : Nat) (hu : ∀ j, u j < 256) (hn : n < 2 ^ 30) (hw : ∀ k, w = some k → k < 2 ^ 31) (he : en ≤ n) (hp : pp ≤ n) (hg : tg < 256) : Met l y_Reader_open w_Reader_open ({ frames := 1, cells := 0, slots := 0, locals := 21 }) (mu_P [.ref h, .int (nI tg), .int (nI en)] (dC, dI) [(h, .inr (5, [.ref res, .int ie, .ref t, .ref no, .int (nI pp), .int (nI s0), .int (wI w), .int pa, .int ma, .int ex, .ref ki])), (t, .inl (cB, n, .inl (tx u)))] [(cB, .byte)] sz) (va_Qi (fun r (u' : rS) => u' = (rd_opn u n (pp, s0, w) tg en).1 ∧ r = nI (rd_opn u n (pp, s0, w) tg en).2) (mu_B (dC, dI) [(cB, .byte)] (va_A [(h, .inr (5, [.ref res, .int ie, .ref t, .ref no, .int (nI pp), .int (nI s0), .int (wI w), .int pa, .int ma, .int ex, .ref ki])), (t, .inl (cB, n, .inl (tx u)))] sz) (fun u' : rS => [(h, .inr (5, [.ref res, .int ie, .ref t, .ref no, .int (nI u'.1), .int (nI u'.2.1), .int (wI u'.2.2), .int pa, .int ma, .int ex, .ref ki])), (t, .inl (cB, n, .inl (tx u)))])) (va_A [(h, .inr (5, [.ref res, .int ie, .ref t, .ref no, .int (nI pp), .int (nI s0), .int (wI w), .int pa, .int ma, .int ex, .ref ki])), (t, .inl (cB, n, .inl (tx u)))] sz)) 0 0 (va_A [(h, .inr (5, [.ref res, .int ie, .ref t, .ref no, .int (nI pp), .int (nI s0), .int (wI w), .int pa, .int ma, .int ex, .ref ki])), (t, .inl (cB, n, .inl (tx u)))] sz) := by
  refine Met.ofW (cc := b_Reader_open) (maxL := 6) (ret := (some FieldType.int)) (by decide) rfl ?_
  intro p e s m args below meth c s₁ B hml hv
  obtain ⟨rfl, hsz, hP, hK, hD0, hN⟩ := hv
  have hx := B.exec
  have hb := B.bytes
  have hr := B.returns
  have hts := atoms_spec (ws := w_Reader_open) B.pre
  have tbin : ∀ w ∈ tb, w ∈ w_Reader_open := fun w h => List.mem_cons_of_mem _ h
  have htb : ∀ w ∈ tb, w.before _ s = true := fun w h => hts w (tbin w h)
  have hown : s.vm.findClass "TrustChain$Reader" = some m.cls := findClass_of_methodNamed B.named
  have hlocks := B.notSynchronized
  subst hsz
  have hD := hD0.self (sz := s.heap.size)
  generalize hAe : va_A [(h, .inr (5, [.ref res, .int ie, .ref t, .ref no, .int (nI pp), .int (nI s0), .int (wI w), .int pa, .int ma, .int ex, .ref ki])), (t, .inl (cB, n, .inl (tx u)))] s.heap.size = A at hD ⊢
  have hA : ∀ q : Nat, s.heap.size ≤ q → A q := fun q h => by rw [← hAe]; exact Or.inr h
  have hS : va_S A s.heap s.heap [] := va_S.rf
  have hcs : 0 ≤ (headSpec w_Reader_open ({ frames := 1, cells := 0, slots := 0, locals := 21 })).room.cells ∧ 0 ≤ (headSpec w_Reader_open ({ frames := 1, cells := 0, slots := 0, locals := 21 })).room.slots := ⟨Nat.le_refl _, Nat.le_refl _⟩
  have hP : va_P (dC, dI) classes [(h, .inr (5, [.ref res, .int ie, .ref t, .ref no, .int (nI pp), .int (nI s0), .int (wI w), .int pa, .int ma, .int ex, .ref ki])), (t, .inl (cB, n, .inl (tx u)))] s.heap := hP
  have hl := lv_entry ([.ref h, .int (nI tg), .int (nI en)]) (n := 6) (Nat.le_of_ble_eq_true rfl)
  rw [lg_entry_eq]
  generalize (lg_sl ([.ref h, .int (nI tg), .int (nI en)]) ++ List.replicate (6 - (lg_sl ([.ref h, .int (nI tg), .int (nI en)])).length) Slot.unset).toArray = ls at hl ⊢
  have hl : lv_has ls 6 [(0, .ref h), (1, .int (nI tg)), (2, .int (nI en))] := hl
  refine lv_aload_n hx hb d_Reader_open_0 rfl (lv_at hl 0 rfl) ?_
  refine lv_aload_n hx hb d_Reader_open_1 rfl (lv_at hl 0 rfl) ?_
  refine va_get (v := .int (nI pp)) hx hb htb i_ListReader hown hK hP 0 rfl rfl 4 (by decide) (htb _ q3_68) (fun _ h9 => h9) rfl d_Reader_open_2 ?_
  refine va_put (v := .int (nI pp)) (ty := .int) hx hb htb i_ListReader t_ListReader t_ListReader_ok n_ListReader hown hK hP hD hS 0 rfl rfl 5 (by decide) (htb _ q3_73) (fun _ h9 => h9) rfl (by decide +kernel) rfl rfl (Nat.le_of_ble_eq_true rfl) d_Reader_open_5 (fun H5 locs hP hD hS => ?_)
  have hP : va_P (dC, dI) classes [(h, .inr (5, [.ref res, .int ie, .ref t, .ref no, .int (nI pp), .int (nI pp), .int (wI w), .int pa, .int ma, .int ex, .ref ki])), (t, .inl (cB, n, .inl (tx u)))] H5 := hP
  have hD : va_D A [(h, .inr (5, [.ref res, .int ie, .ref t, .ref no, .int (nI pp), .int (nI pp), .int (wI w), .int pa, .int ma, .int ex, .ref ki])), (t, .inl (cB, n, .inl (tx u)))] := hD
  refine lv_aload_n hx hb d_Reader_open_8 rfl (lv_at hl 0 rfl) ?_
  refine va_get (v := .int (wI w)) hx hb htb i_ListReader hown hK hP 0 rfl rfl 6 (by decide) (htb _ q3_74) (fun _ h9 => h9) rfl d_Reader_open_9 ?_
  refine lv_if_lt (tgt := 20) hx hb d_Reader_open_12 (by decide) (fun c12 => ?_) (fun c12 => ?_)
  · have hwn := wI_n' hw c12
    refine lv_aload_n hx hb d_Reader_open_20 rfl (lv_at hl 0 rfl) ?_
    refine va_get (v := .int (nI pp)) hx hb htb i_ListReader hown hK hP 0 rfl rfl 4 (by decide) (htb _ q3_68) (fun _ h9 => h9) rfl d_Reader_open_21 ?_
    refine lv_iload_n hx hb d_Reader_open_24 rfl (lv_at hl 2 rfl) ?_
    refine lv_icmp_lt (tgt := 38) hx hb d_Reader_open_25 (by decide) (fun c25 => ?_) (fun c25 => ?_)
    · have hlt : pp < en := by rw [nI_ltI (by omega) (by omega)] at c25; exact c25
      refine w_joinA (α := Int32 × Int32 × Int32) (fun a => hxJ u n pp a) (fun a => [(0, .ref h), (1, .int (nI tg)), (2, .int (nI en)), (3, .int a.1), (4, .int a.2.1), (5, .int a.2.2)]) (fun _ => []) 6 137 (fun a ls hJ hl => ?_) (fun k137 => ?_)
      · skip
        refine lv_aload_n hx hb d_Reader_open_137 rfl (lv_at hl 0 rfl) ?_
        refine lv_aload_n hx hb d_Reader_open_138 rfl (lv_at hl 0 rfl) ?_
        refine va_get (v := .int (nI pp)) hx hb htb i_ListReader hown hK hP 0 rfl rfl 4 (by decide) (htb _ q3_68) (fun _ h9 => h9) rfl d_Reader_open_139 ?_
        refine vp_callSi (pu_callU (As := [.int (nI pp)]) (rest := []) ⟨hx, hb, hml, hown, hts⟩ (cL_octet l dC dI h res t no ki pp pp n w pa ma ex ie cB u (nI pp) hu hn) (cu_of (n := 1) hts tbin q3_122 q3_124 q3_123 q3_126 q1_15 q3_127 rfl (by decide +kernel) ⟨rfl, rfl⟩ ⟨Nat.le_of_ble_eq_true rfl, Nat.le_of_ble_eq_true rfl⟩) rfl hcs hN hK hP [0, 1] rfl [0] rfl 0 5 rfl rfl rfl hl.1 rfl (Nat.le_of_ble_eq_true rfl) d_Reader_open_142) (fun r142 hr142 => ?_)
        rw [oc_eq (by omega), oc, if_pos (by omega)] at hr142
        refine lv_iload_n hx hb d_Reader_open_145 rfl (lv_at hl 1 rfl) ?_
        refine lv_icmp_ne (tgt := 168) hx hb d_Reader_open_146 (by decide) (fun c146 => ?_) (fun c146 => ?_)
        · refine lv_aload_n hx hb d_Reader_open_168 rfl (lv_at hl 0 rfl) ?_
          refine lv_aload_n hx hb d_Reader_open_169 rfl (lv_at hl 0 rfl) ?_
          refine va_get (v := .int (nI pp)) hx hb htb i_ListReader hown hK hP 0 rfl rfl 4 (by decide) (htb _ q3_68) (fun _ h9 => h9) rfl d_Reader_open_170 ?_
          refine va_put (v := .int (nI pp)) (ty := .int) hx hb htb i_ListReader t_ListReader t_ListReader_ok n_ListReader hown hK hP hD hS 0 rfl rfl 6 (by decide) (htb _ q3_74) (fun _ h9 => h9) rfl (by decide +kernel) rfl rfl (Nat.le_of_ble_eq_true rfl) d_Reader_open_173 (fun H173 locs hP hD hS => ?_)
          have hP : va_P (dC, dI) classes [(h, .inr (5, [.ref res, .int ie, .ref t, .ref no, .int (nI pp), .int (nI pp), .int (nI pp), .int pa, .int ma, .int ex, .ref ki])), (t, .inl (cB, n, .inl (tx u)))] H173 := hP
          have hD : va_D A [(h, .inr (5, [.ref res, .int ie, .ref t, .ref no, .int (nI pp), .int (nI pp), .int (nI pp), .int pa, .int ma, .int ex, .ref ki])), (t, .inl (cB, n, .inl (tx u)))] := hD
          refine lv_aload_n hx hb d_Reader_open_176 rfl (lv_at hl 0 rfl) ?_
          refine va_get (v := .int (nI pp)) hx hb htb i_ListReader hown hK hP 0 rfl rfl 4 (by decide) (htb _ q3_68) (fun _ h9 => h9) rfl d_Reader_open_177 ?_
          exact W.iret (v := nI pp) hx hb hr (fun t ht hW => ⟨⟨_, (pp, pp, some pp), rfl, ⟨by rw [opn_3 hwn (by omega) (fun k m hq z => c146 (by rw [hr142, z.1]))], by rw [opn_3 hwn (by omega) (fun k m hq z => c146 (by rw [hr142, z.1]))]⟩, by rw [ht]; exact hP, va_K.moved hW.alike hK, hD⟩, hS.F ht⟩) hS.2.2 d_Reader_open_180
        · refine lv_iload_n hx hb d_Reader_open_149 rfl (lv_at hl 3 rfl) ?_
          refine lv_iload hx hb d_Reader_open_150 (lv_at hl 5 rfl) ?_
          refine lv_icmp_lt (tgt := 168) hx hb d_Reader_open_152 (by decide) (fun c152 => ?_) (fun c152 => ?_)
          · refine lv_aload_n hx hb d_Reader_open_168 rfl (lv_at hl 0 rfl) ?_
            refine lv_aload_n hx hb d_Reader_open_169 rfl (lv_at hl 0 rfl) ?_
            refine va_get (v := .int (nI pp)) hx hb htb i_ListReader hown hK hP 0 rfl rfl 4 (by decide) (htb _ q3_68) (fun _ h9 => h9) rfl d_Reader_open_170 ?_
            refine va_put (v := .int (nI pp)) (ty := .int) hx hb htb i_ListReader t_ListReader t_ListReader_ok n_ListReader hown hK hP hD hS 0 rfl rfl 6 (by decide) (htb _ q3_74) (fun _ h9 => h9) rfl (by decide +kernel) rfl rfl (Nat.le_of_ble_eq_true rfl) d_Reader_open_173 (fun H173 locs hP hD hS => ?_)
            have hP : va_P (dC, dI) classes [(h, .inr (5, [.ref res, .int ie, .ref t, .ref no, .int (nI pp), .int (nI pp), .int (nI pp), .int pa, .int ma, .int ex, .ref ki])), (t, .inl (cB, n, .inl (tx u)))] H173 := hP
            have hD : va_D A [(h, .inr (5, [.ref res, .int ie, .ref t, .ref no, .int (nI pp), .int (nI pp), .int (nI pp), .int pa, .int ma, .int ex, .ref ki])), (t, .inl (cB, n, .inl (tx u)))] := hD
            refine lv_aload_n hx hb d_Reader_open_176 rfl (lv_at hl 0 rfl) ?_
            refine va_get (v := .int (nI pp)) hx hb htb i_ListReader hown hK hP 0 rfl rfl 4 (by decide) (htb _ q3_68) (fun _ h9 => h9) rfl d_Reader_open_177 ?_
            exact W.iret (v := nI pp) hx hb hr (fun t ht hW => ⟨⟨_, (pp, pp, some pp), rfl, ⟨by rw [opn_3 hwn (by omega) (fun k m hq => absurd (hq.symm.trans (hxJ_b hJ c152)) (by simp))], by rw [opn_3 hwn (by omega) (fun k m hq => absurd (hq.symm.trans (hxJ_b hJ c152)) (by simp))]⟩, by rw [ht]; exact hP, va_K.moved hW.alike hK, hD⟩, hS.F ht⟩) hS.2.2 d_Reader_open_180
          · refine lv_aload_n hx hb d_Reader_open_155 rfl (lv_at hl 0 rfl) ?_
            refine va_get (v := .int (nI pp)) hx hb htb i_ListReader hown hK hP 0 rfl rfl 4 (by decide) (htb _ q3_68) (fun _ h9 => h9) rfl d_Reader_open_156 ?_
            refine lv_iload hx hb d_Reader_open_159 (lv_at hl 4 rfl) ?_
            refine lv_iadd hx hb d_Reader_open_161 ?_
            refine lv_iload_n hx hb d_Reader_open_162 rfl (lv_at hl 3 rfl) ?_
            refine lv_iadd hx hb d_Reader_open_163 ?_
            refine lv_iload_n hx hb d_Reader_open_164 rfl (lv_at hl 2 rfl) ?_
            refine lv_icmp_le (tgt := 181) hx hb d_Reader_open_165 (by decide) (fun c165 => ?_) (fun c165 => ?_)
            · obtain ⟨k1, m1, hhx, e1, e2, hle⟩ := hxJ_d hJ hn hlt he c152 c165
              refine lv_aload_n hx hb d_Reader_open_181 rfl (lv_at hl 0 rfl) ?_
              refine lv_dup hx hb d_Reader_open_182 rfl ?_
              refine va_get (v := .int (nI pp)) hx hb htb i_ListReader hown hK hP 0 rfl rfl 4 (by decide) (htb _ q3_68) (fun _ h9 => h9) rfl d_Reader_open_183 ?_
              refine lv_iload hx hb d_Reader_open_186 (lv_at hl 4 rfl) ?_
              refine lv_iadd hx hb d_Reader_open_188 ?_
              rw [show ((nI pp) + a.2.1 : Int32) = nI (pp + k1) from by rw [e2]; exact nI_add pp k1]
              refine va_put (v := .int (nI (pp + k1))) (ty := .int) hx hb htb i_ListReader t_ListReader t_ListReader_ok n_ListReader hown hK hP hD hS 0 rfl rfl 4 (by decide) (htb _ q3_68) (fun _ h9 => h9) rfl (by decide +kernel) rfl rfl (Nat.le_of_ble_eq_true rfl) d_Reader_open_189 (fun H189 locs hP hD hS => ?_)
              have hP : va_P (dC, dI) classes [(h, .inr (5, [.ref res, .int ie, .ref t, .ref no, .int (nI (pp + k1)), .int (nI pp), .int (wI w), .int pa, .int ma, .int ex, .ref ki])), (t, .inl (cB, n, .inl (tx u)))] H189 := hP
              have hD : va_D A [(h, .inr (5, [.ref res, .int ie, .ref t, .ref no, .int (nI (pp + k1)), .int (nI pp), .int (wI w), .int pa, .int ma, .int ex, .ref ki])), (t, .inl (cB, n, .inl (tx u)))] := hD
              subst hwn
              refine lv_aload_n hx hb d_Reader_open_192 rfl (lv_at hl 0 rfl) ?_
              refine va_get (v := .int (nI (pp + k1))) hx hb htb i_ListReader hown hK hP 0 rfl rfl 4 (by decide) (htb _ q3_68) (fun _ h9 => h9) rfl d_Reader_open_193 ?_
              refine lv_iload_n hx hb d_Reader_open_196 rfl (lv_at hl 3 rfl) ?_
              refine lv_iadd hx hb d_Reader_open_197 ?_
              rw [show ((nI (pp + k1)) + a.1 : Int32) = nI (pp + k1 + m1) from by rw [e1]; exact nI_add (pp + k1) m1]
              exact W.iret (v := nI (pp + k1 + m1)) hx hb hr (fun t ht hW => ⟨⟨_, (pp + k1, pp, none), rfl, ⟨by rw [opn_4 rfl (by omega) hhx (by rw [hr142, nI_eq (by have := hu pp; omega) (by omega)] at c146; exact c146) hle], by rw [opn_4 rfl (by omega) hhx (by rw [hr142, nI_eq (by have := hu pp; omega) (by omega)] at c146; exact c146) hle]⟩, by rw [ht]; exact hP, va_K.moved hW.alike hK, hD⟩, hS.F ht⟩) hS.2.2 d_Reader_open_198
            · refine lv_aload_n hx hb d_Reader_open_168 rfl (lv_at hl 0 rfl) ?_
              refine lv_aload_n hx hb d_Reader_open_169 rfl (lv_at hl 0 rfl) ?_
              refine va_get (v := .int (nI pp)) hx hb htb i_ListReader hown hK hP 0 rfl rfl 4 (by decide) (htb _ q3_68) (fun _ h9 => h9) rfl d_Reader_open_170 ?_
              refine va_put (v := .int (nI pp)) (ty := .int) hx hb htb i_ListReader t_ListReader t_ListReader_ok n_ListReader hown hK hP hD hS 0 rfl rfl 6 (by decide) (htb _ q3_74) (fun _ h9 => h9) rfl (by decide +kernel) rfl rfl (Nat.le_of_ble_eq_true rfl) d_Reader_open_173 (fun H173 locs hP hD hS => ?_)
              have hP : va_P (dC, dI) classes [(h, .inr (5, [.ref res, .int ie, .ref t, .ref no, .int (nI pp), .int (nI pp), .int (nI pp), .int pa, .int ma, .int ex, .ref ki])), (t, .inl (cB, n, .inl (tx u)))] H173 := hP
              have hD : va_D A [(h, .inr (5, [.ref res, .int ie, .ref t, .ref no, .int (nI pp), .int (nI pp), .int (nI pp), .int pa, .int ma, .int ex, .ref ki])), (t, .inl (cB, n, .inl (tx u)))] := hD
              refine lv_aload_n hx hb d_Reader_open_176 rfl (lv_at hl 0 rfl) ?_
              refine va_get (v := .int (nI pp)) hx hb htb i_ListReader hown hK hP 0 rfl rfl 4 (by decide) (htb _ q3_68) (fun _ h9 => h9) rfl d_Reader_open_177 ?_
              exact W.iret (v := nI pp) hx hb hr (fun t ht hW => ⟨⟨_, (pp, pp, some pp), rfl, ⟨by rw [opn_3 hwn (by omega) (fun k m hq z => hxJ_c hJ hn hlt he c152 c165 k m hq z.2)], by rw [opn_3 hwn (by omega) (fun k m hq z => hxJ_c hJ hn hlt he c152 c165 k m hq z.2)]⟩, by rw [ht]; exact hP, va_K.moved hW.alike hK, hD⟩, hS.F ht⟩) hS.2.2 d_Reader_open_180
      · skip
        refine lv_aload_n hx hb d_Reader_open_38 rfl (lv_at hl 0 rfl) ?_
        refine lv_aload_n hx hb d_Reader_open_39 rfl (lv_at hl 0 rfl) ?_
        refine va_get (v := .int (nI pp)) hx hb htb i_ListReader hown hK hP 0 rfl rfl 4 (by decide) (htb _ q3_68) (fun _ h9 => h9) rfl d_Reader_open_40 ?_
        refine lv_iconst (v := 1) hx hb d_Reader_open_43 (by decide) ?_
        refine lv_iadd hx hb d_Reader_open_44 ?_
        rw [show ((nI pp) + 1 : Int32) = nI (pp + 1) from nI_add pp 1]
        refine vp_callSi (pu_callU (As := [.int (nI (pp + 1))]) (rest := []) ⟨hx, hb, hml, hown, hts⟩ (cL_octet l dC dI h res t no ki pp pp n w pa ma ex ie cB u (nI (pp + 1)) hu hn) (cu_of (n := 1) hts tbin q3_122 q3_124 q3_123 q3_126 q1_15 q3_127 rfl (by decide +kernel) ⟨rfl, rfl⟩ ⟨Nat.le_of_ble_eq_true rfl, Nat.le_of_ble_eq_true rfl⟩) rfl hcs hN hK hP [0, 1] rfl [0] rfl 0 5 rfl rfl rfl hl.1 rfl (Nat.le_of_ble_eq_true rfl) d_Reader_open_45) (fun r45 hr45 => ?_)
        rw [oc_eq (by omega)] at hr45
        refine lv_istore_n (lv' := [(3, .int r45), (0, .ref h), (1, .int (nI tg)), (2, .int (nI en))]) hx hb d_Reader_open_48 rfl hl (by decide) rfl (fun ls hl => ?_)
        refine lv_iconst (v := 2) hx hb d_Reader_open_49 (by decide) ?_
        refine lv_istore (lv' := [(4, .int 2), (3, .int r45), (0, .ref h), (1, .int (nI tg)), (2, .int (nI en))]) hx hb d_Reader_open_50 hl (by decide) rfl (fun ls hl => ?_)
        refine lv_iconst (v := 0) hx hb d_Reader_open_52 (by decide) ?_
        refine lv_istore (lv' := [(5, .int 0), (4, .int 2), (3, .int r45), (0, .ref h), (1, .int (nI tg)), (2, .int (nI en))]) hx hb d_Reader_open_53 hl (by decide) rfl (fun ls hl => ?_)
        refine lv_iload_n hx hb d_Reader_open_55 rfl (lv_at hl 2 rfl) ?_
        refine lv_sipush (v := 129) hx hb d_Reader_open_56 (by decide) ?_
        refine lv_icmp_ne (tgt := 84) hx hb d_Reader_open_59 (by decide) (fun c59 => ?_) (fun c59 => ?_)
        · refine lv_iload_n hx hb d_Reader_open_84 rfl (lv_at hl 2 rfl) ?_
          refine lv_sipush (v := 130) hx hb d_Reader_open_85 (by decide) ?_
          refine lv_icmp_ne (tgt := 128) hx hb d_Reader_open_88 (by decide) (fun c88 => ?_) (fun c88 => ?_)
          · refine lv_iload_n hx hb d_Reader_open_128 rfl (lv_at hl 2 rfl) ?_
            refine lv_sipush (v := 128) hx hb d_Reader_open_129 (by decide) ?_
            refine lv_icmp_lt (tgt := 137) hx hb d_Reader_open_132 (by decide) (fun c132 => ?_) (fun c132 => ?_)
            · exact k137 (r45, 2, 0) ls (by rw [hr45]; exact hxJ_D hu (by rw [← hr45]; exact c59) (by rw [← hr45]; exact c88) (by rw [← hr45]; exact c132)) (lv_sub hl [3, 4, 5, 2, 1, 0] rfl)
            · refine lv_iconst (v := -1) hx hb d_Reader_open_135 (by decide) ?_
              refine lv_istore_n (lv' := [(3, .int (-1)), (5, .int 0), (4, .int 2), (0, .ref h), (1, .int (nI tg)), (2, .int (nI en))]) hx hb d_Reader_open_136 rfl hl (by decide) rfl (fun ls hl => ?_)
              exact k137 (-1, 2, 0) ls (hxJ_C hu (by rw [← hr45]; exact c59) (by rw [← hr45]; exact c88) (by rw [← hr45]; exact c132)) (lv_sub hl [3, 4, 5, 0, 2, 1] rfl)
          · refine lv_aload_n hx hb d_Reader_open_91 rfl (lv_at hl 3 rfl) ?_
            refine lv_aload_n hx hb d_Reader_open_92 rfl (lv_at hl 3 rfl) ?_
            refine va_get (v := .int (nI pp)) hx hb htb i_ListReader hown hK hP 0 rfl rfl 4 (by decide) (htb _ q3_68) (fun _ h9 => h9) rfl d_Reader_open_93 ?_
            refine lv_iconst (v := 2) hx hb d_Reader_open_96 (by decide) ?_
            refine lv_iadd hx hb d_Reader_open_97 ?_
            rw [show ((nI pp) + 2 : Int32) = nI (pp + 2) from nI_add pp 2]
            refine vp_callSi (pu_callU (As := [.int (nI (pp + 2))]) (rest := []) ⟨hx, hb, hml, hown, hts⟩ (cL_octet l dC dI h res t no ki pp pp n w pa ma ex ie cB u (nI (pp + 2)) hu hn) (cu_of (n := 1) hts tbin q3_122 q3_124 q3_123 q3_126 q1_15 q3_127 rfl (by decide +kernel) ⟨rfl, rfl⟩ ⟨Nat.le_of_ble_eq_true rfl, Nat.le_of_ble_eq_true rfl⟩) rfl hcs hN hK hP [0, 1] rfl [0] rfl 0 5 rfl rfl rfl hl.1 rfl (Nat.le_of_ble_eq_true rfl) d_Reader_open_98) (fun r98 hr98 => ?_)
            rw [oc_eq (by omega)] at hr98
            refine lv_sipush (v := 256) hx hb d_Reader_open_101 (by decide) ?_
            refine lv_imul hx hb d_Reader_open_104 ?_
            refine lv_aload_n hx hb d_Reader_open_105 rfl (lv_at hl 3 rfl) ?_
            refine lv_aload_n hx hb d_Reader_open_106 rfl (lv_at hl 3 rfl) ?_
            refine va_get (v := .int (nI pp)) hx hb htb i_ListReader hown hK hP 0 rfl rfl 4 (by decide) (htb _ q3_68) (fun _ h9 => h9) rfl d_Reader_open_107 ?_
            refine lv_iconst (v := 3) hx hb d_Reader_open_110 (by decide) ?_
            refine lv_iadd hx hb d_Reader_open_111 ?_
            rw [show ((nI pp) + 3 : Int32) = nI (pp + 3) from nI_add pp 3]
            refine vp_callSi (pu_callU (As := [.int (nI (pp + 3))]) (rest := [.int (r98 * 256)]) ⟨hx, hb, hml, hown, hts⟩ (cL_octet l dC dI h res t no ki pp pp n w pa ma ex ie cB u (nI (pp + 3)) hu hn) (cu_of (n := 1) hts tbin q3_122 q3_124 q3_123 q3_126 q1_15 q3_127 rfl (by decide +kernel) ⟨rfl, rfl⟩ ⟨Nat.le_of_ble_eq_true rfl, Nat.le_of_ble_eq_true rfl⟩) rfl hcs hN hK hP [0, 1] rfl [0] rfl 0 5 rfl rfl rfl hl.1 rfl (Nat.le_of_ble_eq_true rfl) d_Reader_open_112) (fun r112 hr112 => ?_)
            rw [oc_eq (by omega)] at hr112
            refine lv_iadd hx hb d_Reader_open_115 ?_
            refine lv_istore_n (lv' := [(3, .int ((r98 * 256) + r112)), (5, .int 0), (4, .int 2), (0, .ref h), (1, .int (nI tg)), (2, .int (nI en))]) hx hb d_Reader_open_116 rfl hl (by decide) rfl (fun ls hl => ?_)
            refine lv_iconst (v := 4) hx hb d_Reader_open_117 (by decide) ?_
            refine lv_istore (lv' := [(4, .int 4), (3, .int ((r98 * 256) + r112)), (5, .int 0), (0, .ref h), (1, .int (nI tg)), (2, .int (nI en))]) hx hb d_Reader_open_118 hl (by decide) rfl (fun ls hl => ?_)
            refine lv_sipush (v := 256) hx hb d_Reader_open_120 (by decide) ?_
            refine lv_istore (lv' := [(5, .int 256), (4, .int 4), (3, .int ((r98 * 256) + r112)), (0, .ref h), (1, .int (nI tg)), (2, .int (nI en))]) hx hb d_Reader_open_123 hl (by decide) rfl (fun ls hl => ?_)
            refine lv_goto (tgt := 137) hx hb d_Reader_open_125 (by decide) ?_
            exact k137 ((r98 * 256) + r112, 4, 256) ls (by rw [hr98, hr112]; exact hxJ_B hu (by rw [← hr45]; exact c88)) (lv_sub hl [3, 4, 5, 2, 1, 0] rfl)
        · refine lv_aload_n hx hb d_Reader_open_62 rfl (lv_at hl 3 rfl) ?_
          refine lv_aload_n hx hb d_Reader_open_63 rfl (lv_at hl 3 rfl) ?_
          refine va_get (v := .int (nI pp)) hx hb htb i_ListReader hown hK hP 0 rfl rfl 4 (by decide) (htb _ q3_68) (fun _ h9 => h9) rfl d_Reader_open_64 ?_
          refine lv_iconst (v := 2) hx hb d_Reader_open_67 (by decide) ?_
          refine lv_iadd hx hb d_Reader_open_68 ?_
          rw [show ((nI pp) + 2 : Int32) = nI (pp + 2) from nI_add pp 2]
          refine vp_callSi (pu_callU (As := [.int (nI (pp + 2))]) (rest := []) ⟨hx, hb, hml, hown, hts⟩ (cL_octet l dC dI h res t no ki pp pp n w pa ma ex ie cB u (nI (pp + 2)) hu hn) (cu_of (n := 1) hts tbin q3_122 q3_124 q3_123 q3_126 q1_15 q3_127 rfl (by decide +kernel) ⟨rfl, rfl⟩ ⟨Nat.le_of_ble_eq_true rfl, Nat.le_of_ble_eq_true rfl⟩) rfl hcs hN hK hP [0, 1] rfl [0] rfl 0 5 rfl rfl rfl hl.1 rfl (Nat.le_of_ble_eq_true rfl) d_Reader_open_69) (fun r69 hr69 => ?_)
          rw [oc_eq (by omega)] at hr69
          refine lv_istore_n (lv' := [(3, .int r69), (5, .int 0), (4, .int 2), (0, .ref h), (1, .int (nI tg)), (2, .int (nI en))]) hx hb d_Reader_open_72 rfl hl (by decide) rfl (fun ls hl => ?_)
          refine lv_iconst (v := 3) hx hb d_Reader_open_73 (by decide) ?_
          refine lv_istore (lv' := [(4, .int 3), (3, .int r69), (5, .int 0), (0, .ref h), (1, .int (nI tg)), (2, .int (nI en))]) hx hb d_Reader_open_74 hl (by decide) rfl (fun ls hl => ?_)
          refine lv_sipush (v := 128) hx hb d_Reader_open_76 (by decide) ?_
          refine lv_istore (lv' := [(5, .int 128), (4, .int 3), (3, .int r69), (0, .ref h), (1, .int (nI tg)), (2, .int (nI en))]) hx hb d_Reader_open_79 hl (by decide) rfl (fun ls hl => ?_)
          refine lv_goto (tgt := 137) hx hb d_Reader_open_81 (by decide) ?_
          exact k137 (r69, 3, 128) ls (by rw [hr69]; exact hxJ_A hu (by rw [← hr45]; exact c59)) (lv_sub hl [3, 4, 5, 2, 1, 0] rfl)
    · have hge : en ≤ pp := by rw [nI_ltI (by omega) (by omega)] at c25; omega
      refine lv_aload_n hx hb d_Reader_open_28 rfl (lv_at hl 0 rfl) ?_
      refine lv_iload_n hx hb d_Reader_open_29 rfl (lv_at hl 2 rfl) ?_
      refine va_put (v := .int (nI en)) (ty := .int) hx hb htb i_ListReader t_ListReader t_ListReader_ok n_ListReader hown hK hP hD hS 0 rfl rfl 6 (by decide) (htb _ q3_74) (fun _ h9 => h9) rfl (by decide +kernel) rfl rfl (Nat.le_of_ble_eq_true rfl) d_Reader_open_30 (fun H30 locs hP hD hS => ?_)
      have hP : va_P (dC, dI) classes [(h, .inr (5, [.ref res, .int ie, .ref t, .ref no, .int (nI pp), .int (nI pp), .int (nI en), .int pa, .int ma, .int ex, .ref ki])), (t, .inl (cB, n, .inl (tx u)))] H30 := hP
      have hD : va_D A [(h, .inr (5, [.ref res, .int ie, .ref t, .ref no, .int (nI pp), .int (nI pp), .int (nI en), .int pa, .int ma, .int ex, .ref ki])), (t, .inl (cB, n, .inl (tx u)))] := hD
      refine lv_aload_n hx hb d_Reader_open_33 rfl (lv_at hl 0 rfl) ?_
      refine va_get (v := .int (nI pp)) hx hb htb i_ListReader hown hK hP 0 rfl rfl 4 (by decide) (htb _ q3_68) (fun _ h9 => h9) rfl d_Reader_open_34 ?_
      exact W.iret (v := nI pp) hx hb hr (fun t ht hW => ⟨⟨_, (pp, pp, some en), rfl, ⟨by rw [opn_2 hwn hge], by rw [opn_2 hwn hge]⟩, by rw [ht]; exact hP, va_K.moved hW.alike hK, hD⟩, hS.F ht⟩) hS.2.2 d_Reader_open_37
  · refine lv_aload_n hx hb d_Reader_open_15 rfl (lv_at hl 0 rfl) ?_
    refine va_get (v := .int (nI pp)) hx hb htb i_ListReader hown hK hP 0 rfl rfl 4 (by decide) (htb _ q3_68) (fun _ h9 => h9) rfl d_Reader_open_16 ?_
    exact W.iret (v := nI pp) hx hb hr (fun t ht hW => ⟨⟨_, (pp, pp, w), rfl, ⟨by rw [opn_1 (wI_s' c12)], by rw [opn_1 (wI_s' c12)]⟩, by rw [ht]; exact hP, va_K.moved hW.alike hK, hD⟩, hS.F ht⟩) hS.2.2 d_Reader_open_19
end
section
/-! TrustChain.Reader: small methods that change nothing. -/
def dg (u : Nat → Nat) (n k : Nat) : Int32 := (oc u n k - 48) * 10 + oc u n (k + 1) - 48
def digsN (u : Nat → Nat) (n a b : Nat) : Prop := ∀ j, a ≤ j → j < b → j < n ∧ 48 ≤ u j ∧ u j ≤ 57
theorem digsN_s {u : Nat → Nat} {n a k : Nat} (h : digsN u n a k) (h2 : k < n ∧ 48 ≤ u k ∧ u k ≤ 57) : digsN u n a (k + 1) := fun j h1 h3 => by
  rcases Nat.lt_succ_iff_lt_or_eq.mp h3 with q | q
  · exact h j h1 q
  · rw [q]; exact h2
theorem oc_dig {u : Nat → Nat} {n j : Nat} (hu : ∀ j, u j < 256) (h1 : ¬ oc u n j < 48) (h2 : oc u n j ≤ 57) : j < n ∧ 48 ≤ u j ∧ u j ≤ 57 := by
  unfold oc at h1 h2
  by_cases h : j < n
  · have hq := hu j
    rw [if_pos h, show (48 : Int32) = nI 48 from rfl, nI_ltI (by omega) (by omega)] at h1
    rw [if_pos h, show (57 : Int32) = nI 57 from rfl, nI_leI (by omega) (by omega)] at h2
    exact ⟨h, by omega, by omega⟩
  · rw [if_neg h] at h1
    exact absurd (by decide) h1
theorem oc_nod {u : Nat → Nat} {n j : Nat} (h : oc u n j < 48 ∨ ¬ oc u n j ≤ 57) : ¬ (j < n ∧ 48 ≤ u j ∧ u j ≤ 57) := fun q => by
  have e : oc u n j = nI (u j) := by rw [oc, if_pos q.1]
  rw [e, show (48 : Int32) = nI 48 from rfl, nI_ltI (by omega) (by omega), show (57 : Int32) = nI 57 from rfl, nI_leI (by omega) (by omega)] at h
  omega
/-- a leap year, as Java asks for it -/
def lpI (y : Int32) : Prop := y - y / 4 * 4 = 0 ∧ (¬ y - y / 100 * 100 = 0 ∨ y - y / 400 * 400 = 0)
/-- an OID's octets: what stands behind k of them: none if a number began with 80; else whether the next begins a number -/
def oidG (u : Nat → Nat) (a : Nat) : Nat → Option Bool
  | 0 => some true
  | k + 1 => match oidG u a k with
    | none => none
    | some f => if f = true ∧ u (a + k) = 128 then none else some (decide (u (a + k) < 128))
def bI (f : Bool) : Int32 := if f = true then 1 else 0
theorem oidG_n {u : Nat → Nat} {a k : Nat} (h : oidG u a k = none) : ∀ z, k ≤ z → oidG u a z = none := by
  intro z hz
  induction z with
  | zero => have : k = 0 := by omega
            rw [this] at h; exact h
  | succ z ih =>
    rcases Nat.lt_or_eq_of_le hz with q | q
    · simp [oidG, ih (by omega)]
    · rw [← q]; exact h
theorem oidG_s {u : Nat → Nat} {a k : Nat} {f : Bool} (h : oidG u a k = some f) (h2 : ¬ (f = true ∧ u (a + k) = 128)) : oidG u a (k + 1) = some (decide (u (a + k) < 128)) := by
  simp only [oidG, h, if_neg h2]
theorem oidG_0 {u : Nat → Nat} {a k : Nat} {f : Bool} (h : oidG u a k = some f) (h2 : f = true ∧ u (a + k) = 128) : oidG u a (k + 1) = none := by
  simp only [oidG, h, if_pos h2]
theorem bI_0 {f : Bool} (h : bI f = 0) : f = false := by cases f with | false => rfl | true => exact absurd h (by decide)
theorem bI_1 {f : Bool} (h : ¬ bI f = 0) : f = true := by cases f with | true => rfl | false => exact absurd rfl h
def oidOK (u : Nat → Nat) (a b : Nat) : Prop := a < b ∧ oidG u a (b - a) = some true
theorem oc_128 {u : Nat → Nat} {n j : Nat} (hu : ∀ j, u j < 256) (hj : j < n) : (oc u n j = 128 ↔ u j = 128) ∧ (128 ≤ oc u n j ↔ 128 ≤ u j) := by
  have hq := hu j
  rw [oc, if_pos hj, show (128 : Int32) = nI 128 from rfl, nI_eq (by omega) (by omega), nI_leI (by omega) (by omega)]
  exact ⟨Iff.rfl, Iff.rfl⟩
/-- 2.5.29.x -/
def kdN (u : Nat → Nat) (a b : Nat) : Int32 := if b - a = 3 ∧ u a = 85 ∧ u (a + 1) = 29 then nI (u (a + 2)) else -1
theorem inc_m1 (x : Int32) : x + Int32.ofInt (-1) = x + (-1) := by rw [show Int32.ofInt (-1) = -1 from by decide]
/-- UTF-8: how many octets are wanted, the least number, the number as far -/
def utL (x : Int32) : Int32 := if 224 ≤ x then (if 240 ≤ x then 3 else 2) else 1
def utM (z : Int32) : Int32 := if z = 1 then 128 else if z = 2 then 2048 else 65536
def utP (x q : Int32) : Int32 := (q <<< ((6 : Int32) &&& 31)) ||| (x &&& 63)
def utBad (z least q : Int32) : Prop := z = 0 ∧ (q < least ∨ 1114111 < q ∨ (¬ q < 55296 ∧ ¬ 57343 < q))
noncomputable def utS (x : Int32) (a : Int32 × Int32 × Int32) : Option (Int32 × Int32 × Int32) := by
  classical
  exact if a.1 ≤ 0 then (if x < 128 then some a else if x < 192 ∨ ¬ x < 248 then none else some (utL x, utM (utL x), x &&& ((63 : Int32) >>> (utL x &&& 31))))
    else if ¬ x &&& 192 = 128 ∨ utBad (a.1 + (-1)) a.2.1 (utP x a.2.2) then none else some (a.1 + (-1), a.2.1, utP x a.2.2)
noncomputable def utG (u : Nat → Nat) (a : Nat) : Nat → Option (Int32 × Int32 × Int32)
  | 0 => some (0, 0, 0)
  | k + 1 => match utG u a k with
    | none => none
    | some z => utS (nI (u (a + k))) z
def utOK (u : Nat → Nat) (a b : Nat) : Prop := ∃ z, utG u a (b - a) = some z ∧ z.1 = 0
theorem utG_s {u : Nat → Nat} {a k : Nat} {z z' : Int32 × Int32 × Int32} (h : utG u a k = some z) (h2 : utS (nI (u (a + k))) z = some z') : utG u a (k + 1) = some z' := by
  simp only [utG, h, h2]
theorem utG_n {u : Nat → Nat} {a k : Nat} {z : Int32 × Int32 × Int32} (h : utG u a k = some z) (h2 : utS (nI (u (a + k))) z = none) : ∀ y, k < y → utG u a y = none := by
  intro y hy
  induction y with
  | zero => omega
  | succ y ih =>
    rcases Nat.lt_or_eq_of_le (Nat.le_of_lt_succ hy) with q | q
    · simp only [utG, ih q]
    · subst q; simp only [utG, h, h2]
section UTS
variable {x z1 z2 z3 : Int32}
theorem utS_1 (h : ¬ z1 ≤ 0) (h1 : x &&& 192 = 128) (h2 : ¬ utBad (z1 + (-1)) z2 (utP x z3)) : utS x (z1, z2, z3) = some (z1 + (-1), z2, utP x z3) := by
  unfold utS; simp only [if_neg h]; rw [if_neg (fun q => q.elim (fun z => z h1) h2)]
theorem utS_2 (h : ¬ z1 ≤ 0) (h1 : ¬ x &&& 192 = 128 ∨ utBad (z1 + (-1)) z2 (utP x z3)) : utS x (z1, z2, z3) = none := by
  unfold utS; simp only [if_neg h]; rw [if_pos h1]
theorem utS_3 (h : z1 ≤ 0) (h1 : x < 128) : utS x (z1, z2, z3) = some (z1, z2, z3) := by
  unfold utS; simp only [if_pos h, if_pos h1]
theorem utS_4 (h : z1 ≤ 0) (h1 : ¬ x < 128) (h2 : x < 192 ∨ ¬ x < 248) : utS x (z1, z2, z3) = none := by
  unfold utS; simp only [if_pos h, if_neg h1, if_pos h2]
theorem utS_5 (h : z1 ≤ 0) (h1 : ¬ x < 128) (h2 : ¬ x < 192) (h3 : x < 248) : utS x (z1, z2, z3) = some (utL x, utM (utL x), x &&& ((63 : Int32) >>> (utL x &&& 31))) := by
  unfold utS; simp only [if_pos h, if_neg h1]; rw [if_neg (fun q => q.elim h2 (fun z => z h3))]
end UTS
theorem ut_no {u : Nat → Nat} {a b k : Nat} {z : Int32 × Int32 × Int32} (h : utG u a k = some z) (h2 : utS (nI (u (a + k))) z = none) (hk : k < b - a) : ¬ utOK u a b := fun q => by
  obtain ⟨y, h1, -⟩ := q
  rw [utG_n h h2 (b - a) hk] at h1
  cases h1

def y_Reader_digits : MethodName := ⟨"TrustChain$Reader", "digits", "(I)I"⟩
abbrev b_Reader_digits : ByteArray := prog_8_method_23_code
def w_Reader_digits : List Cond := Cond.code y_Reader_digits b_Reader_digits 2 ((some FieldType.int)) :: tb
theorem d_Reader_digits_0 : decode b_Reader_digits 0 = .ok (.aload_n 0, 1) := by decide +kernel
theorem d_Reader_digits_1 : decode b_Reader_digits 1 = .ok (.iload_n 1, 1) := by decide +kernel
theorem d_Reader_digits_2 : decode b_Reader_digits 2 = .ok (.invokevirtual 54, 3) := by decide +kernel
theorem d_Reader_digits_5 : decode b_Reader_digits 5 = .ok (.bipush 48, 2) := by decide +kernel
theorem d_Reader_digits_7 : decode b_Reader_digits 7 = .ok (.isub, 1) := by decide +kernel
theorem d_Reader_digits_8 : decode b_Reader_digits 8 = .ok (.bipush 10, 2) := by decide +kernel
theorem d_Reader_digits_10 : decode b_Reader_digits 10 = .ok (.imul, 1) := by decide +kernel
theorem d_Reader_digits_11 : decode b_Reader_digits 11 = .ok (.aload_n 0, 1) := by decide +kernel
theorem d_Reader_digits_12 : decode b_Reader_digits 12 = .ok (.iload_n 1, 1) := by decide +kernel
theorem d_Reader_digits_13 : decode b_Reader_digits 13 = .ok (.iconst 1, 1) := by decide +kernel
theorem d_Reader_digits_14 : decode b_Reader_digits 14 = .ok (.iadd, 1) := by decide +kernel
theorem d_Reader_digits_15 : decode b_Reader_digits 15 = .ok (.invokevirtual 54, 3) := by decide +kernel
theorem d_Reader_digits_18 : decode b_Reader_digits 18 = .ok (.iadd, 1) := by decide +kernel
theorem d_Reader_digits_19 : decode b_Reader_digits 19 = .ok (.bipush 48, 2) := by decide +kernel
theorem d_Reader_digits_21 : decode b_Reader_digits 21 = .ok (.isub, 1) := by decide +kernel
theorem d_Reader_digits_22 : decode b_Reader_digits 22 = .ok (.ireturn, 1) := by decide +kernel
def y_Reader_areDigits : MethodName := ⟨"TrustChain$Reader", "areDigits", "(II)Z"⟩
abbrev b_Reader_areDigits : ByteArray := prog_8_method_24_code
def w_Reader_areDigits : List Cond := Cond.code y_Reader_areDigits b_Reader_areDigits 4 ((some FieldType.boolean)) :: tb
theorem d_Reader_areDigits_0 : decode b_Reader_areDigits 0 = .ok (.iload_n 1, 1) := by decide +kernel
theorem d_Reader_areDigits_1 : decode b_Reader_areDigits 1 = .ok (.istore_n 3, 1) := by decide +kernel
theorem d_Reader_areDigits_2 : decode b_Reader_areDigits 2 = .ok (.iload_n 3, 1) := by decide +kernel
theorem d_Reader_areDigits_3 : decode b_Reader_areDigits 3 = .ok (.iload_n 2, 1) := by decide +kernel
theorem d_Reader_areDigits_4 : decode b_Reader_areDigits 4 = .ok (.if_icmp .ge 31, 3) := by decide +kernel
theorem d_Reader_areDigits_7 : decode b_Reader_areDigits 7 = .ok (.aload_n 0, 1) := by decide +kernel
theorem d_Reader_areDigits_8 : decode b_Reader_areDigits 8 = .ok (.iload_n 3, 1) := by decide +kernel
theorem d_Reader_areDigits_9 : decode b_Reader_areDigits 9 = .ok (.invokevirtual 54, 3) := by decide +kernel
theorem d_Reader_areDigits_12 : decode b_Reader_areDigits 12 = .ok (.bipush 48, 2) := by decide +kernel
theorem d_Reader_areDigits_14 : decode b_Reader_areDigits 14 = .ok (.if_icmp .lt 13, 3) := by decide +kernel
theorem d_Reader_areDigits_17 : decode b_Reader_areDigits 17 = .ok (.aload_n 0, 1) := by decide +kernel
theorem d_Reader_areDigits_18 : decode b_Reader_areDigits 18 = .ok (.iload_n 3, 1) := by decide +kernel
theorem d_Reader_areDigits_19 : decode b_Reader_areDigits 19 = .ok (.invokevirtual 54, 3) := by decide +kernel
theorem d_Reader_areDigits_22 : decode b_Reader_areDigits 22 = .ok (.bipush 57, 2) := by decide +kernel
theorem d_Reader_areDigits_24 : decode b_Reader_areDigits 24 = .ok (.if_icmp .le 5, 3) := by decide +kernel
theorem d_Reader_areDigits_27 : decode b_Reader_areDigits 27 = .ok (.iconst 0, 1) := by decide +kernel
theorem d_Reader_areDigits_28 : decode b_Reader_areDigits 28 = .ok (.ireturn, 1) := by decide +kernel
theorem d_Reader_areDigits_29 : decode b_Reader_areDigits 29 = .ok (.iinc 3 1, 3) := by decide +kernel
theorem d_Reader_areDigits_32 : decode b_Reader_areDigits 32 = .ok (.goto (-30), 3) := by decide +kernel
theorem d_Reader_areDigits_35 : decode b_Reader_areDigits 35 = .ok (.iconst 1, 1) := by decide +kernel
theorem d_Reader_areDigits_36 : decode b_Reader_areDigits 36 = .ok (.ireturn, 1) := by decide +kernel
def y_Reader_isLeap : MethodName := ⟨"TrustChain$Reader", "isLeap", "(I)Z"⟩
abbrev b_Reader_isLeap : ByteArray := prog_8_method_25_code
def w_Reader_isLeap : List Cond := Cond.code y_Reader_isLeap b_Reader_isLeap 1 ((some FieldType.boolean)) :: tb
theorem d_Reader_isLeap_0 : decode b_Reader_isLeap 0 = .ok (.iload_n 0, 1) := by decide +kernel
theorem d_Reader_isLeap_1 : decode b_Reader_isLeap 1 = .ok (.iconst 4, 1) := by decide +kernel
theorem d_Reader_isLeap_2 : decode b_Reader_isLeap 2 = .ok (.irem, 1) := by decide +kernel
theorem d_Reader_isLeap_3 : decode b_Reader_isLeap 3 = .ok (.ifCond .ne 22, 3) := by decide +kernel
theorem d_Reader_isLeap_6 : decode b_Reader_isLeap 6 = .ok (.iload_n 0, 1) := by decide +kernel
theorem d_Reader_isLeap_7 : decode b_Reader_isLeap 7 = .ok (.bipush 100, 2) := by decide +kernel
theorem d_Reader_isLeap_9 : decode b_Reader_isLeap 9 = .ok (.irem, 1) := by decide +kernel
theorem d_Reader_isLeap_10 : decode b_Reader_isLeap 10 = .ok (.ifCond .ne 11, 3) := by decide +kernel
theorem d_Reader_isLeap_13 : decode b_Reader_isLeap 13 = .ok (.iload_n 0, 1) := by decide +kernel
theorem d_Reader_isLeap_14 : decode b_Reader_isLeap 14 = .ok (.sipush 400, 3) := by decide +kernel
theorem d_Reader_isLeap_17 : decode b_Reader_isLeap 17 = .ok (.irem, 1) := by decide +kernel
theorem d_Reader_isLeap_18 : decode b_Reader_isLeap 18 = .ok (.ifCond .ne 7, 3) := by decide +kernel
theorem d_Reader_isLeap_21 : decode b_Reader_isLeap 21 = .ok (.iconst 1, 1) := by decide +kernel
theorem d_Reader_isLeap_22 : decode b_Reader_isLeap 22 = .ok (.goto 4, 3) := by decide +kernel
theorem d_Reader_isLeap_25 : decode b_Reader_isLeap 25 = .ok (.iconst 0, 1) := by decide +kernel
theorem d_Reader_isLeap_26 : decode b_Reader_isLeap 26 = .ok (.ireturn, 1) := by decide +kernel
def y_Reader_isOid : MethodName := ⟨"TrustChain$Reader", "isOid", "(II)Z"⟩
abbrev b_Reader_isOid : ByteArray := prog_8_method_28_code
def w_Reader_isOid : List Cond := Cond.code y_Reader_isOid b_Reader_isOid 5 ((some FieldType.boolean)) :: tb
theorem d_Reader_isOid_0 : decode b_Reader_isOid 0 = .ok (.iconst 1, 1) := by decide +kernel
theorem d_Reader_isOid_1 : decode b_Reader_isOid 1 = .ok (.istore_n 3, 1) := by decide +kernel
theorem d_Reader_isOid_2 : decode b_Reader_isOid 2 = .ok (.iload_n 1, 1) := by decide +kernel
theorem d_Reader_isOid_3 : decode b_Reader_isOid 3 = .ok (.istore 4, 2) := by decide +kernel
theorem d_Reader_isOid_5 : decode b_Reader_isOid 5 = .ok (.iload 4, 2) := by decide +kernel
theorem d_Reader_isOid_7 : decode b_Reader_isOid 7 = .ok (.iload_n 2, 1) := by decide +kernel
theorem d_Reader_isOid_8 : decode b_Reader_isOid 8 = .ok (.if_icmp .ge 45, 3) := by decide +kernel
theorem d_Reader_isOid_11 : decode b_Reader_isOid 11 = .ok (.iload_n 3, 1) := by decide +kernel
theorem d_Reader_isOid_12 : decode b_Reader_isOid 12 = .ok (.ifCond .eq 17, 3) := by decide +kernel
theorem d_Reader_isOid_15 : decode b_Reader_isOid 15 = .ok (.aload_n 0, 1) := by decide +kernel
theorem d_Reader_isOid_16 : decode b_Reader_isOid 16 = .ok (.iload 4, 2) := by decide +kernel
theorem d_Reader_isOid_18 : decode b_Reader_isOid 18 = .ok (.invokevirtual 54, 3) := by decide +kernel
theorem d_Reader_isOid_21 : decode b_Reader_isOid 21 = .ok (.sipush 128, 3) := by decide +kernel
theorem d_Reader_isOid_24 : decode b_Reader_isOid 24 = .ok (.if_icmp .ne 5, 3) := by decide +kernel
theorem d_Reader_isOid_27 : decode b_Reader_isOid 27 = .ok (.iconst 0, 1) := by decide +kernel
theorem d_Reader_isOid_28 : decode b_Reader_isOid 28 = .ok (.ireturn, 1) := by decide +kernel
theorem d_Reader_isOid_29 : decode b_Reader_isOid 29 = .ok (.aload_n 0, 1) := by decide +kernel
theorem d_Reader_isOid_30 : decode b_Reader_isOid 30 = .ok (.iload 4, 2) := by decide +kernel
theorem d_Reader_isOid_32 : decode b_Reader_isOid 32 = .ok (.invokevirtual 54, 3) := by decide +kernel
theorem d_Reader_isOid_35 : decode b_Reader_isOid 35 = .ok (.sipush 128, 3) := by decide +kernel
theorem d_Reader_isOid_38 : decode b_Reader_isOid 38 = .ok (.if_icmp .ge 7, 3) := by decide +kernel
theorem d_Reader_isOid_41 : decode b_Reader_isOid 41 = .ok (.iconst 1, 1) := by decide +kernel
theorem d_Reader_isOid_42 : decode b_Reader_isOid 42 = .ok (.goto 4, 3) := by decide +kernel
theorem d_Reader_isOid_45 : decode b_Reader_isOid 45 = .ok (.iconst 0, 1) := by decide +kernel
theorem d_Reader_isOid_46 : decode b_Reader_isOid 46 = .ok (.istore_n 3, 1) := by decide +kernel
theorem d_Reader_isOid_47 : decode b_Reader_isOid 47 = .ok (.iinc 4 1, 3) := by decide +kernel
theorem d_Reader_isOid_50 : decode b_Reader_isOid 50 = .ok (.goto (-45), 3) := by decide +kernel
theorem d_Reader_isOid_53 : decode b_Reader_isOid 53 = .ok (.iload_n 2, 1) := by decide +kernel
theorem d_Reader_isOid_54 : decode b_Reader_isOid 54 = .ok (.iload_n 1, 1) := by decide +kernel
theorem d_Reader_isOid_55 : decode b_Reader_isOid 55 = .ok (.if_icmp .le 11, 3) := by decide +kernel
theorem d_Reader_isOid_58 : decode b_Reader_isOid 58 = .ok (.iload_n 3, 1) := by decide +kernel
theorem d_Reader_isOid_59 : decode b_Reader_isOid 59 = .ok (.ifCond .eq 7, 3) := by decide +kernel
theorem d_Reader_isOid_62 : decode b_Reader_isOid 62 = .ok (.iconst 1, 1) := by decide +kernel
theorem d_Reader_isOid_63 : decode b_Reader_isOid 63 = .ok (.goto 4, 3) := by decide +kernel
theorem d_Reader_isOid_66 : decode b_Reader_isOid 66 = .ok (.iconst 0, 1) := by decide +kernel
theorem d_Reader_isOid_67 : decode b_Reader_isOid 67 = .ok (.ireturn, 1) := by decide +kernel
def y_Reader_kindNumber : MethodName := ⟨"TrustChain$Reader", "kindNumber", "(LTrustChain$Slice;)I"⟩
abbrev b_Reader_kindNumber : ByteArray := prog_8_method_33_code
def w_Reader_kindNumber : List Cond := Cond.code y_Reader_kindNumber b_Reader_kindNumber 1 ((some FieldType.int)) :: tb
theorem d_Reader_kindNumber_0 : decode b_Reader_kindNumber 0 = .ok (.aload_n 0, 1) := by decide +kernel
theorem d_Reader_kindNumber_1 : decode b_Reader_kindNumber 1 = .ok (.invokevirtual 73, 3) := by decide +kernel
theorem d_Reader_kindNumber_4 : decode b_Reader_kindNumber 4 = .ok (.iconst 3, 1) := by decide +kernel
theorem d_Reader_kindNumber_5 : decode b_Reader_kindNumber 5 = .ok (.if_icmp .ne 31, 3) := by decide +kernel
theorem d_Reader_kindNumber_8 : decode b_Reader_kindNumber 8 = .ok (.aload_n 0, 1) := by decide +kernel
theorem d_Reader_kindNumber_9 : decode b_Reader_kindNumber 9 = .ok (.iconst 0, 1) := by decide +kernel
theorem d_Reader_kindNumber_10 : decode b_Reader_kindNumber 10 = .ok (.invokevirtual 70, 3) := by decide +kernel
theorem d_Reader_kindNumber_13 : decode b_Reader_kindNumber 13 = .ok (.bipush 85, 2) := by decide +kernel
theorem d_Reader_kindNumber_15 : decode b_Reader_kindNumber 15 = .ok (.if_icmp .ne 21, 3) := by decide +kernel
theorem d_Reader_kindNumber_18 : decode b_Reader_kindNumber 18 = .ok (.aload_n 0, 1) := by decide +kernel
theorem d_Reader_kindNumber_19 : decode b_Reader_kindNumber 19 = .ok (.iconst 1, 1) := by decide +kernel
theorem d_Reader_kindNumber_20 : decode b_Reader_kindNumber 20 = .ok (.invokevirtual 70, 3) := by decide +kernel
theorem d_Reader_kindNumber_23 : decode b_Reader_kindNumber 23 = .ok (.bipush 29, 2) := by decide +kernel
theorem d_Reader_kindNumber_25 : decode b_Reader_kindNumber 25 = .ok (.if_icmp .ne 11, 3) := by decide +kernel
theorem d_Reader_kindNumber_28 : decode b_Reader_kindNumber 28 = .ok (.aload_n 0, 1) := by decide +kernel
theorem d_Reader_kindNumber_29 : decode b_Reader_kindNumber 29 = .ok (.iconst 2, 1) := by decide +kernel
theorem d_Reader_kindNumber_30 : decode b_Reader_kindNumber 30 = .ok (.invokevirtual 70, 3) := by decide +kernel
theorem d_Reader_kindNumber_33 : decode b_Reader_kindNumber 33 = .ok (.goto 4, 3) := by decide +kernel
theorem d_Reader_kindNumber_36 : decode b_Reader_kindNumber 36 = .ok (.iconst (-1), 1) := by decide +kernel
theorem d_Reader_kindNumber_37 : decode b_Reader_kindNumber 37 = .ok (.ireturn, 1) := by decide +kernel
set_option maxHeartbeats 4000000 in
set_option maxRecDepth 100000 in
theorem c_isLeap (l : Launch) (dC : Nat → ClassId) (dI : Nat → Nat → Nat) (y : Int32) : Met l y_Reader_isLeap w_Reader_isLeap ({ frames := 0, cells := 0, slots := 0, locals := 0 }) (pu_P [.int y] (dC, dI) [] []) (vp_Si (fun r => bz r (lpI y))) 0 0 (fun _ => False) := by
  refine Met.ofW (cc := b_Reader_isLeap) (maxL := 1) (ret := (some FieldType.boolean)) (by decide) rfl ?_
  intro p e s m args below meth c s₁ B hml hv
  obtain ⟨rfl, hP, hK, hN⟩ := hv
  have hx := B.exec
  have hb := B.bytes
  have hr := B.returns
  have hts := atoms_spec (ws := w_Reader_isLeap) B.pre
  have tbin : ∀ w ∈ tb, w ∈ w_Reader_isLeap := fun w h => List.mem_cons_of_mem _ h
  have htb : ∀ w ∈ tb, w.before _ s = true := fun w h => hts w (tbin w h)
  have hown : s.vm.findClass "TrustChain$Reader" = some m.cls := findClass_of_methodNamed B.named
  have hlocks := B.notSynchronized
  have hcs : 0 ≤ (headSpec w_Reader_isLeap ({ frames := 0, cells := 0, slots := 0, locals := 0 })).room.cells ∧ 0 ≤ (headSpec w_Reader_isLeap ({ frames := 0, cells := 0, slots := 0, locals := 0 })).room.slots := ⟨Nat.zero_le _, Nat.zero_le _⟩
  have hP : va_P (dC, dI) classes [] s.heap := hP
  have hl := lv_entry ([.int y]) (n := 1) (Nat.le_of_ble_eq_true rfl)
  rw [lg_entry_eq]
  generalize (lg_sl ([.int y]) ++ List.replicate (1 - (lg_sl ([.int y])).length) Slot.unset).toArray = ls at hl ⊢
  have hl : lv_has ls 1 [(0, .int y)] := hl
  refine w_join (J := fun v => bz v (lpI y)) (pc := 26) (ls := ls) (rest := []) (fun v hv => ?_) (fun k26 => ?_)
  · skip
    exact W.zret (v := v) hx hb hr (bz_n hv) (fun t ht hW => ⟨_, rfl, hv, ht⟩) (fun q h => by cases h) d_Reader_isLeap_26
  · skip
    refine lv_iload_n hx hb d_Reader_isLeap_0 rfl (lv_at hl 0 rfl) ?_
    refine lv_iconst (v := 4) hx hb d_Reader_isLeap_1 (by decide) ?_
    refine lv_irem hx hb d_Reader_isLeap_2 (by decide) ?_
    refine lv_if_ne (tgt := 25) hx hb d_Reader_isLeap_3 (by decide) (fun c3 => ?_) (fun c3 => ?_)
    · refine lv_iconst (v := 0) hx hb d_Reader_isLeap_25 (by decide) ?_
      exact k26 _ (bz_f (fun q => c3 q.1))
    · refine lv_iload_n hx hb d_Reader_isLeap_6 rfl (lv_at hl 0 rfl) ?_
      refine lv_bipush (v := 100) hx hb d_Reader_isLeap_7 (by decide) ?_
      refine lv_irem hx hb d_Reader_isLeap_9 (by decide) ?_
      refine lv_if_ne (tgt := 21) hx hb d_Reader_isLeap_10 (by decide) (fun c10 => ?_) (fun c10 => ?_)
      · refine lv_iconst (v := 1) hx hb d_Reader_isLeap_21 (by decide) ?_
        refine lv_goto (tgt := 26) hx hb d_Reader_isLeap_22 (by decide) ?_
        exact k26 _ (bz_t ⟨c3, Or.inl c10⟩)
      · refine lv_iload_n hx hb d_Reader_isLeap_13 rfl (lv_at hl 0 rfl) ?_
        refine lv_sipush (v := 400) hx hb d_Reader_isLeap_14 (by decide) ?_
        refine lv_irem hx hb d_Reader_isLeap_17 (by decide) ?_
        refine lv_if_ne (tgt := 25) hx hb d_Reader_isLeap_18 (by decide) (fun c18 => ?_) (fun c18 => ?_)
        · refine lv_iconst (v := 0) hx hb d_Reader_isLeap_25 (by decide) ?_
          exact k26 _ (bz_f (fun q => q.2.elim (fun z => z c10) (fun z => c18 z)))
        · refine lv_iconst (v := 1) hx hb d_Reader_isLeap_21 (by decide) ?_
          refine lv_goto (tgt := 26) hx hb d_Reader_isLeap_22 (by decide) ?_
          exact k26 _ (bz_t ⟨c3, Or.inr c18⟩)
theorem kd_1 {u : Nat → Nat} {a b : Nat} {r : Int32} (hu : ∀ j, u j < 256) (h : a + 0 < b) (hz : a + 1 < b) (hr : r = sl_at u a b 0) (c : r = 85) : u a = 85 := by
  have e := (sl_oct (u := u) (k := 0) (by omega) h)
  rw [hr] at c
  have e2 : nI (u (a + 0)) = nI 85 := e.symm.trans c
  rw [nI_eq (by have := hu (a + 0); omega) (by omega)] at e2
  exact e2
theorem kd_2 {u : Nat → Nat} {a b : Nat} {r : Int32} (hu : ∀ j, u j < 256) (h : a + 1 < b) (hz : a + 1 < b) (hr : r = sl_at u a b 1) (c : r = 29) : u (a + 1) = 29 := by
  have e := (sl_oct (u := u) (k := 1) (by omega) h)
  rw [hr] at c
  have e2 : nI (u (a + 1)) = nI 29 := e.symm.trans c
  rw [nI_eq (by have := hu (a + 1); omega) (by omega)] at e2
  exact e2
set_option maxHeartbeats 4000000 in
set_option maxRecDepth 100000 in
theorem c_kindNumber (l : Launch) (dC : Nat → ClassId) (dI : Nat → Nat → Nat) (h t a b n : Nat) (cA : ClassId) (u : Nat → Nat) (hu : ∀ j, u j < 256) (hab : a ≤ b) (hbn : b ≤ n) (hn : n < 2 ^ 31) : Met l y_Reader_kindNumber w_Reader_kindNumber ({ frames := 1, cells := 0, slots := 0, locals := 22 }) (pu_P [.ref h] (dC, dI) [(h, .inr (0, [.ref t, .int (nI a), .int (nI b)])), (t, .inl (cA, n, .inl (tx u)))] [(cA, .byte)]) (vp_Si (fun r => r = kdN u a b)) 0 0 (fun _ => False) := by
  refine Met.ofW (cc := b_Reader_kindNumber) (maxL := 1) (ret := (some FieldType.int)) (by decide) rfl ?_
  intro p e s m args below meth c s₁ B hml hv
  obtain ⟨rfl, hP, hK, hN⟩ := hv
  have hx := B.exec
  have hb := B.bytes
  have hr := B.returns
  have hts := atoms_spec (ws := w_Reader_kindNumber) B.pre
  have tbin : ∀ w ∈ tb, w ∈ w_Reader_kindNumber := fun w h => List.mem_cons_of_mem _ h
  have htb : ∀ w ∈ tb, w.before _ s = true := fun w h => hts w (tbin w h)
  have hown : s.vm.findClass "TrustChain$Reader" = some m.cls := findClass_of_methodNamed B.named
  have hlocks := B.notSynchronized
  have hcs : 0 ≤ (headSpec w_Reader_kindNumber ({ frames := 1, cells := 0, slots := 0, locals := 22 })).room.cells ∧ 0 ≤ (headSpec w_Reader_kindNumber ({ frames := 1, cells := 0, slots := 0, locals := 22 })).room.slots := ⟨Nat.zero_le _, Nat.zero_le _⟩
  have hP : va_P (dC, dI) classes [(h, .inr (0, [.ref t, .int (nI a), .int (nI b)])), (t, .inl (cA, n, .inl (tx u)))] s.heap := hP
  have hl := lv_entry ([.ref h]) (n := 1) (Nat.le_of_ble_eq_true rfl)
  rw [lg_entry_eq]
  generalize (lg_sl ([.ref h]) ++ List.replicate (1 - (lg_sl ([.ref h])).length) Slot.unset).toArray = ls at hl ⊢
  have hl : lv_has ls 1 [(0, .ref h)] := hl
  refine w_join (J := fun v => v = kdN u a b) (pc := 37) (ls := ls) (rest := []) (fun v hv => ?_) (fun k37 => ?_)
  · skip
    exact W.iret (v := v) hx hb hr (fun t ht hW => ⟨_, rfl, hv, ht⟩) (fun q h => by cases h) d_Reader_kindNumber_37
  · skip
    refine lv_aload_n hx hb d_Reader_kindNumber_0 rfl (lv_at hl 0 rfl) ?_
    refine vp_callSi (pu_callV (As := []) (rest := []) ⟨hx, hb, hml, hown, hts⟩ tbin (c_Slice_length l dC dI h t a b hab) q3_179 q3_150 q3_151 q1_20 q3_152 (n := 0) (by decide +kernel) rfl ⟨rfl, rfl⟩ ⟨Nat.le_of_ble_eq_true rfl, Nat.le_of_ble_eq_true rfl⟩ hcs hN hK hP [0] rfl [] rfl 0 0 rfl rfl rfl hl.1 rfl (Nat.le_of_ble_eq_true rfl) d_Reader_kindNumber_1) (fun r1 hr1 => ?_)
    refine lv_iconst (v := 3) hx hb d_Reader_kindNumber_4 (by decide) ?_
    refine lv_icmp_ne (tgt := 36) hx hb d_Reader_kindNumber_5 (by decide) (fun c5 => ?_) (fun c5 => ?_)
    · refine lv_iconst (v := -1) hx hb d_Reader_kindNumber_36 (by decide) ?_
      exact k37 _ (by rw [kdN, if_neg (fun q => c5 (by rw [hr1, q.1]; rfl))])
    · refine lv_aload_n hx hb d_Reader_kindNumber_8 rfl (lv_at hl 0 rfl) ?_
      refine lv_iconst (v := 0) hx hb d_Reader_kindNumber_9 (by decide) ?_
      refine vp_callSi (pu_callV (As := [.int 0]) (rest := []) ⟨hx, hb, hml, hown, hts⟩ tbin (c_Slice_at l dC dI h t a b n cA u 0 hu hab hbn hn) q3_178 q3_155 q3_156 q1_20 q3_157 (n := 1) (by decide +kernel) rfl ⟨rfl, rfl⟩ ⟨Nat.le_of_ble_eq_true rfl, Nat.le_of_ble_eq_true rfl⟩ hcs hN hK hP [0, 1] rfl [0] rfl 0 0 rfl rfl rfl hl.1 rfl (Nat.le_of_ble_eq_true rfl) d_Reader_kindNumber_10) (fun r10 hr10 => ?_)
      refine lv_bipush (v := 85) hx hb d_Reader_kindNumber_13 (by decide) ?_
      refine lv_icmp_ne (tgt := 36) hx hb d_Reader_kindNumber_15 (by decide) (fun c15 => ?_) (fun c15 => ?_)
      · refine lv_iconst (v := -1) hx hb d_Reader_kindNumber_36 (by decide) ?_
        exact k37 _ (by rw [kdN, if_neg (fun q => c15 (by rw [hr10]; exact (sl_oct (k := 0) (by omega) (by omega)).trans (by rw [Nat.add_zero, q.2.1]; rfl)))])
      · refine lv_aload_n hx hb d_Reader_kindNumber_18 rfl (lv_at hl 0 rfl) ?_
        refine lv_iconst (v := 1) hx hb d_Reader_kindNumber_19 (by decide) ?_
        refine vp_callSi (pu_callV (As := [.int 1]) (rest := []) ⟨hx, hb, hml, hown, hts⟩ tbin (c_Slice_at l dC dI h t a b n cA u 1 hu hab hbn hn) q3_178 q3_155 q3_156 q1_20 q3_157 (n := 1) (by decide +kernel) rfl ⟨rfl, rfl⟩ ⟨Nat.le_of_ble_eq_true rfl, Nat.le_of_ble_eq_true rfl⟩ hcs hN hK hP [0, 1] rfl [0] rfl 0 0 rfl rfl rfl hl.1 rfl (Nat.le_of_ble_eq_true rfl) d_Reader_kindNumber_20) (fun r20 hr20 => ?_)
        refine lv_bipush (v := 29) hx hb d_Reader_kindNumber_23 (by decide) ?_
        refine lv_icmp_ne (tgt := 36) hx hb d_Reader_kindNumber_25 (by decide) (fun c25 => ?_) (fun c25 => ?_)
        · refine lv_iconst (v := -1) hx hb d_Reader_kindNumber_36 (by decide) ?_
          exact k37 _ (by rw [kdN, if_neg (fun q => c25 (by rw [hr20]; exact (sl_oct (k := 1) (by omega) (by omega)).trans (by rw [q.2.2]; rfl)))])
        · refine lv_aload_n hx hb d_Reader_kindNumber_28 rfl (lv_at hl 0 rfl) ?_
          refine lv_iconst (v := 2) hx hb d_Reader_kindNumber_29 (by decide) ?_
          refine vp_callSi (pu_callV (As := [.int 2]) (rest := []) ⟨hx, hb, hml, hown, hts⟩ tbin (c_Slice_at l dC dI h t a b n cA u 2 hu hab hbn hn) q3_178 q3_155 q3_156 q1_20 q3_157 (n := 1) (by decide +kernel) rfl ⟨rfl, rfl⟩ ⟨Nat.le_of_ble_eq_true rfl, Nat.le_of_ble_eq_true rfl⟩ hcs hN hK hP [0, 1] rfl [0] rfl 0 0 rfl rfl rfl hl.1 rfl (Nat.le_of_ble_eq_true rfl) d_Reader_kindNumber_30) (fun r30 hr30 => ?_)
          refine lv_goto (tgt := 37) hx hb d_Reader_kindNumber_33 (by decide) ?_
          exact k37 _ (by have h3 : b - a = 3 := (by rw [hr1, show (3 : Int32) = nI 3 from rfl, nI_eq (by omega) (by omega)] at c5; exact c5); rw [kdN, if_pos ⟨h3, kd_1 hu (by omega) (by omega) hr10 c15, kd_2 hu (by omega) (by omega) hr20 c25⟩, hr30]; exact sl_oct (k := 2) (by omega) (by omega))
set_option maxHeartbeats 4000000 in
set_option maxRecDepth 100000 in
theorem cC_digits (l : Launch) (dC : Nat → ClassId) (dI : Nat → Nat → Nat) (h res t no ki : Nat) (pp s0 n : Nat) (w : Option Nat) (pa ma ex ie : Int32) (cB : ClassId) (u : Nat → Nat) (k : Nat) (hu : ∀ j, u j < 256) (hn : n < 2 ^ 30) (hk : k < 2 ^ 30) : Met l y_Reader_digits w_Reader_digits ({ frames := 1, cells := 0, slots := 0, locals := 21 }) (pu_P [.ref h, .int (nI k)] (dC, dI) [(h, .inr (4, [.ref res, .ref t, .ref no, .int (nI pp), .int (nI s0), .int (wI w), .int pa, .int ma, .int ex, .ref ki])), (t, .inl (cB, n, .inl (tx u)))] [(cB, .byte)]) (vp_Si (fun r => r = dg u n k)) 0 0 (fun _ => False) := by
  refine Met.ofW (cc := b_Reader_digits) (maxL := 2) (ret := (some FieldType.int)) (by decide) rfl ?_
  intro p e s m args below meth c s₁ B hml hv
  obtain ⟨rfl, hP, hK, hN⟩ := hv
  have hx := B.exec
  have hb := B.bytes
  have hr := B.returns
  have hts := atoms_spec (ws := w_Reader_digits) B.pre
  have tbin : ∀ w ∈ tb, w ∈ w_Reader_digits := fun w h => List.mem_cons_of_mem _ h
  have htb : ∀ w ∈ tb, w.before _ s = true := fun w h => hts w (tbin w h)
  have hown : s.vm.findClass "TrustChain$Reader" = some m.cls := findClass_of_methodNamed B.named
  have hlocks := B.notSynchronized
  have hcs : 0 ≤ (headSpec w_Reader_digits ({ frames := 1, cells := 0, slots := 0, locals := 21 })).room.cells ∧ 0 ≤ (headSpec w_Reader_digits ({ frames := 1, cells := 0, slots := 0, locals := 21 })).room.slots := ⟨Nat.zero_le _, Nat.zero_le _⟩
  have hP : va_P (dC, dI) classes [(h, .inr (4, [.ref res, .ref t, .ref no, .int (nI pp), .int (nI s0), .int (wI w), .int pa, .int ma, .int ex, .ref ki])), (t, .inl (cB, n, .inl (tx u)))] s.heap := hP
  have hl := lv_entry ([.ref h, .int (nI k)]) (n := 2) (Nat.le_of_ble_eq_true rfl)
  rw [lg_entry_eq]
  generalize (lg_sl ([.ref h, .int (nI k)]) ++ List.replicate (2 - (lg_sl ([.ref h, .int (nI k)])).length) Slot.unset).toArray = ls at hl ⊢
  have hl : lv_has ls 2 [(0, .ref h), (1, .int (nI k))] := hl
  refine lv_aload_n hx hb d_Reader_digits_0 rfl (lv_at hl 0 rfl) ?_
  refine lv_iload_n hx hb d_Reader_digits_1 rfl (lv_at hl 1 rfl) ?_
  refine vp_callSi (pu_callU (As := [.int (nI k)]) (rest := []) ⟨hx, hb, hml, hown, hts⟩ (cC_octet l dC dI h res t no ki pp s0 n w pa ma ex ie cB u (nI k) hu hn) (cu_of (n := 1) hts tbin q3_122 q3_124 q3_123 q3_125 q1_15 q3_127 rfl (by decide +kernel) ⟨rfl, rfl⟩ ⟨Nat.le_of_ble_eq_true rfl, Nat.le_of_ble_eq_true rfl⟩) rfl hcs hN hK hP [0, 1] rfl [0] rfl 0 4 rfl rfl rfl hl.1 rfl (Nat.le_of_ble_eq_true rfl) d_Reader_digits_2) (fun r2 hr2 => ?_)
  refine lv_bipush (v := 48) hx hb d_Reader_digits_5 (by decide) ?_
  refine lv_isub hx hb d_Reader_digits_7 ?_
  refine lv_bipush (v := 10) hx hb d_Reader_digits_8 (by decide) ?_
  refine lv_imul hx hb d_Reader_digits_10 ?_
  refine lv_aload_n hx hb d_Reader_digits_11 rfl (lv_at hl 0 rfl) ?_
  refine lv_iload_n hx hb d_Reader_digits_12 rfl (lv_at hl 1 rfl) ?_
  refine lv_iconst (v := 1) hx hb d_Reader_digits_13 (by decide) ?_
  refine lv_iadd hx hb d_Reader_digits_14 ?_
  rw [show ((nI k) + 1 : Int32) = nI (k + 1) from nI_add k 1]
  refine vp_callSi (pu_callU (As := [.int (nI (k + 1))]) (rest := [.int ((r2 - 48) * 10)]) ⟨hx, hb, hml, hown, hts⟩ (cC_octet l dC dI h res t no ki pp s0 n w pa ma ex ie cB u (nI (k + 1)) hu hn) (cu_of (n := 1) hts tbin q3_122 q3_124 q3_123 q3_125 q1_15 q3_127 rfl (by decide +kernel) ⟨rfl, rfl⟩ ⟨Nat.le_of_ble_eq_true rfl, Nat.le_of_ble_eq_true rfl⟩) rfl hcs hN hK hP [0, 1] rfl [0] rfl 0 4 rfl rfl rfl hl.1 rfl (Nat.le_of_ble_eq_true rfl) d_Reader_digits_15) (fun r15 hr15 => ?_)
  refine lv_iadd hx hb d_Reader_digits_18 ?_
  refine lv_bipush (v := 48) hx hb d_Reader_digits_19 (by decide) ?_
  refine lv_isub hx hb d_Reader_digits_21 ?_
  exact W.iret (v := (((r2 - 48) * 10) + r15) - 48) hx hb hr (fun t ht hW => ⟨_, rfl, by rw [hr2, hr15, oc_eq (by omega), oc_eq (by omega)]; rfl, ht⟩) (fun q h => by cases h) d_Reader_digits_22
set_option maxHeartbeats 4000000 in
set_option maxRecDepth 100000 in
theorem cC_areDigits (l : Launch) (dC : Nat → ClassId) (dI : Nat → Nat → Nat) (h res t no ki : Nat) (pp s0 n : Nat) (w : Option Nat) (pa ma ex ie : Int32) (cB : ClassId) (u : Nat → Nat) (a b : Nat) (hu : ∀ j, u j < 256) (hn : n < 2 ^ 30) (hab : a ≤ b) (hb2 : b < 2 ^ 30) : Met l y_Reader_areDigits w_Reader_areDigits ({ frames := 1, cells := 0, slots := 0, locals := 21 }) (pu_P [.ref h, .int (nI a), .int (nI b)] (dC, dI) [(h, .inr (4, [.ref res, .ref t, .ref no, .int (nI pp), .int (nI s0), .int (wI w), .int pa, .int ma, .int ex, .ref ki])), (t, .inl (cB, n, .inl (tx u)))] [(cB, .byte)]) (vp_Si (fun r => bz r (digsN u n a b))) 0 0 (fun _ => False) := by
  refine Met.ofW (cc := b_Reader_areDigits) (maxL := 4) (ret := (some FieldType.boolean)) (by decide) rfl ?_
  intro p e s m args below meth c s₁ B hml hv
  obtain ⟨rfl, hP, hK, hN⟩ := hv
  have hx := B.exec
  have hb := B.bytes
  have hr := B.returns
  have hts := atoms_spec (ws := w_Reader_areDigits) B.pre
  have tbin : ∀ w ∈ tb, w ∈ w_Reader_areDigits := fun w h => List.mem_cons_of_mem _ h
  have htb : ∀ w ∈ tb, w.before _ s = true := fun w h => hts w (tbin w h)
  have hown : s.vm.findClass "TrustChain$Reader" = some m.cls := findClass_of_methodNamed B.named
  have hlocks := B.notSynchronized
  have hcs : 0 ≤ (headSpec w_Reader_areDigits ({ frames := 1, cells := 0, slots := 0, locals := 21 })).room.cells ∧ 0 ≤ (headSpec w_Reader_areDigits ({ frames := 1, cells := 0, slots := 0, locals := 21 })).room.slots := ⟨Nat.zero_le _, Nat.zero_le _⟩
  have hP : va_P (dC, dI) classes [(h, .inr (4, [.ref res, .ref t, .ref no, .int (nI pp), .int (nI s0), .int (wI w), .int pa, .int ma, .int ex, .ref ki])), (t, .inl (cB, n, .inl (tx u)))] s.heap := hP
  have hl := lv_entry ([.ref h, .int (nI a), .int (nI b)]) (n := 4) (Nat.le_of_ble_eq_true rfl)
  rw [lg_entry_eq]
  generalize (lg_sl ([.ref h, .int (nI a), .int (nI b)]) ++ List.replicate (4 - (lg_sl ([.ref h, .int (nI a), .int (nI b)])).length) Slot.unset).toArray = ls at hl ⊢
  have hl : lv_has ls 4 [(0, .ref h), (1, .int (nI a)), (2, .int (nI b))] := hl
  refine lv_iload_n hx hb d_Reader_areDigits_0 rfl (lv_at hl 1 rfl) ?_
  refine lv_istore_n (lv' := [(3, .int (nI a)), (0, .ref h), (1, .int (nI a)), (2, .int (nI b))]) hx hb d_Reader_areDigits_1 rfl hl (by decide) rfl (fun ls hl => ?_)
  refine w_loop (α := Nat) (fun k => a ≤ k ∧ k ≤ b ∧ digsN u n a k) (fun k => b - k) (fun k => [(0, .ref h), (1, .int (nI a)), (2, .int (nI b)), (3, .int (nI k))]) (fun _ => []) 4 2 (fun k ls hJ hl ih => ?_) a ls (⟨Nat.le_refl _, hab, fun j h1 h2 => absurd h2 (by omega)⟩) (lv_sub hl [1, 2, 3, 0] rfl)
  refine lv_iload_n hx hb d_Reader_areDigits_2 rfl (lv_at hl 3 rfl) ?_
  refine lv_iload_n hx hb d_Reader_areDigits_3 rfl (lv_at hl 2 rfl) ?_
  refine lv_icmp_ge (tgt := 35) hx hb d_Reader_areDigits_4 (by decide) (fun c4 => ?_) (fun c4 => ?_)
  · have hke : k = b := by rw [nI_leI (by omega) (by omega)] at c4; omega
    refine lv_iconst (v := 1) hx hb d_Reader_areDigits_35 (by decide) ?_
    exact W.zret (v := 1) hx hb hr (by decide) (fun t ht hW => ⟨_, rfl, bz_t (hke ▸ hJ.2.2), ht⟩) (fun q h => by cases h) d_Reader_areDigits_36
  · have hlt : k < b := by rw [nI_leI (by omega) (by omega)] at c4; omega
    refine lv_aload_n hx hb d_Reader_areDigits_7 rfl (lv_at hl 0 rfl) ?_
    refine lv_iload_n hx hb d_Reader_areDigits_8 rfl (lv_at hl 3 rfl) ?_
    refine vp_callSi (pu_callU (As := [.int (nI k)]) (rest := []) ⟨hx, hb, hml, hown, hts⟩ (cC_octet l dC dI h res t no ki pp s0 n w pa ma ex ie cB u (nI k) hu hn) (cu_of (n := 1) hts tbin q3_122 q3_124 q3_123 q3_125 q1_15 q3_127 rfl (by decide +kernel) ⟨rfl, rfl⟩ ⟨Nat.le_of_ble_eq_true rfl, Nat.le_of_ble_eq_true rfl⟩) rfl hcs hN hK hP [0, 1] rfl [0] rfl 0 4 rfl rfl rfl hl.1 rfl (Nat.le_of_ble_eq_true rfl) d_Reader_areDigits_9) (fun r9 hr9 => ?_)
    rw [oc_eq (by omega)] at hr9
    refine lv_bipush (v := 48) hx hb d_Reader_areDigits_12 (by decide) ?_
    refine lv_icmp_lt (tgt := 27) hx hb d_Reader_areDigits_14 (by decide) (fun c14 => ?_) (fun c14 => ?_)
    · refine lv_iconst (v := 0) hx hb d_Reader_areDigits_27 (by decide) ?_
      exact W.zret (v := 0) hx hb hr (by decide) (fun t ht hW => ⟨_, rfl, bz_f (fun q => oc_nod (Or.inl (by rw [← hr9]; exact c14)) (q k hJ.1 hlt)), ht⟩) (fun q h => by cases h) d_Reader_areDigits_28
    · refine lv_aload_n hx hb d_Reader_areDigits_17 rfl (lv_at hl 0 rfl) ?_
      refine lv_iload_n hx hb d_Reader_areDigits_18 rfl (lv_at hl 3 rfl) ?_
      refine vp_callSi (pu_callU (As := [.int (nI k)]) (rest := []) ⟨hx, hb, hml, hown, hts⟩ (cC_octet l dC dI h res t no ki pp s0 n w pa ma ex ie cB u (nI k) hu hn) (cu_of (n := 1) hts tbin q3_122 q3_124 q3_123 q3_125 q1_15 q3_127 rfl (by decide +kernel) ⟨rfl, rfl⟩ ⟨Nat.le_of_ble_eq_true rfl, Nat.le_of_ble_eq_true rfl⟩) rfl hcs hN hK hP [0, 1] rfl [0] rfl 0 4 rfl rfl rfl hl.1 rfl (Nat.le_of_ble_eq_true rfl) d_Reader_areDigits_19) (fun r19 hr19 => ?_)
      rw [oc_eq (by omega)] at hr19
      refine lv_bipush (v := 57) hx hb d_Reader_areDigits_22 (by decide) ?_
      refine lv_icmp_le (tgt := 29) hx hb d_Reader_areDigits_24 (by decide) (fun c24 => ?_) (fun c24 => ?_)
      · refine lv_iinc (v := nI (k + 1)) (lv' := [(3, .int (nI (k + 1))), (0, .ref h), (1, .int (nI a)), (2, .int (nI b))]) hx hb d_Reader_areDigits_29 hl (k := 3) rfl (nI_1 _) (by decide) rfl (fun ls hl => ?_)
        refine lv_goto (tgt := 2) hx hb d_Reader_areDigits_32 (by decide) ?_
        exact ih (k + 1) ls (by omega) (⟨by omega, by omega, digsN_s hJ.2.2 (oc_dig hu (by rw [← hr9]; exact c14) (by rw [← hr19]; exact c24))⟩) (lv_sub hl [1, 2, 3, 0] rfl)
      · refine lv_iconst (v := 0) hx hb d_Reader_areDigits_27 (by decide) ?_
        exact W.zret (v := 0) hx hb hr (by decide) (fun t ht hW => ⟨_, rfl, bz_f (fun q => oc_nod (Or.inr (by rw [← hr19]; exact c24)) (q k hJ.1 hlt)), ht⟩) (fun q h => by cases h) d_Reader_areDigits_28
set_option maxHeartbeats 4000000 in
set_option maxRecDepth 100000 in
theorem cC_isOid (l : Launch) (dC : Nat → ClassId) (dI : Nat → Nat → Nat) (h res t no ki : Nat) (pp s0 n : Nat) (w : Option Nat) (pa ma ex ie : Int32) (cB : ClassId) (u : Nat → Nat) (a b : Nat) (hu : ∀ j, u j < 256) (hn : n < 2 ^ 30) (hab : a ≤ b) (hb2 : b ≤ n) : Met l y_Reader_isOid w_Reader_isOid ({ frames := 1, cells := 0, slots := 0, locals := 21 }) (pu_P [.ref h, .int (nI a), .int (nI b)] (dC, dI) [(h, .inr (4, [.ref res, .ref t, .ref no, .int (nI pp), .int (nI s0), .int (wI w), .int pa, .int ma, .int ex, .ref ki])), (t, .inl (cB, n, .inl (tx u)))] [(cB, .byte)]) (vp_Si (fun r => bz r (oidOK u a b))) 0 0 (fun _ => False) := by
  refine Met.ofW (cc := b_Reader_isOid) (maxL := 5) (ret := (some FieldType.boolean)) (by decide) rfl ?_
  intro p e s m args below meth c s₁ B hml hv
  obtain ⟨rfl, hP, hK, hN⟩ := hv
  have hx := B.exec
  have hb := B.bytes
  have hr := B.returns
  have hts := atoms_spec (ws := w_Reader_isOid) B.pre
  have tbin : ∀ w ∈ tb, w ∈ w_Reader_isOid := fun w h => List.mem_cons_of_mem _ h
  have htb : ∀ w ∈ tb, w.before _ s = true := fun w h => hts w (tbin w h)
  have hown : s.vm.findClass "TrustChain$Reader" = some m.cls := findClass_of_methodNamed B.named
  have hlocks := B.notSynchronized
  have hcs : 0 ≤ (headSpec w_Reader_isOid ({ frames := 1, cells := 0, slots := 0, locals := 21 })).room.cells ∧ 0 ≤ (headSpec w_Reader_isOid ({ frames := 1, cells := 0, slots := 0, locals := 21 })).room.slots := ⟨Nat.zero_le _, Nat.zero_le _⟩
  have hP : va_P (dC, dI) classes [(h, .inr (4, [.ref res, .ref t, .ref no, .int (nI pp), .int (nI s0), .int (wI w), .int pa, .int ma, .int ex, .ref ki])), (t, .inl (cB, n, .inl (tx u)))] s.heap := hP
  have hl := lv_entry ([.ref h, .int (nI a), .int (nI b)]) (n := 5) (Nat.le_of_ble_eq_true rfl)
  rw [lg_entry_eq]
  generalize (lg_sl ([.ref h, .int (nI a), .int (nI b)]) ++ List.replicate (5 - (lg_sl ([.ref h, .int (nI a), .int (nI b)])).length) Slot.unset).toArray = ls at hl ⊢
  have hl : lv_has ls 5 [(0, .ref h), (1, .int (nI a)), (2, .int (nI b))] := hl
  refine lv_iconst (v := 1) hx hb d_Reader_isOid_0 (by decide) ?_
  refine lv_istore_n (lv' := [(3, .int 1), (0, .ref h), (1, .int (nI a)), (2, .int (nI b))]) hx hb d_Reader_isOid_1 rfl hl (by decide) rfl (fun ls hl => ?_)
  refine lv_iload_n hx hb d_Reader_isOid_2 rfl (lv_at hl 2 rfl) ?_
  refine lv_istore (lv' := [(4, .int (nI a)), (3, .int 1), (0, .ref h), (1, .int (nI a)), (2, .int (nI b))]) hx hb d_Reader_isOid_3 hl (by decide) rfl (fun ls hl => ?_)
  refine w_loop (α := Nat × Bool) (fun z => z.1 ≤ b - a ∧ oidG u a z.1 = some z.2) (fun z => b - a - z.1) (fun z => [(0, .ref h), (1, .int (nI a)), (2, .int (nI b)), (3, .int (bI z.2)), (4, .int (nI (a + z.1)))]) (fun _ => []) 5 5 (fun z ls hJ hl ih => ?_) (0, true) ls (⟨Nat.zero_le _, rfl⟩) (lv_sub hl [2, 3, 4, 1, 0] rfl)
  refine lv_iload hx hb d_Reader_isOid_5 (lv_at hl 4 rfl) ?_
  refine lv_iload_n hx hb d_Reader_isOid_7 rfl (lv_at hl 2 rfl) ?_
  refine lv_icmp_ge (tgt := 53) hx hb d_Reader_isOid_8 (by decide) (fun c8 => ?_) (fun c8 => ?_)
  · have hke : z.1 = b - a := by rw [nI_leI (by omega) (by omega)] at c8; omega
    refine lv_iload_n hx hb d_Reader_isOid_53 rfl (lv_at hl 2 rfl) ?_
    refine lv_iload_n hx hb d_Reader_isOid_54 rfl (lv_at hl 1 rfl) ?_
    refine lv_icmp_le (tgt := 66) hx hb d_Reader_isOid_55 (by decide) (fun c55 => ?_) (fun c55 => ?_)
    · refine lv_iconst (v := 0) hx hb d_Reader_isOid_66 (by decide) ?_
      exact W.zret (v := 0) hx hb hr (by decide) (fun t ht hW => ⟨_, rfl, bz_f (fun q => absurd q.1 (by rw [nI_leI (by omega) (by omega)] at c55; omega)), ht⟩) (fun q h => by cases h) d_Reader_isOid_67
    · refine lv_iload_n hx hb d_Reader_isOid_58 rfl (lv_at hl 3 rfl) ?_
      refine lv_if_eq (tgt := 66) hx hb d_Reader_isOid_59 (by decide) (fun c59 => ?_) (fun c59 => ?_)
      · refine lv_iconst (v := 0) hx hb d_Reader_isOid_66 (by decide) ?_
        exact W.zret (v := 0) hx hb hr (by decide) (fun t ht hW => ⟨_, rfl, bz_f (fun q => absurd ((hke ▸ hJ.2).symm.trans q.2) (by rw [bI_0 c59]; simp)), ht⟩) (fun q h => by cases h) d_Reader_isOid_67
      · refine lv_iconst (v := 1) hx hb d_Reader_isOid_62 (by decide) ?_
        refine lv_goto (tgt := 67) hx hb d_Reader_isOid_63 (by decide) ?_
        exact W.zret (v := 1) hx hb hr (by decide) (fun t ht hW => ⟨_, rfl, bz_t ⟨by rw [nI_leI (by omega) (by omega)] at c55; omega, by rw [← hke, hJ.2, bI_1 c59]⟩, ht⟩) (fun q h => by cases h) d_Reader_isOid_67
  · have hlt : a + z.1 < b := by rw [nI_leI (by omega) (by omega)] at c8; omega
    refine lv_iload_n hx hb d_Reader_isOid_11 rfl (lv_at hl 3 rfl) ?_
    refine lv_if_eq (tgt := 29) hx hb d_Reader_isOid_12 (by decide) (fun c12 => ?_) (fun c12 => ?_)
    · have hno : ¬ (z.2 = true ∧ u (a + z.1) = 128) := fun q => absurd ((bI_0 c12).symm.trans q.1) (by decide)
      refine w_join (J := fun v => v = bI (decide (u (a + z.1) < 128))) (pc := 46) (ls := ls) (rest := []) (fun v hv => ?_) (fun k46 => ?_)
      · skip
        subst hv
        refine lv_istore_n (lv' := [(3, .int (bI (decide (u (a + z.1) < 128)))), (0, .ref h), (1, .int (nI a)), (2, .int (nI b)), (4, .int (nI (a + z.1)))]) hx hb d_Reader_isOid_46 rfl hl (by decide) rfl (fun ls hl => ?_)
        refine lv_iinc (v := nI (a + z.1 + 1)) (lv' := [(4, .int (nI (a + z.1 + 1))), (3, .int (bI (decide (u (a + z.1) < 128)))), (0, .ref h), (1, .int (nI a)), (2, .int (nI b))]) hx hb d_Reader_isOid_47 hl (k := 4) rfl (nI_1 _) (by decide) rfl (fun ls hl => ?_)
        refine lv_goto (tgt := 5) hx hb d_Reader_isOid_50 (by decide) ?_
        exact ih (z.1 + 1, decide (u (a + z.1) < 128)) ls (by show b - a - (z.1 + 1) < b - a - z.1; omega) (⟨by show z.1 + 1 ≤ b - a; omega, oidG_s hJ.2 hno⟩) (lv_sub hl [2, 3, 4, 1, 0] rfl)
      · skip
        refine lv_aload_n hx hb d_Reader_isOid_29 rfl (lv_at hl 0 rfl) ?_
        refine lv_iload hx hb d_Reader_isOid_30 (lv_at hl 4 rfl) ?_
        refine vp_callSi (pu_callU (As := [.int (nI (a + z.1))]) (rest := []) ⟨hx, hb, hml, hown, hts⟩ (cC_octet l dC dI h res t no ki pp s0 n w pa ma ex ie cB u (nI (a + z.1)) hu hn) (cu_of (n := 1) hts tbin q3_122 q3_124 q3_123 q3_125 q1_15 q3_127 rfl (by decide +kernel) ⟨rfl, rfl⟩ ⟨Nat.le_of_ble_eq_true rfl, Nat.le_of_ble_eq_true rfl⟩) rfl hcs hN hK hP [0, 1] rfl [0] rfl 0 4 rfl rfl rfl hl.1 rfl (Nat.le_of_ble_eq_true rfl) d_Reader_isOid_32) (fun r32 hr32 => ?_)
        rw [oc_eq (by omega)] at hr32
        refine lv_sipush (v := 128) hx hb d_Reader_isOid_35 (by decide) ?_
        have h128 := (oc_128 (n := n) hu (show a + z.1 < n by omega)).2
        rw [← hr32] at h128
        refine lv_icmp_ge (tgt := 45) hx hb d_Reader_isOid_38 (by decide) (fun c38 => ?_) (fun c38 => ?_)
        · refine lv_iconst (v := 0) hx hb d_Reader_isOid_45 (by decide) ?_
          exact k46 _ (by rw [bI, if_neg (by rw [decide_eq_true_eq]; exact Nat.not_lt.mpr (h128.mp c38))])
        · refine lv_iconst (v := 1) hx hb d_Reader_isOid_41 (by decide) ?_
          refine lv_goto (tgt := 46) hx hb d_Reader_isOid_42 (by decide) ?_
          exact k46 _ (by rw [bI, if_pos (by rw [decide_eq_true_eq]; exact Nat.not_le.mp (fun q => c38 (h128.mpr q)))])
    · refine lv_aload_n hx hb d_Reader_isOid_15 rfl (lv_at hl 0 rfl) ?_
      refine lv_iload hx hb d_Reader_isOid_16 (lv_at hl 4 rfl) ?_
      refine vp_callSi (pu_callU (As := [.int (nI (a + z.1))]) (rest := []) ⟨hx, hb, hml, hown, hts⟩ (cC_octet l dC dI h res t no ki pp s0 n w pa ma ex ie cB u (nI (a + z.1)) hu hn) (cu_of (n := 1) hts tbin q3_122 q3_124 q3_123 q3_125 q1_15 q3_127 rfl (by decide +kernel) ⟨rfl, rfl⟩ ⟨Nat.le_of_ble_eq_true rfl, Nat.le_of_ble_eq_true rfl⟩) rfl hcs hN hK hP [0, 1] rfl [0] rfl 0 4 rfl rfl rfl hl.1 rfl (Nat.le_of_ble_eq_true rfl) d_Reader_isOid_18) (fun r18 hr18 => ?_)
      rw [oc_eq (by omega)] at hr18
      refine lv_sipush (v := 128) hx hb d_Reader_isOid_21 (by decide) ?_
      refine lv_icmp_ne (tgt := 29) hx hb d_Reader_isOid_24 (by decide) (fun c24 => ?_) (fun c24 => ?_)
      · have hno : ¬ (z.2 = true ∧ u (a + z.1) = 128) := fun q => c24 (by rw [hr18]; exact (oc_128 hu (by omega)).1.mpr q.2)
        refine w_join (J := fun v => v = bI (decide (u (a + z.1) < 128))) (pc := 46) (ls := ls) (rest := []) (fun v hv => ?_) (fun k46 => ?_)
        · skip
          subst hv
          refine lv_istore_n (lv' := [(3, .int (bI (decide (u (a + z.1) < 128)))), (0, .ref h), (1, .int (nI a)), (2, .int (nI b)), (4, .int (nI (a + z.1)))]) hx hb d_Reader_isOid_46 rfl hl (by decide) rfl (fun ls hl => ?_)
          refine lv_iinc (v := nI (a + z.1 + 1)) (lv' := [(4, .int (nI (a + z.1 + 1))), (3, .int (bI (decide (u (a + z.1) < 128)))), (0, .ref h), (1, .int (nI a)), (2, .int (nI b))]) hx hb d_Reader_isOid_47 hl (k := 4) rfl (nI_1 _) (by decide) rfl (fun ls hl => ?_)
          refine lv_goto (tgt := 5) hx hb d_Reader_isOid_50 (by decide) ?_
          exact ih (z.1 + 1, decide (u (a + z.1) < 128)) ls (by show b - a - (z.1 + 1) < b - a - z.1; omega) (⟨by show z.1 + 1 ≤ b - a; omega, oidG_s hJ.2 hno⟩) (lv_sub hl [2, 3, 4, 1, 0] rfl)
        · skip
          refine lv_aload_n hx hb d_Reader_isOid_29 rfl (lv_at hl 0 rfl) ?_
          refine lv_iload hx hb d_Reader_isOid_30 (lv_at hl 4 rfl) ?_
          refine vp_callSi (pu_callU (As := [.int (nI (a + z.1))]) (rest := []) ⟨hx, hb, hml, hown, hts⟩ (cC_octet l dC dI h res t no ki pp s0 n w pa ma ex ie cB u (nI (a + z.1)) hu hn) (cu_of (n := 1) hts tbin q3_122 q3_124 q3_123 q3_125 q1_15 q3_127 rfl (by decide +kernel) ⟨rfl, rfl⟩ ⟨Nat.le_of_ble_eq_true rfl, Nat.le_of_ble_eq_true rfl⟩) rfl hcs hN hK hP [0, 1] rfl [0] rfl 0 4 rfl rfl rfl hl.1 rfl (Nat.le_of_ble_eq_true rfl) d_Reader_isOid_32) (fun r32 hr32 => ?_)
          rw [oc_eq (by omega)] at hr32
          refine lv_sipush (v := 128) hx hb d_Reader_isOid_35 (by decide) ?_
          have h128 := (oc_128 (n := n) hu (show a + z.1 < n by omega)).2
          rw [← hr32] at h128
          refine lv_icmp_ge (tgt := 45) hx hb d_Reader_isOid_38 (by decide) (fun c38 => ?_) (fun c38 => ?_)
          · refine lv_iconst (v := 0) hx hb d_Reader_isOid_45 (by decide) ?_
            exact k46 _ (by rw [bI, if_neg (by rw [decide_eq_true_eq]; exact Nat.not_lt.mpr (h128.mp c38))])
          · refine lv_iconst (v := 1) hx hb d_Reader_isOid_41 (by decide) ?_
            refine lv_goto (tgt := 46) hx hb d_Reader_isOid_42 (by decide) ?_
            exact k46 _ (by rw [bI, if_pos (by rw [decide_eq_true_eq]; exact Nat.not_le.mp (fun q => c38 (h128.mpr q)))])
      · refine lv_iconst (v := 0) hx hb d_Reader_isOid_27 (by decide) ?_
        exact W.zret (v := 0) hx hb hr (by decide) (fun t ht hW => ⟨_, rfl, bz_f (fun q => absurd ((oidG_n (oidG_0 hJ.2 ⟨bI_1 c12, (oc_128 (n := n) hu (by omega)).1.mp (by rw [← hr18]; exact c24)⟩) (b - a) (by omega)).symm.trans q.2) (by simp)), ht⟩) (fun q h => by cases h) d_Reader_isOid_28
set_option maxHeartbeats 4000000 in
set_option maxRecDepth 100000 in
theorem cL_digits (l : Launch) (dC : Nat → ClassId) (dI : Nat → Nat → Nat) (h res t no ki : Nat) (pp s0 n : Nat) (w : Option Nat) (pa ma ex ie : Int32) (cB : ClassId) (u : Nat → Nat) (k : Nat) (hu : ∀ j, u j < 256) (hn : n < 2 ^ 30) (hk : k < 2 ^ 30) : Met l y_Reader_digits w_Reader_digits ({ frames := 1, cells := 0, slots := 0, locals := 21 }) (pu_P [.ref h, .int (nI k)] (dC, dI) [(h, .inr (5, [.ref res, .int ie, .ref t, .ref no, .int (nI pp), .int (nI s0), .int (wI w), .int pa, .int ma, .int ex, .ref ki])), (t, .inl (cB, n, .inl (tx u)))] [(cB, .byte)]) (vp_Si (fun r => r = dg u n k)) 0 0 (fun _ => False) := by
  refine Met.ofW (cc := b_Reader_digits) (maxL := 2) (ret := (some FieldType.int)) (by decide) rfl ?_
  intro p e s m args below meth c s₁ B hml hv
  obtain ⟨rfl, hP, hK, hN⟩ := hv
  have hx := B.exec
  have hb := B.bytes
  have hr := B.returns
  have hts := atoms_spec (ws := w_Reader_digits) B.pre
  have tbin : ∀ w ∈ tb, w ∈ w_Reader_digits := fun w h => List.mem_cons_of_mem _ h
  have htb : ∀ w ∈ tb, w.before _ s = true := fun w h => hts w (tbin w h)
  have hown : s.vm.findClass "TrustChain$Reader" = some m.cls := findClass_of_methodNamed B.named
  have hlocks := B.notSynchronized
  have hcs : 0 ≤ (headSpec w_Reader_digits ({ frames := 1, cells := 0, slots := 0, locals := 21 })).room.cells ∧ 0 ≤ (headSpec w_Reader_digits ({ frames := 1, cells := 0, slots := 0, locals := 21 })).room.slots := ⟨Nat.zero_le _, Nat.zero_le _⟩
  have hP : va_P (dC, dI) classes [(h, .inr (5, [.ref res, .int ie, .ref t, .ref no, .int (nI pp), .int (nI s0), .int (wI w), .int pa, .int ma, .int ex, .ref ki])), (t, .inl (cB, n, .inl (tx u)))] s.heap := hP
  have hl := lv_entry ([.ref h, .int (nI k)]) (n := 2) (Nat.le_of_ble_eq_true rfl)
  rw [lg_entry_eq]
  generalize (lg_sl ([.ref h, .int (nI k)]) ++ List.replicate (2 - (lg_sl ([.ref h, .int (nI k)])).length) Slot.unset).toArray = ls at hl ⊢
  have hl : lv_has ls 2 [(0, .ref h), (1, .int (nI k))] := hl
  refine lv_aload_n hx hb d_Reader_digits_0 rfl (lv_at hl 0 rfl) ?_
  refine lv_iload_n hx hb d_Reader_digits_1 rfl (lv_at hl 1 rfl) ?_
  refine vp_callSi (pu_callU (As := [.int (nI k)]) (rest := []) ⟨hx, hb, hml, hown, hts⟩ (cL_octet l dC dI h res t no ki pp s0 n w pa ma ex ie cB u (nI k) hu hn) (cu_of (n := 1) hts tbin q3_122 q3_124 q3_123 q3_126 q1_15 q3_127 rfl (by decide +kernel) ⟨rfl, rfl⟩ ⟨Nat.le_of_ble_eq_true rfl, Nat.le_of_ble_eq_true rfl⟩) rfl hcs hN hK hP [0, 1] rfl [0] rfl 0 5 rfl rfl rfl hl.1 rfl (Nat.le_of_ble_eq_true rfl) d_Reader_digits_2) (fun r2 hr2 => ?_)
  refine lv_bipush (v := 48) hx hb d_Reader_digits_5 (by decide) ?_
  refine lv_isub hx hb d_Reader_digits_7 ?_
  refine lv_bipush (v := 10) hx hb d_Reader_digits_8 (by decide) ?_
  refine lv_imul hx hb d_Reader_digits_10 ?_
  refine lv_aload_n hx hb d_Reader_digits_11 rfl (lv_at hl 0 rfl) ?_
  refine lv_iload_n hx hb d_Reader_digits_12 rfl (lv_at hl 1 rfl) ?_
  refine lv_iconst (v := 1) hx hb d_Reader_digits_13 (by decide) ?_
  refine lv_iadd hx hb d_Reader_digits_14 ?_
  rw [show ((nI k) + 1 : Int32) = nI (k + 1) from nI_add k 1]
  refine vp_callSi (pu_callU (As := [.int (nI (k + 1))]) (rest := [.int ((r2 - 48) * 10)]) ⟨hx, hb, hml, hown, hts⟩ (cL_octet l dC dI h res t no ki pp s0 n w pa ma ex ie cB u (nI (k + 1)) hu hn) (cu_of (n := 1) hts tbin q3_122 q3_124 q3_123 q3_126 q1_15 q3_127 rfl (by decide +kernel) ⟨rfl, rfl⟩ ⟨Nat.le_of_ble_eq_true rfl, Nat.le_of_ble_eq_true rfl⟩) rfl hcs hN hK hP [0, 1] rfl [0] rfl 0 5 rfl rfl rfl hl.1 rfl (Nat.le_of_ble_eq_true rfl) d_Reader_digits_15) (fun r15 hr15 => ?_)
  refine lv_iadd hx hb d_Reader_digits_18 ?_
  refine lv_bipush (v := 48) hx hb d_Reader_digits_19 (by decide) ?_
  refine lv_isub hx hb d_Reader_digits_21 ?_
  exact W.iret (v := (((r2 - 48) * 10) + r15) - 48) hx hb hr (fun t ht hW => ⟨_, rfl, by rw [hr2, hr15, oc_eq (by omega), oc_eq (by omega)]; rfl, ht⟩) (fun q h => by cases h) d_Reader_digits_22
set_option maxHeartbeats 4000000 in
set_option maxRecDepth 100000 in
theorem cL_areDigits (l : Launch) (dC : Nat → ClassId) (dI : Nat → Nat → Nat) (h res t no ki : Nat) (pp s0 n : Nat) (w : Option Nat) (pa ma ex ie : Int32) (cB : ClassId) (u : Nat → Nat) (a b : Nat) (hu : ∀ j, u j < 256) (hn : n < 2 ^ 30) (hab : a ≤ b) (hb2 : b < 2 ^ 30) : Met l y_Reader_areDigits w_Reader_areDigits ({ frames := 1, cells := 0, slots := 0, locals := 21 }) (pu_P [.ref h, .int (nI a), .int (nI b)] (dC, dI) [(h, .inr (5, [.ref res, .int ie, .ref t, .ref no, .int (nI pp), .int (nI s0), .int (wI w), .int pa, .int ma, .int ex, .ref ki])), (t, .inl (cB, n, .inl (tx u)))] [(cB, .byte)]) (vp_Si (fun r => bz r (digsN u n a b))) 0 0 (fun _ => False) := by
  refine Met.ofW (cc := b_Reader_areDigits) (maxL := 4) (ret := (some FieldType.boolean)) (by decide) rfl ?_
  intro p e s m args below meth c s₁ B hml hv
  obtain ⟨rfl, hP, hK, hN⟩ := hv
  have hx := B.exec
  have hb := B.bytes
  have hr := B.returns
  have hts := atoms_spec (ws := w_Reader_areDigits) B.pre
  have tbin : ∀ w ∈ tb, w ∈ w_Reader_areDigits := fun w h => List.mem_cons_of_mem _ h
  have htb : ∀ w ∈ tb, w.before _ s = true := fun w h => hts w (tbin w h)
  have hown : s.vm.findClass "TrustChain$Reader" = some m.cls := findClass_of_methodNamed B.named
  have hlocks := B.notSynchronized
  have hcs : 0 ≤ (headSpec w_Reader_areDigits ({ frames := 1, cells := 0, slots := 0, locals := 21 })).room.cells ∧ 0 ≤ (headSpec w_Reader_areDigits ({ frames := 1, cells := 0, slots := 0, locals := 21 })).room.slots := ⟨Nat.zero_le _, Nat.zero_le _⟩
  have hP : va_P (dC, dI) classes [(h, .inr (5, [.ref res, .int ie, .ref t, .ref no, .int (nI pp), .int (nI s0), .int (wI w), .int pa, .int ma, .int ex, .ref ki])), (t, .inl (cB, n, .inl (tx u)))] s.heap := hP
  have hl := lv_entry ([.ref h, .int (nI a), .int (nI b)]) (n := 4) (Nat.le_of_ble_eq_true rfl)
  rw [lg_entry_eq]
  generalize (lg_sl ([.ref h, .int (nI a), .int (nI b)]) ++ List.replicate (4 - (lg_sl ([.ref h, .int (nI a), .int (nI b)])).length) Slot.unset).toArray = ls at hl ⊢
  have hl : lv_has ls 4 [(0, .ref h), (1, .int (nI a)), (2, .int (nI b))] := hl
  refine lv_iload_n hx hb d_Reader_areDigits_0 rfl (lv_at hl 1 rfl) ?_
  refine lv_istore_n (lv' := [(3, .int (nI a)), (0, .ref h), (1, .int (nI a)), (2, .int (nI b))]) hx hb d_Reader_areDigits_1 rfl hl (by decide) rfl (fun ls hl => ?_)
  refine w_loop (α := Nat) (fun k => a ≤ k ∧ k ≤ b ∧ digsN u n a k) (fun k => b - k) (fun k => [(0, .ref h), (1, .int (nI a)), (2, .int (nI b)), (3, .int (nI k))]) (fun _ => []) 4 2 (fun k ls hJ hl ih => ?_) a ls (⟨Nat.le_refl _, hab, fun j h1 h2 => absurd h2 (by omega)⟩) (lv_sub hl [1, 2, 3, 0] rfl)
  refine lv_iload_n hx hb d_Reader_areDigits_2 rfl (lv_at hl 3 rfl) ?_
  refine lv_iload_n hx hb d_Reader_areDigits_3 rfl (lv_at hl 2 rfl) ?_
  refine lv_icmp_ge (tgt := 35) hx hb d_Reader_areDigits_4 (by decide) (fun c4 => ?_) (fun c4 => ?_)
  · have hke : k = b := by rw [nI_leI (by omega) (by omega)] at c4; omega
    refine lv_iconst (v := 1) hx hb d_Reader_areDigits_35 (by decide) ?_
    exact W.zret (v := 1) hx hb hr (by decide) (fun t ht hW => ⟨_, rfl, bz_t (hke ▸ hJ.2.2), ht⟩) (fun q h => by cases h) d_Reader_areDigits_36
  · have hlt : k < b := by rw [nI_leI (by omega) (by omega)] at c4; omega
    refine lv_aload_n hx hb d_Reader_areDigits_7 rfl (lv_at hl 0 rfl) ?_
    refine lv_iload_n hx hb d_Reader_areDigits_8 rfl (lv_at hl 3 rfl) ?_
    refine vp_callSi (pu_callU (As := [.int (nI k)]) (rest := []) ⟨hx, hb, hml, hown, hts⟩ (cL_octet l dC dI h res t no ki pp s0 n w pa ma ex ie cB u (nI k) hu hn) (cu_of (n := 1) hts tbin q3_122 q3_124 q3_123 q3_126 q1_15 q3_127 rfl (by decide +kernel) ⟨rfl, rfl⟩ ⟨Nat.le_of_ble_eq_true rfl, Nat.le_of_ble_eq_true rfl⟩) rfl hcs hN hK hP [0, 1] rfl [0] rfl 0 5 rfl rfl rfl hl.1 rfl (Nat.le_of_ble_eq_true rfl) d_Reader_areDigits_9) (fun r9 hr9 => ?_)
    rw [oc_eq (by omega)] at hr9
    refine lv_bipush (v := 48) hx hb d_Reader_areDigits_12 (by decide) ?_
    refine lv_icmp_lt (tgt := 27) hx hb d_Reader_areDigits_14 (by decide) (fun c14 => ?_) (fun c14 => ?_)
    · refine lv_iconst (v := 0) hx hb d_Reader_areDigits_27 (by decide) ?_
      exact W.zret (v := 0) hx hb hr (by decide) (fun t ht hW => ⟨_, rfl, bz_f (fun q => oc_nod (Or.inl (by rw [← hr9]; exact c14)) (q k hJ.1 hlt)), ht⟩) (fun q h => by cases h) d_Reader_areDigits_28
    · refine lv_aload_n hx hb d_Reader_areDigits_17 rfl (lv_at hl 0 rfl) ?_
      refine lv_iload_n hx hb d_Reader_areDigits_18 rfl (lv_at hl 3 rfl) ?_
      refine vp_callSi (pu_callU (As := [.int (nI k)]) (rest := []) ⟨hx, hb, hml, hown, hts⟩ (cL_octet l dC dI h res t no ki pp s0 n w pa ma ex ie cB u (nI k) hu hn) (cu_of (n := 1) hts tbin q3_122 q3_124 q3_123 q3_126 q1_15 q3_127 rfl (by decide +kernel) ⟨rfl, rfl⟩ ⟨Nat.le_of_ble_eq_true rfl, Nat.le_of_ble_eq_true rfl⟩) rfl hcs hN hK hP [0, 1] rfl [0] rfl 0 5 rfl rfl rfl hl.1 rfl (Nat.le_of_ble_eq_true rfl) d_Reader_areDigits_19) (fun r19 hr19 => ?_)
      rw [oc_eq (by omega)] at hr19
      refine lv_bipush (v := 57) hx hb d_Reader_areDigits_22 (by decide) ?_
      refine lv_icmp_le (tgt := 29) hx hb d_Reader_areDigits_24 (by decide) (fun c24 => ?_) (fun c24 => ?_)
      · refine lv_iinc (v := nI (k + 1)) (lv' := [(3, .int (nI (k + 1))), (0, .ref h), (1, .int (nI a)), (2, .int (nI b))]) hx hb d_Reader_areDigits_29 hl (k := 3) rfl (nI_1 _) (by decide) rfl (fun ls hl => ?_)
        refine lv_goto (tgt := 2) hx hb d_Reader_areDigits_32 (by decide) ?_
        exact ih (k + 1) ls (by omega) (⟨by omega, by omega, digsN_s hJ.2.2 (oc_dig hu (by rw [← hr9]; exact c14) (by rw [← hr19]; exact c24))⟩) (lv_sub hl [1, 2, 3, 0] rfl)
      · refine lv_iconst (v := 0) hx hb d_Reader_areDigits_27 (by decide) ?_
        exact W.zret (v := 0) hx hb hr (by decide) (fun t ht hW => ⟨_, rfl, bz_f (fun q => oc_nod (Or.inr (by rw [← hr19]; exact c24)) (q k hJ.1 hlt)), ht⟩) (fun q h => by cases h) d_Reader_areDigits_28
set_option maxHeartbeats 4000000 in
set_option maxRecDepth 100000 in
theorem cL_isOid (l : Launch) (dC : Nat → ClassId) (dI : Nat → Nat → Nat) (h res t no ki : Nat) (pp s0 n : Nat) (w : Option Nat) (pa ma ex ie : Int32) (cB : ClassId) (u : Nat → Nat) (a b : Nat) (hu : ∀ j, u j < 256) (hn : n < 2 ^ 30) (hab : a ≤ b) (hb2 : b ≤ n) : Met l y_Reader_isOid w_Reader_isOid ({ frames := 1, cells := 0, slots := 0, locals := 21 }) (pu_P [.ref h, .int (nI a), .int (nI b)] (dC, dI) [(h, .inr (5, [.ref res, .int ie, .ref t, .ref no, .int (nI pp), .int (nI s0), .int (wI w), .int pa, .int ma, .int ex, .ref ki])), (t, .inl (cB, n, .inl (tx u)))] [(cB, .byte)]) (vp_Si (fun r => bz r (oidOK u a b))) 0 0 (fun _ => False) := by
  refine Met.ofW (cc := b_Reader_isOid) (maxL := 5) (ret := (some FieldType.boolean)) (by decide) rfl ?_
  intro p e s m args below meth c s₁ B hml hv
  obtain ⟨rfl, hP, hK, hN⟩ := hv
  have hx := B.exec
  have hb := B.bytes
  have hr := B.returns
  have hts := atoms_spec (ws := w_Reader_isOid) B.pre
  have tbin : ∀ w ∈ tb, w ∈ w_Reader_isOid := fun w h => List.mem_cons_of_mem _ h
  have htb : ∀ w ∈ tb, w.before _ s = true := fun w h => hts w (tbin w h)
  have hown : s.vm.findClass "TrustChain$Reader" = some m.cls := findClass_of_methodNamed B.named
  have hlocks := B.notSynchronized
  have hcs : 0 ≤ (headSpec w_Reader_isOid ({ frames := 1, cells := 0, slots := 0, locals := 21 })).room.cells ∧ 0 ≤ (headSpec w_Reader_isOid ({ frames := 1, cells := 0, slots := 0, locals := 21 })).room.slots := ⟨Nat.zero_le _, Nat.zero_le _⟩
  have hP : va_P (dC, dI) classes [(h, .inr (5, [.ref res, .int ie, .ref t, .ref no, .int (nI pp), .int (nI s0), .int (wI w), .int pa, .int ma, .int ex, .ref ki])), (t, .inl (cB, n, .inl (tx u)))] s.heap := hP
  have hl := lv_entry ([.ref h, .int (nI a), .int (nI b)]) (n := 5) (Nat.le_of_ble_eq_true rfl)
  rw [lg_entry_eq]
  generalize (lg_sl ([.ref h, .int (nI a), .int (nI b)]) ++ List.replicate (5 - (lg_sl ([.ref h, .int (nI a), .int (nI b)])).length) Slot.unset).toArray = ls at hl ⊢
  have hl : lv_has ls 5 [(0, .ref h), (1, .int (nI a)), (2, .int (nI b))] := hl
  refine lv_iconst (v := 1) hx hb d_Reader_isOid_0 (by decide) ?_
  refine lv_istore_n (lv' := [(3, .int 1), (0, .ref h), (1, .int (nI a)), (2, .int (nI b))]) hx hb d_Reader_isOid_1 rfl hl (by decide) rfl (fun ls hl => ?_)
  refine lv_iload_n hx hb d_Reader_isOid_2 rfl (lv_at hl 2 rfl) ?_
  refine lv_istore (lv' := [(4, .int (nI a)), (3, .int 1), (0, .ref h), (1, .int (nI a)), (2, .int (nI b))]) hx hb d_Reader_isOid_3 hl (by decide) rfl (fun ls hl => ?_)
  refine w_loop (α := Nat × Bool) (fun z => z.1 ≤ b - a ∧ oidG u a z.1 = some z.2) (fun z => b - a - z.1) (fun z => [(0, .ref h), (1, .int (nI a)), (2, .int (nI b)), (3, .int (bI z.2)), (4, .int (nI (a + z.1)))]) (fun _ => []) 5 5 (fun z ls hJ hl ih => ?_) (0, true) ls (⟨Nat.zero_le _, rfl⟩) (lv_sub hl [2, 3, 4, 1, 0] rfl)
  refine lv_iload hx hb d_Reader_isOid_5 (lv_at hl 4 rfl) ?_
  refine lv_iload_n hx hb d_Reader_isOid_7 rfl (lv_at hl 2 rfl) ?_
  refine lv_icmp_ge (tgt := 53) hx hb d_Reader_isOid_8 (by decide) (fun c8 => ?_) (fun c8 => ?_)
  · have hke : z.1 = b - a := by rw [nI_leI (by omega) (by omega)] at c8; omega
    refine lv_iload_n hx hb d_Reader_isOid_53 rfl (lv_at hl 2 rfl) ?_
    refine lv_iload_n hx hb d_Reader_isOid_54 rfl (lv_at hl 1 rfl) ?_
    refine lv_icmp_le (tgt := 66) hx hb d_Reader_isOid_55 (by decide) (fun c55 => ?_) (fun c55 => ?_)
    · refine lv_iconst (v := 0) hx hb d_Reader_isOid_66 (by decide) ?_
      exact W.zret (v := 0) hx hb hr (by decide) (fun t ht hW => ⟨_, rfl, bz_f (fun q => absurd q.1 (by rw [nI_leI (by omega) (by omega)] at c55; omega)), ht⟩) (fun q h => by cases h) d_Reader_isOid_67
    · refine lv_iload_n hx hb d_Reader_isOid_58 rfl (lv_at hl 3 rfl) ?_
      refine lv_if_eq (tgt := 66) hx hb d_Reader_isOid_59 (by decide) (fun c59 => ?_) (fun c59 => ?_)
      · refine lv_iconst (v := 0) hx hb d_Reader_isOid_66 (by decide) ?_
        exact W.zret (v := 0) hx hb hr (by decide) (fun t ht hW => ⟨_, rfl, bz_f (fun q => absurd ((hke ▸ hJ.2).symm.trans q.2) (by rw [bI_0 c59]; simp)), ht⟩) (fun q h => by cases h) d_Reader_isOid_67
      · refine lv_iconst (v := 1) hx hb d_Reader_isOid_62 (by decide) ?_
        refine lv_goto (tgt := 67) hx hb d_Reader_isOid_63 (by decide) ?_
        exact W.zret (v := 1) hx hb hr (by decide) (fun t ht hW => ⟨_, rfl, bz_t ⟨by rw [nI_leI (by omega) (by omega)] at c55; omega, by rw [← hke, hJ.2, bI_1 c59]⟩, ht⟩) (fun q h => by cases h) d_Reader_isOid_67
  · have hlt : a + z.1 < b := by rw [nI_leI (by omega) (by omega)] at c8; omega
    refine lv_iload_n hx hb d_Reader_isOid_11 rfl (lv_at hl 3 rfl) ?_
    refine lv_if_eq (tgt := 29) hx hb d_Reader_isOid_12 (by decide) (fun c12 => ?_) (fun c12 => ?_)
    · have hno : ¬ (z.2 = true ∧ u (a + z.1) = 128) := fun q => absurd ((bI_0 c12).symm.trans q.1) (by decide)
      refine w_join (J := fun v => v = bI (decide (u (a + z.1) < 128))) (pc := 46) (ls := ls) (rest := []) (fun v hv => ?_) (fun k46 => ?_)
      · skip
        subst hv
        refine lv_istore_n (lv' := [(3, .int (bI (decide (u (a + z.1) < 128)))), (0, .ref h), (1, .int (nI a)), (2, .int (nI b)), (4, .int (nI (a + z.1)))]) hx hb d_Reader_isOid_46 rfl hl (by decide) rfl (fun ls hl => ?_)
        refine lv_iinc (v := nI (a + z.1 + 1)) (lv' := [(4, .int (nI (a + z.1 + 1))), (3, .int (bI (decide (u (a + z.1) < 128)))), (0, .ref h), (1, .int (nI a)), (2, .int (nI b))]) hx hb d_Reader_isOid_47 hl (k := 4) rfl (nI_1 _) (by decide) rfl (fun ls hl => ?_)
        refine lv_goto (tgt := 5) hx hb d_Reader_isOid_50 (by decide) ?_
        exact ih (z.1 + 1, decide (u (a + z.1) < 128)) ls (by show b - a - (z.1 + 1) < b - a - z.1; omega) (⟨by show z.1 + 1 ≤ b - a; omega, oidG_s hJ.2 hno⟩) (lv_sub hl [2, 3, 4, 1, 0] rfl)
      · skip
        refine lv_aload_n hx hb d_Reader_isOid_29 rfl (lv_at hl 0 rfl) ?_
        refine lv_iload hx hb d_Reader_isOid_30 (lv_at hl 4 rfl) ?_
        refine vp_callSi (pu_callU (As := [.int (nI (a + z.1))]) (rest := []) ⟨hx, hb, hml, hown, hts⟩ (cL_octet l dC dI h res t no ki pp s0 n w pa ma ex ie cB u (nI (a + z.1)) hu hn) (cu_of (n := 1) hts tbin q3_122 q3_124 q3_123 q3_126 q1_15 q3_127 rfl (by decide +kernel) ⟨rfl, rfl⟩ ⟨Nat.le_of_ble_eq_true rfl, Nat.le_of_ble_eq_true rfl⟩) rfl hcs hN hK hP [0, 1] rfl [0] rfl 0 5 rfl rfl rfl hl.1 rfl (Nat.le_of_ble_eq_true rfl) d_Reader_isOid_32) (fun r32 hr32 => ?_)
        rw [oc_eq (by omega)] at hr32
        refine lv_sipush (v := 128) hx hb d_Reader_isOid_35 (by decide) ?_
        have h128 := (oc_128 (n := n) hu (show a + z.1 < n by omega)).2
        rw [← hr32] at h128
        refine lv_icmp_ge (tgt := 45) hx hb d_Reader_isOid_38 (by decide) (fun c38 => ?_) (fun c38 => ?_)
        · refine lv_iconst (v := 0) hx hb d_Reader_isOid_45 (by decide) ?_
          exact k46 _ (by rw [bI, if_neg (by rw [decide_eq_true_eq]; exact Nat.not_lt.mpr (h128.mp c38))])
        · refine lv_iconst (v := 1) hx hb d_Reader_isOid_41 (by decide) ?_
          refine lv_goto (tgt := 46) hx hb d_Reader_isOid_42 (by decide) ?_
          exact k46 _ (by rw [bI, if_pos (by rw [decide_eq_true_eq]; exact Nat.not_le.mp (fun q => c38 (h128.mpr q)))])
    · refine lv_aload_n hx hb d_Reader_isOid_15 rfl (lv_at hl 0 rfl) ?_
      refine lv_iload hx hb d_Reader_isOid_16 (lv_at hl 4 rfl) ?_
      refine vp_callSi (pu_callU (As := [.int (nI (a + z.1))]) (rest := []) ⟨hx, hb, hml, hown, hts⟩ (cL_octet l dC dI h res t no ki pp s0 n w pa ma ex ie cB u (nI (a + z.1)) hu hn) (cu_of (n := 1) hts tbin q3_122 q3_124 q3_123 q3_126 q1_15 q3_127 rfl (by decide +kernel) ⟨rfl, rfl⟩ ⟨Nat.le_of_ble_eq_true rfl, Nat.le_of_ble_eq_true rfl⟩) rfl hcs hN hK hP [0, 1] rfl [0] rfl 0 5 rfl rfl rfl hl.1 rfl (Nat.le_of_ble_eq_true rfl) d_Reader_isOid_18) (fun r18 hr18 => ?_)
      rw [oc_eq (by omega)] at hr18
      refine lv_sipush (v := 128) hx hb d_Reader_isOid_21 (by decide) ?_
      refine lv_icmp_ne (tgt := 29) hx hb d_Reader_isOid_24 (by decide) (fun c24 => ?_) (fun c24 => ?_)
      · have hno : ¬ (z.2 = true ∧ u (a + z.1) = 128) := fun q => c24 (by rw [hr18]; exact (oc_128 hu (by omega)).1.mpr q.2)
        refine w_join (J := fun v => v = bI (decide (u (a + z.1) < 128))) (pc := 46) (ls := ls) (rest := []) (fun v hv => ?_) (fun k46 => ?_)
        · skip
          subst hv
          refine lv_istore_n (lv' := [(3, .int (bI (decide (u (a + z.1) < 128)))), (0, .ref h), (1, .int (nI a)), (2, .int (nI b)), (4, .int (nI (a + z.1)))]) hx hb d_Reader_isOid_46 rfl hl (by decide) rfl (fun ls hl => ?_)
          refine lv_iinc (v := nI (a + z.1 + 1)) (lv' := [(4, .int (nI (a + z.1 + 1))), (3, .int (bI (decide (u (a + z.1) < 128)))), (0, .ref h), (1, .int (nI a)), (2, .int (nI b))]) hx hb d_Reader_isOid_47 hl (k := 4) rfl (nI_1 _) (by decide) rfl (fun ls hl => ?_)
          refine lv_goto (tgt := 5) hx hb d_Reader_isOid_50 (by decide) ?_
          exact ih (z.1 + 1, decide (u (a + z.1) < 128)) ls (by show b - a - (z.1 + 1) < b - a - z.1; omega) (⟨by show z.1 + 1 ≤ b - a; omega, oidG_s hJ.2 hno⟩) (lv_sub hl [2, 3, 4, 1, 0] rfl)
        · skip
          refine lv_aload_n hx hb d_Reader_isOid_29 rfl (lv_at hl 0 rfl) ?_
          refine lv_iload hx hb d_Reader_isOid_30 (lv_at hl 4 rfl) ?_
          refine vp_callSi (pu_callU (As := [.int (nI (a + z.1))]) (rest := []) ⟨hx, hb, hml, hown, hts⟩ (cL_octet l dC dI h res t no ki pp s0 n w pa ma ex ie cB u (nI (a + z.1)) hu hn) (cu_of (n := 1) hts tbin q3_122 q3_124 q3_123 q3_126 q1_15 q3_127 rfl (by decide +kernel) ⟨rfl, rfl⟩ ⟨Nat.le_of_ble_eq_true rfl, Nat.le_of_ble_eq_true rfl⟩) rfl hcs hN hK hP [0, 1] rfl [0] rfl 0 5 rfl rfl rfl hl.1 rfl (Nat.le_of_ble_eq_true rfl) d_Reader_isOid_32) (fun r32 hr32 => ?_)
          rw [oc_eq (by omega)] at hr32
          refine lv_sipush (v := 128) hx hb d_Reader_isOid_35 (by decide) ?_
          have h128 := (oc_128 (n := n) hu (show a + z.1 < n by omega)).2
          rw [← hr32] at h128
          refine lv_icmp_ge (tgt := 45) hx hb d_Reader_isOid_38 (by decide) (fun c38 => ?_) (fun c38 => ?_)
          · refine lv_iconst (v := 0) hx hb d_Reader_isOid_45 (by decide) ?_
            exact k46 _ (by rw [bI, if_neg (by rw [decide_eq_true_eq]; exact Nat.not_lt.mpr (h128.mp c38))])
          · refine lv_iconst (v := 1) hx hb d_Reader_isOid_41 (by decide) ?_
            refine lv_goto (tgt := 46) hx hb d_Reader_isOid_42 (by decide) ?_
            exact k46 _ (by rw [bI, if_pos (by rw [decide_eq_true_eq]; exact Nat.not_le.mp (fun q => c38 (h128.mpr q)))])
      · refine lv_iconst (v := 0) hx hb d_Reader_isOid_27 (by decide) ?_
        exact W.zret (v := 0) hx hb hr (by decide) (fun t ht hW => ⟨_, rfl, bz_f (fun q => absurd ((oidG_n (oidG_0 hJ.2 ⟨bI_1 c12, (oc_128 (n := n) hu (by omega)).1.mp (by rw [← hr18]; exact c24)⟩) (b - a) (by omega)).symm.trans q.2) (by simp)), ht⟩) (fun q h => by cases h) d_Reader_isOid_28
end
section
/-! TrustChain.Reader: methods that are made of open, leave, finish, require. -/
/-- a truth as Java holds it -/
def zI (P : Prop) [Decidable P] : Int32 := if P then 1 else 0
theorem bz_zI {r : Int32} {P : Prop} [Decidable P] (h : bz r P) : r = zI P := by
  rcases h with ⟨h1, h2⟩ | ⟨h1, h2⟩
  · rw [h1, zI, if_pos h2]
  · rw [h1, zI, if_neg h2]
def rdInv (n : Nat) (x : rS) : Prop := x.1 ≤ n ∧ x.2.1 ≤ n ∧ ∀ k, x.2.2 = some k → k ≤ n
section RDI
variable {u : Nat → Nat} {n tg en : Nat} {x : rS} {bv : Int32}
theorem rdInv.w (h : rdInv n x) (hn : n < 2 ^ 30) : ∀ k, x.2.2 = some k → k < 2 ^ 31 := fun k hk => by have := h.2.2 k hk; omega
theorem opn_inv (h : rdInv n x) (he : en ≤ n) : rdInv n (rd_opn u n x tg en).1 ∧ (rd_opn u n x tg en).1.1 ≤ (rd_opn u n x tg en).2 ∧ (rd_opn u n x tg en).2 ≤ n ∧ (rd_opn u n x tg en).1.2.1 = x.1 := by
  obtain ⟨p, s, w⟩ := x
  obtain ⟨h1, h2, h3⟩ := h
  dsimp only at h1 h2 h3
  cases w with
  | some j => exact ⟨⟨h1, h1, h3⟩, Nat.le_refl _, h1, rfl⟩
  | none =>
    simp only [rd_opn]
    by_cases h4 : en ≤ p
    · rw [if_pos h4]
      exact ⟨⟨h1, h1, fun k hk => by cases hk; exact he⟩, Nat.le_refl _, h1, rfl⟩
    · rw [if_neg h4]
      cases hq : hx u n p with
      | none => exact ⟨⟨h1, h1, fun k hk => by cases hk; exact h1⟩, Nat.le_refl _, h1, rfl⟩
      | some z =>
        obtain ⟨k, m⟩ := z
        dsimp only
        by_cases h5 : u p = tg ∧ p + k + m ≤ en
        · rw [if_pos h5]
          exact ⟨⟨by show p + k ≤ n; omega, h1, fun k hk => by cases hk⟩, by show p + k ≤ p + k + m; omega, by show p + k + m ≤ n; omega, rfl⟩
        · rw [if_neg h5]
          exact ⟨⟨h1, h1, fun k hk => by cases hk; exact h1⟩, Nat.le_refl _, h1, rfl⟩
theorem lea_inv (h : rdInv n x) (he : en ≤ n) : rdInv n (rd_lea x en bv) := by
  obtain ⟨p, s, w⟩ := x
  obtain ⟨h1, h2, h3⟩ := h
  dsimp only at h1 h2 h3
  cases w with
  | some j => exact ⟨h1, h2, h3⟩
  | none =>
    simp only [rd_lea]
    by_cases h4 : bv = 0
    · rw [if_pos h4]; exact ⟨h1, h2, fun k hk => by cases hk; exact h2⟩
    · rw [if_neg h4]; exact ⟨he, h2, fun k hk => by cases hk⟩
theorem fin_inv (h : rdInv n x) : rdInv n (rd_fin x en) := by
  obtain ⟨p, s, w⟩ := x
  obtain ⟨h1, h2, h3⟩ := h
  dsimp only at h1 h2 h3
  cases w with
  | some j => exact ⟨h1, h2, h3⟩
  | none =>
    simp only [rd_fin]
    by_cases h4 : p < en
    · rw [if_pos h4]; exact ⟨h1, h2, fun k hk => by cases hk; exact h1⟩
    · rw [if_neg h4]; exact ⟨h1, h2, fun k hk => by cases hk⟩
theorem req_inv (h : rdInv n x) : rdInv n (rd_req x bv) := by
  obtain ⟨p, s, w⟩ := x
  obtain ⟨h1, h2, h3⟩ := h
  dsimp only at h1 h2 h3
  cases w with
  | some j => exact ⟨h1, h2, h3⟩
  | none =>
    simp only [rd_req]
    by_cases h4 : bv = 0
    · rw [if_pos h4]; exact ⟨h1, h2, fun k hk => by cases hk; exact h2⟩
    · rw [if_neg h4]; exact ⟨h1, h2, fun k hk => by cases hk⟩
theorem ref_inv {k : Nat} (h : rdInv n x) (hk : k ≤ n) : rdInv n (rd_ref x k) := by
  obtain ⟨p, s, w⟩ := x
  obtain ⟨h1, h2, h3⟩ := h
  dsimp only at h1 h2 h3
  cases w with
  | some j => exact ⟨h1, h2, h3⟩
  | none => exact ⟨h1, h2, fun j hj => by cases hj; exact hk⟩
end RDI
/-- flag, openBits: what the reader is behind them -/
def rd_flag (u : Nat → Nat) (n : Nat) (x : rS) (en : Nat) : rS :=
  let o := rd_opn u n x 1 en
  rd_lea o.1 o.2 (zI (o.2 - o.1.1 = 1 ∧ oc u n o.1.1 = 255))
def rd_bits (u : Nat → Nat) (n : Nat) (x : rS) (en : Nat) : rS × Nat :=
  let o := rd_opn u n x 3 en
  (rd_lea o.1 (o.1.1 + 1) (zI (o.1.1 < o.2 ∧ oc u n o.1.1 = 0)), o.2)

def y_Reader_flag : MethodName := ⟨"TrustChain$Reader", "flag", "(I)V"⟩
abbrev b_Reader_flag : ByteArray := prog_8_method_13_code
def w_Reader_flag : List Cond := Cond.code y_Reader_flag b_Reader_flag 3 (none) :: tb
theorem d_Reader_flag_0 : decode b_Reader_flag 0 = .ok (.aload_n 0, 1) := by decide +kernel
theorem d_Reader_flag_1 : decode b_Reader_flag 1 = .ok (.iconst 1, 1) := by decide +kernel
theorem d_Reader_flag_2 : decode b_Reader_flag 2 = .ok (.iload_n 1, 1) := by decide +kernel
theorem d_Reader_flag_3 : decode b_Reader_flag 3 = .ok (.invokevirtual 58, 3) := by decide +kernel
theorem d_Reader_flag_6 : decode b_Reader_flag 6 = .ok (.istore_n 2, 1) := by decide +kernel
theorem d_Reader_flag_7 : decode b_Reader_flag 7 = .ok (.aload_n 0, 1) := by decide +kernel
theorem d_Reader_flag_8 : decode b_Reader_flag 8 = .ok (.iload_n 2, 1) := by decide +kernel
theorem d_Reader_flag_9 : decode b_Reader_flag 9 = .ok (.iload_n 2, 1) := by decide +kernel
theorem d_Reader_flag_10 : decode b_Reader_flag 10 = .ok (.aload_n 0, 1) := by decide +kernel
theorem d_Reader_flag_11 : decode b_Reader_flag 11 = .ok (.getfield 9, 3) := by decide +kernel
theorem d_Reader_flag_14 : decode b_Reader_flag 14 = .ok (.isub, 1) := by decide +kernel
theorem d_Reader_flag_15 : decode b_Reader_flag 15 = .ok (.iconst 1, 1) := by decide +kernel
theorem d_Reader_flag_16 : decode b_Reader_flag 16 = .ok (.if_icmp .ne 21, 3) := by decide +kernel
theorem d_Reader_flag_19 : decode b_Reader_flag 19 = .ok (.aload_n 0, 1) := by decide +kernel
theorem d_Reader_flag_20 : decode b_Reader_flag 20 = .ok (.aload_n 0, 1) := by decide +kernel
theorem d_Reader_flag_21 : decode b_Reader_flag 21 = .ok (.getfield 9, 3) := by decide +kernel
theorem d_Reader_flag_24 : decode b_Reader_flag 24 = .ok (.invokevirtual 54, 3) := by decide +kernel
theorem d_Reader_flag_27 : decode b_Reader_flag 27 = .ok (.sipush 255, 3) := by decide +kernel
theorem d_Reader_flag_30 : decode b_Reader_flag 30 = .ok (.if_icmp .ne 7, 3) := by decide +kernel
theorem d_Reader_flag_33 : decode b_Reader_flag 33 = .ok (.iconst 1, 1) := by decide +kernel
theorem d_Reader_flag_34 : decode b_Reader_flag 34 = .ok (.goto 4, 3) := by decide +kernel
theorem d_Reader_flag_37 : decode b_Reader_flag 37 = .ok (.iconst 0, 1) := by decide +kernel
theorem d_Reader_flag_38 : decode b_Reader_flag 38 = .ok (.invokevirtual 62, 3) := by decide +kernel
theorem d_Reader_flag_41 : decode b_Reader_flag 41 = .ok (.return_, 1) := by decide +kernel
def y_Reader_openBits : MethodName := ⟨"TrustChain$Reader", "openBits", "(I)I"⟩
abbrev b_Reader_openBits : ByteArray := prog_8_method_14_code
def w_Reader_openBits : List Cond := Cond.code y_Reader_openBits b_Reader_openBits 3 ((some FieldType.int)) :: tb
theorem d_Reader_openBits_0 : decode b_Reader_openBits 0 = .ok (.aload_n 0, 1) := by decide +kernel
theorem d_Reader_openBits_1 : decode b_Reader_openBits 1 = .ok (.iconst 3, 1) := by decide +kernel
theorem d_Reader_openBits_2 : decode b_Reader_openBits 2 = .ok (.iload_n 1, 1) := by decide +kernel
theorem d_Reader_openBits_3 : decode b_Reader_openBits 3 = .ok (.invokevirtual 58, 3) := by decide +kernel
theorem d_Reader_openBits_6 : decode b_Reader_openBits 6 = .ok (.istore_n 2, 1) := by decide +kernel
theorem d_Reader_openBits_7 : decode b_Reader_openBits 7 = .ok (.aload_n 0, 1) := by decide +kernel
theorem d_Reader_openBits_8 : decode b_Reader_openBits 8 = .ok (.aload_n 0, 1) := by decide +kernel
theorem d_Reader_openBits_9 : decode b_Reader_openBits 9 = .ok (.getfield 9, 3) := by decide +kernel
theorem d_Reader_openBits_12 : decode b_Reader_openBits 12 = .ok (.iconst 1, 1) := by decide +kernel
theorem d_Reader_openBits_13 : decode b_Reader_openBits 13 = .ok (.iadd, 1) := by decide +kernel
theorem d_Reader_openBits_14 : decode b_Reader_openBits 14 = .ok (.aload_n 0, 1) := by decide +kernel
theorem d_Reader_openBits_15 : decode b_Reader_openBits 15 = .ok (.getfield 9, 3) := by decide +kernel
theorem d_Reader_openBits_18 : decode b_Reader_openBits 18 = .ok (.iload_n 2, 1) := by decide +kernel
theorem d_Reader_openBits_19 : decode b_Reader_openBits 19 = .ok (.if_icmp .ge 18, 3) := by decide +kernel
theorem d_Reader_openBits_22 : decode b_Reader_openBits 22 = .ok (.aload_n 0, 1) := by decide +kernel
theorem d_Reader_openBits_23 : decode b_Reader_openBits 23 = .ok (.aload_n 0, 1) := by decide +kernel
theorem d_Reader_openBits_24 : decode b_Reader_openBits 24 = .ok (.getfield 9, 3) := by decide +kernel
theorem d_Reader_openBits_27 : decode b_Reader_openBits 27 = .ok (.invokevirtual 54, 3) := by decide +kernel
theorem d_Reader_openBits_30 : decode b_Reader_openBits 30 = .ok (.ifCond .ne 7, 3) := by decide +kernel
theorem d_Reader_openBits_33 : decode b_Reader_openBits 33 = .ok (.iconst 1, 1) := by decide +kernel
theorem d_Reader_openBits_34 : decode b_Reader_openBits 34 = .ok (.goto 4, 3) := by decide +kernel
theorem d_Reader_openBits_37 : decode b_Reader_openBits 37 = .ok (.iconst 0, 1) := by decide +kernel
theorem d_Reader_openBits_38 : decode b_Reader_openBits 38 = .ok (.invokevirtual 62, 3) := by decide +kernel
theorem d_Reader_openBits_41 : decode b_Reader_openBits 41 = .ok (.iload_n 2, 1) := by decide +kernel
theorem d_Reader_openBits_42 : decode b_Reader_openBits 42 = .ok (.ireturn, 1) := by decide +kernel
set_option maxHeartbeats 4000000 in
set_option maxRecDepth 100000 in
theorem cC_flag (l : Launch) (dC : Nat → ClassId) (dI : Nat → Nat → Nat) (h res t no ki n : Nat) (x : rS) (pa ma ex ie : Int32) (cB : ClassId) (u : Nat → Nat) (en : Nat) (sz : Nat) (hu : ∀ j, u j < 256) (hn : n < 2 ^ 30) (hi : rdInv n x) (he : en ≤ n) : Met l y_Reader_flag w_Reader_flag ({ frames := 2, cells := 0, slots := 0, locals := 46 }) (mu_P [.ref h, .int (nI en)] (dC, dI) [(h, .inr (4, [.ref res, .ref t, .ref no, .int (nI x.1), .int (nI x.2.1), .int (wI x.2.2), .int pa, .int ma, .int ex, .ref ki])), (t, .inl (cB, n, .inl (tx u)))] [(cB, .byte)] sz) (va_Qv (fun (u' : rS) => u' = rd_flag u n x en) (mu_B (dC, dI) [(cB, .byte)] (va_A [(h, .inr (4, [.ref res, .ref t, .ref no, .int (nI x.1), .int (nI x.2.1), .int (wI x.2.2), .int pa, .int ma, .int ex, .ref ki])), (t, .inl (cB, n, .inl (tx u)))] sz) (fun u' : rS => [(h, .inr (4, [.ref res, .ref t, .ref no, .int (nI u'.1), .int (nI u'.2.1), .int (wI u'.2.2), .int pa, .int ma, .int ex, .ref ki])), (t, .inl (cB, n, .inl (tx u)))])) (va_A [(h, .inr (4, [.ref res, .ref t, .ref no, .int (nI x.1), .int (nI x.2.1), .int (wI x.2.2), .int pa, .int ma, .int ex, .ref ki])), (t, .inl (cB, n, .inl (tx u)))] sz)) 0 0 (va_A [(h, .inr (4, [.ref res, .ref t, .ref no, .int (nI x.1), .int (nI x.2.1), .int (wI x.2.2), .int pa, .int ma, .int ex, .ref ki])), (t, .inl (cB, n, .inl (tx u)))] sz) := by
  refine Met.ofW (cc := b_Reader_flag) (maxL := 3) (ret := none) (by decide) rfl ?_
  intro p e s m args below meth c s₁ B hml hv
  obtain ⟨rfl, hsz, hP, hK, hD0, hN⟩ := hv
  have hx := B.exec
  have hb := B.bytes
  have hr := B.returns
  have hts := atoms_spec (ws := w_Reader_flag) B.pre
  have tbin : ∀ w ∈ tb, w ∈ w_Reader_flag := fun w h => List.mem_cons_of_mem _ h
  have htb : ∀ w ∈ tb, w.before _ s = true := fun w h => hts w (tbin w h)
  have hown : s.vm.findClass "TrustChain$Reader" = some m.cls := findClass_of_methodNamed B.named
  have hlocks := B.notSynchronized
  subst hsz
  have hD := hD0.self (sz := s.heap.size)
  generalize hAe : va_A [(h, .inr (4, [.ref res, .ref t, .ref no, .int (nI x.1), .int (nI x.2.1), .int (wI x.2.2), .int pa, .int ma, .int ex, .ref ki])), (t, .inl (cB, n, .inl (tx u)))] s.heap.size = A at hD ⊢
  have hA : ∀ q : Nat, s.heap.size ≤ q → A q := fun q h => by rw [← hAe]; exact Or.inr h
  have hS : va_S A s.heap s.heap [] := va_S.rf
  have hcs : 0 ≤ (headSpec w_Reader_flag ({ frames := 2, cells := 0, slots := 0, locals := 46 })).room.cells ∧ 0 ≤ (headSpec w_Reader_flag ({ frames := 2, cells := 0, slots := 0, locals := 46 })).room.slots := ⟨Nat.le_refl _, Nat.le_refl _⟩
  have hP : va_P (dC, dI) classes [(h, .inr (4, [.ref res, .ref t, .ref no, .int (nI x.1), .int (nI x.2.1), .int (wI x.2.2), .int pa, .int ma, .int ex, .ref ki])), (t, .inl (cB, n, .inl (tx u)))] s.heap := hP
  have hl := lv_entry ([.ref h, .int (nI en)]) (n := 3) (Nat.le_of_ble_eq_true rfl)
  rw [lg_entry_eq]
  generalize (lg_sl ([.ref h, .int (nI en)]) ++ List.replicate (3 - (lg_sl ([.ref h, .int (nI en)])).length) Slot.unset).toArray = ls at hl ⊢
  have hl : lv_has ls 3 [(0, .ref h), (1, .int (nI en))] := hl
  refine lv_aload_n hx hb d_Reader_flag_0 rfl (lv_at hl 0 rfl) ?_
  refine lv_iconst (v := 1) hx hb d_Reader_flag_1 (by decide) ?_
  refine lv_iload_n hx hb d_Reader_flag_2 rfl (lv_at hl 1 rfl) ?_
  have hFc := va_free (wc := [(h, .inr (4, [.ref res, .ref t, .ref no, .int (nI x.1), .int (nI x.2.1), .int (wI x.2.2), .int pa, .int ma, .int ex, .ref ki])), (t, .inl (cB, n, .inl (tx u)))]) hD hS hA [0, 1] rfl
  refine va_calli (mu_runU (As := [.int 1, .int (nI en)]) (rest := []) ⟨hx, hb, hml, hown, hts⟩ (cC_open l dC dI h res t no ki x.1 x.2.1 n x.2.2 pa ma ex ie cB u 1 en s.heap.size hu hn ((hi).w hn) he (hi).1 (by decide)) (cu_of (n := 2) hts tbin q3_138 q10_17 q3_120 q10_18 q1_15 q3_121 rfl (by decide +kernel) ⟨rfl, rfl⟩ ⟨Nat.le_of_ble_eq_true rfl, Nat.le_of_ble_eq_true rfl⟩) rfl ⟨Nat.le_of_ble_eq_true rfl, Nat.le_of_ble_eq_true rfl⟩ hN hK hP hD [0, 1] (by decide) rfl [0] rfl 0 4 rfl rfl rfl hl.1 rfl (Nat.le_of_ble_eq_true rfl) d_Reader_flag_3) hS (fun q _ h => hFc q h) hFc (fun r3 u3 tS H3 locs ht hvm hw3 hB hz1 hk1 hS => ?_)
  obtain ⟨x3, rfl⟩ : ∃ z, z = u3 := ⟨_, rfl⟩
  obtain ⟨hP1, hK1, hD1⟩ := hB
  rw [ht] at hP1
  obtain ⟨hP, hD⟩ := va_join (wr := []) (w1 := [(h, .inr (4, [.ref res, .ref t, .ref no, .int (nI x3.1), .int (nI x3.2.1), .int (wI x3.2.2), .int pa, .int ma, .int ex, .ref ki])), (t, .inl (cB, n, .inl (tx u)))]) hP hD [0, 1] [] rfl rfl (by decide) (by decide) hk1 hFc hP1 hD1
  have hP : va_P (dC, dI) classes [(h, .inr (4, [.ref res, .ref t, .ref no, .int (nI x3.1), .int (nI x3.2.1), .int (wI x3.2.2), .int pa, .int ma, .int ex, .ref ki])), (t, .inl (cB, n, .inl (tx u)))] H3 := hP
  have hD : va_D A [(h, .inr (4, [.ref res, .ref t, .ref no, .int (nI x3.1), .int (nI x3.2.1), .int (wI x3.2.2), .int pa, .int ma, .int ex, .ref ki])), (t, .inl (cB, n, .inl (tx u)))] := hD
  have hw3 : x3 = (rd_opn u n x 1 en).1 ∧ r3 = nI (rd_opn u n x 1 en).2 := hw3
  have hi3 := opn_inv (u := u) (tg := 1) hi he
  obtain ⟨o3, ho3⟩ : ∃ o, o = rd_opn u n x 1 en := ⟨_, rfl⟩
  rw [← ho3] at hw3 hi3
  obtain ⟨rfl, rfl⟩ := hw3
  have hP : va_P (dC, dI) classes [(h, .inr (4, [.ref res, .ref t, .ref no, .int (nI o3.1.1), .int (nI o3.1.2.1), .int (wI o3.1.2.2), .int pa, .int ma, .int ex, .ref ki])), (t, .inl (cB, n, .inl (tx u)))] H3 := hP
  have hD : va_D A [(h, .inr (4, [.ref res, .ref t, .ref no, .int (nI o3.1.1), .int (nI o3.1.2.1), .int (wI o3.1.2.2), .int pa, .int ma, .int ex, .ref ki])), (t, .inl (cB, n, .inl (tx u)))] := hD
  refine lv_istore_n (lv' := [(2, .int (nI o3.2)), (0, .ref h), (1, .int (nI en))]) hx hb d_Reader_flag_6 rfl hl (by decide) rfl (fun ls hl => ?_)
  refine lv_aload_n hx hb d_Reader_flag_7 rfl (lv_at hl 1 rfl) ?_
  refine lv_iload_n hx hb d_Reader_flag_8 rfl (lv_at hl 0 rfl) ?_
  have hb1 := hi3.1.1
  have hb2 := hi3.2.1
  have hb3 := hi3.2.2.1
  refine w_join (J := fun v => bz v (o3.2 - o3.1.1 = 1 ∧ oc u n o3.1.1 = 255)) (pc := 38) (ls := ls) (rest := [.int (nI o3.2), .ref h]) (fun v hv => ?_) (fun k38 => ?_)
  · skip
    have hFc := va_free (wc := [(h, .inr (4, [.ref res, .ref t, .ref no, .int (nI o3.1.1), .int (nI o3.1.2.1), .int (wI o3.1.2.2), .int pa, .int ma, .int ex, .ref ki]))]) hD hS hA [0] rfl
    refine va_callv (mu_runU (As := [.int (nI o3.2), .int v]) (rest := []) ⟨hx, hb, hml, hown, hts⟩ (cC_leave l dC dI h res t no ki o3.1.1 o3.1.2.1 n o3.1.2.2 pa ma ex ie cB u o3.2 v H3.size ((hi3.1).w hn)) (cu_of (n := 2) hts tbin q3_139 q3_141 q3_140 q3_142 q1_15 q3_144 rfl (by decide +kernel) ⟨rfl, rfl⟩ ⟨Nat.le_of_ble_eq_true rfl, Nat.le_of_ble_eq_true rfl⟩) rfl ⟨Nat.le_of_ble_eq_true rfl, Nat.le_of_ble_eq_true rfl⟩ hN hK hP hD [0] (by decide) rfl [] rfl 0 4 rfl rfl rfl hl.1 rfl (Nat.le_of_ble_eq_true rfl) d_Reader_flag_38) hS (fun q _ h => hFc q h) hFc (fun u38 tS H38 locs ht hvm hw38 hB hz1 hk1 hS => ?_)
    obtain ⟨x38, rfl⟩ : ∃ z, z = u38 := ⟨_, rfl⟩
    obtain ⟨hP1, hK1, hD1⟩ := hB
    rw [ht] at hP1
    obtain ⟨hP, hD⟩ := va_join (wr := [(t, .inl (cB, n, .inl (tx u)))]) (w1 := [(h, .inr (4, [.ref res, .ref t, .ref no, .int (nI x38.1), .int (nI x38.2.1), .int (wI x38.2.2), .int pa, .int ma, .int ex, .ref ki]))]) hP hD [0] [1] rfl rfl (by decide) (by decide) hk1 hFc hP1 hD1
    have hP : va_P (dC, dI) classes [(t, .inl (cB, n, .inl (tx u))), (h, .inr (4, [.ref res, .ref t, .ref no, .int (nI x38.1), .int (nI x38.2.1), .int (wI x38.2.2), .int pa, .int ma, .int ex, .ref ki]))] H38 := hP
    have hD : va_D A [(t, .inl (cB, n, .inl (tx u))), (h, .inr (4, [.ref res, .ref t, .ref no, .int (nI x38.1), .int (nI x38.2.1), .int (wI x38.2.2), .int pa, .int ma, .int ex, .ref ki]))] := hD
    have hw38 : x38 = rd_lea o3.1 o3.2 v := hw38
    have hi38 : rdInv n x38 := by rw [hw38]; exact lea_inv hi3.1 hi3.2.2.1
    exact W.vret hx hb hr (fun t ht hW => ⟨⟨x38, rfl, hw38.trans (by rw [bz_zI hv, ho3]; rfl), by rw [ht]; exact hP.sub [1, 0] rfl, va_K.moved hW.alike hK, hD.sub [1, 0] (by decide) rfl⟩, hS.F ht⟩) hS.2.2 d_Reader_flag_41
  · skip
    have hb1 := hi3.1.1
    have hb2 := hi3.2.1
    have hb3 := hi3.2.2.1
    refine lv_iload_n hx hb d_Reader_flag_9 rfl (lv_at hl 0 rfl) ?_
    refine lv_aload_n hx hb d_Reader_flag_10 rfl (lv_at hl 1 rfl) ?_
    refine va_get (v := .int (nI o3.1.1)) hx hb htb i_CertificateReader hown hK hP 0 rfl rfl 3 (by decide) (htb _ q3_68) (fun _ h9 => h9) rfl d_Reader_flag_11 ?_
    refine lv_isub hx hb d_Reader_flag_14 ?_
    refine lv_iconst (v := 1) hx hb d_Reader_flag_15 (by decide) ?_
    refine lv_icmp_ne (tgt := 37) hx hb d_Reader_flag_16 (by decide) (fun c16 => ?_) (fun c16 => ?_)
    · refine lv_iconst (v := 0) hx hb d_Reader_flag_37 (by decide) ?_
      exact k38 _ (bz_f (fun q => c16 (by rw [pk_sub hi3.2.1, q.1]; rfl)))
    · refine lv_aload_n hx hb d_Reader_flag_19 rfl (lv_at hl 1 rfl) ?_
      refine lv_aload_n hx hb d_Reader_flag_20 rfl (lv_at hl 1 rfl) ?_
      refine va_get (v := .int (nI o3.1.1)) hx hb htb i_CertificateReader hown hK hP 0 rfl rfl 3 (by decide) (htb _ q3_68) (fun _ h9 => h9) rfl d_Reader_flag_21 ?_
      refine vp_callSi (pu_callU (As := [.int (nI o3.1.1)]) (rest := [.int (nI o3.2), .ref h]) ⟨hx, hb, hml, hown, hts⟩ (cC_octet l dC dI h res t no ki o3.1.1 o3.1.2.1 n o3.1.2.2 pa ma ex ie cB u (nI o3.1.1) hu hn) (cu_of (n := 1) hts tbin q3_122 q3_124 q3_123 q3_125 q1_15 q3_127 rfl (by decide +kernel) ⟨rfl, rfl⟩ ⟨Nat.le_of_ble_eq_true rfl, Nat.le_of_ble_eq_true rfl⟩) rfl hcs hN hK hP [0, 1] rfl [0] rfl 0 4 rfl rfl rfl hl.1 rfl (Nat.le_of_ble_eq_true rfl) d_Reader_flag_24) (fun r24 hr24 => ?_)
      refine lv_sipush (v := 255) hx hb d_Reader_flag_27 (by decide) ?_
      refine lv_icmp_ne (tgt := 37) hx hb d_Reader_flag_30 (by decide) (fun c30 => ?_) (fun c30 => ?_)
      · refine lv_iconst (v := 0) hx hb d_Reader_flag_37 (by decide) ?_
        exact k38 _ (bz_f (fun q => c30 (by rw [hr24, oc_eq (by have := hi3.1.1; omega)]; exact q.2)))
      · refine lv_iconst (v := 1) hx hb d_Reader_flag_33 (by decide) ?_
        refine lv_goto (tgt := 38) hx hb d_Reader_flag_34 (by decide) ?_
        exact k38 _ (bz_t ⟨by rw [pk_sub hi3.2.1, show (1 : Int32) = nI 1 from rfl, nI_eq (by omega) (by omega)] at c16; exact c16, by rw [← oc_eq (by have := hi3.1.1; omega), ← hr24]; exact c30⟩)
set_option maxHeartbeats 4000000 in
set_option maxRecDepth 100000 in
theorem cC_openBits (l : Launch) (dC : Nat → ClassId) (dI : Nat → Nat → Nat) (h res t no ki n : Nat) (x : rS) (pa ma ex ie : Int32) (cB : ClassId) (u : Nat → Nat) (en : Nat) (sz : Nat) (hu : ∀ j, u j < 256) (hn : n < 2 ^ 30) (hi : rdInv n x) (he : en ≤ n) : Met l y_Reader_openBits w_Reader_openBits ({ frames := 2, cells := 0, slots := 0, locals := 46 }) (mu_P [.ref h, .int (nI en)] (dC, dI) [(h, .inr (4, [.ref res, .ref t, .ref no, .int (nI x.1), .int (nI x.2.1), .int (wI x.2.2), .int pa, .int ma, .int ex, .ref ki])), (t, .inl (cB, n, .inl (tx u)))] [(cB, .byte)] sz) (va_Qi (fun r (u' : rS) => u' = (rd_bits u n x en).1 ∧ r = nI (rd_bits u n x en).2) (mu_B (dC, dI) [(cB, .byte)] (va_A [(h, .inr (4, [.ref res, .ref t, .ref no, .int (nI x.1), .int (nI x.2.1), .int (wI x.2.2), .int pa, .int ma, .int ex, .ref ki])), (t, .inl (cB, n, .inl (tx u)))] sz) (fun u' : rS => [(h, .inr (4, [.ref res, .ref t, .ref no, .int (nI u'.1), .int (nI u'.2.1), .int (wI u'.2.2), .int pa, .int ma, .int ex, .ref ki])), (t, .inl (cB, n, .inl (tx u)))])) (va_A [(h, .inr (4, [.ref res, .ref t, .ref no, .int (nI x.1), .int (nI x.2.1), .int (wI x.2.2), .int pa, .int ma, .int ex, .ref ki])), (t, .inl (cB, n, .inl (tx u)))] sz)) 0 0 (va_A [(h, .inr (4, [.ref res, .ref t, .ref no, .int (nI x.1), .int (nI x.2.1), .int (wI x.2.2), .int pa, .int ma, .int ex, .ref ki])), (t, .inl (cB, n, .inl (tx u)))] sz) := by
  refine Met.ofW (cc := b_Reader_openBits) (maxL := 3) (ret := (some FieldType.int)) (by decide) rfl ?_
  intro p e s m args below meth c s₁ B hml hv
  obtain ⟨rfl, hsz, hP, hK, hD0, hN⟩ := hv
  have hx := B.exec
  have hb := B.bytes
  have hr := B.returns
  have hts := atoms_spec (ws := w_Reader_openBits) B.pre
  have tbin : ∀ w ∈ tb, w ∈ w_Reader_openBits := fun w h => List.mem_cons_of_mem _ h
  have htb : ∀ w ∈ tb, w.before _ s = true := fun w h => hts w (tbin w h)
  have hown : s.vm.findClass "TrustChain$Reader" = some m.cls := findClass_of_methodNamed B.named
  have hlocks := B.notSynchronized
  subst hsz
  have hD := hD0.self (sz := s.heap.size)
  generalize hAe : va_A [(h, .inr (4, [.ref res, .ref t, .ref no, .int (nI x.1), .int (nI x.2.1), .int (wI x.2.2), .int pa, .int ma, .int ex, .ref ki])), (t, .inl (cB, n, .inl (tx u)))] s.heap.size = A at hD ⊢
  have hA : ∀ q : Nat, s.heap.size ≤ q → A q := fun q h => by rw [← hAe]; exact Or.inr h
  have hS : va_S A s.heap s.heap [] := va_S.rf
  have hcs : 0 ≤ (headSpec w_Reader_openBits ({ frames := 2, cells := 0, slots := 0, locals := 46 })).room.cells ∧ 0 ≤ (headSpec w_Reader_openBits ({ frames := 2, cells := 0, slots := 0, locals := 46 })).room.slots := ⟨Nat.le_refl _, Nat.le_refl _⟩
  have hP : va_P (dC, dI) classes [(h, .inr (4, [.ref res, .ref t, .ref no, .int (nI x.1), .int (nI x.2.1), .int (wI x.2.2), .int pa, .int ma, .int ex, .ref ki])), (t, .inl (cB, n, .inl (tx u)))] s.heap := hP
  have hl := lv_entry ([.ref h, .int (nI en)]) (n := 3) (Nat.le_of_ble_eq_true rfl)
  rw [lg_entry_eq]
  generalize (lg_sl ([.ref h, .int (nI en)]) ++ List.replicate (3 - (lg_sl ([.ref h, .int (nI en)])).length) Slot.unset).toArray = ls at hl ⊢
  have hl : lv_has ls 3 [(0, .ref h), (1, .int (nI en))] := hl
  refine lv_aload_n hx hb d_Reader_openBits_0 rfl (lv_at hl 0 rfl) ?_
  refine lv_iconst (v := 3) hx hb d_Reader_openBits_1 (by decide) ?_
  refine lv_iload_n hx hb d_Reader_openBits_2 rfl (lv_at hl 1 rfl) ?_
  have hFc := va_free (wc := [(h, .inr (4, [.ref res, .ref t, .ref no, .int (nI x.1), .int (nI x.2.1), .int (wI x.2.2), .int pa, .int ma, .int ex, .ref ki])), (t, .inl (cB, n, .inl (tx u)))]) hD hS hA [0, 1] rfl
  refine va_calli (mu_runU (As := [.int 3, .int (nI en)]) (rest := []) ⟨hx, hb, hml, hown, hts⟩ (cC_open l dC dI h res t no ki x.1 x.2.1 n x.2.2 pa ma ex ie cB u 3 en s.heap.size hu hn ((hi).w hn) he (hi).1 (by decide)) (cu_of (n := 2) hts tbin q3_138 q10_17 q3_120 q10_18 q1_15 q3_121 rfl (by decide +kernel) ⟨rfl, rfl⟩ ⟨Nat.le_of_ble_eq_true rfl, Nat.le_of_ble_eq_true rfl⟩) rfl ⟨Nat.le_of_ble_eq_true rfl, Nat.le_of_ble_eq_true rfl⟩ hN hK hP hD [0, 1] (by decide) rfl [0] rfl 0 4 rfl rfl rfl hl.1 rfl (Nat.le_of_ble_eq_true rfl) d_Reader_openBits_3) hS (fun q _ h => hFc q h) hFc (fun r3 u3 tS H3 locs ht hvm hw3 hB hz1 hk1 hS => ?_)
  obtain ⟨x3, rfl⟩ : ∃ z, z = u3 := ⟨_, rfl⟩
  obtain ⟨hP1, hK1, hD1⟩ := hB
  rw [ht] at hP1
  obtain ⟨hP, hD⟩ := va_join (wr := []) (w1 := [(h, .inr (4, [.ref res, .ref t, .ref no, .int (nI x3.1), .int (nI x3.2.1), .int (wI x3.2.2), .int pa, .int ma, .int ex, .ref ki])), (t, .inl (cB, n, .inl (tx u)))]) hP hD [0, 1] [] rfl rfl (by decide) (by decide) hk1 hFc hP1 hD1
  have hP : va_P (dC, dI) classes [(h, .inr (4, [.ref res, .ref t, .ref no, .int (nI x3.1), .int (nI x3.2.1), .int (wI x3.2.2), .int pa, .int ma, .int ex, .ref ki])), (t, .inl (cB, n, .inl (tx u)))] H3 := hP
  have hD : va_D A [(h, .inr (4, [.ref res, .ref t, .ref no, .int (nI x3.1), .int (nI x3.2.1), .int (wI x3.2.2), .int pa, .int ma, .int ex, .ref ki])), (t, .inl (cB, n, .inl (tx u)))] := hD
  have hw3 : x3 = (rd_opn u n x 3 en).1 ∧ r3 = nI (rd_opn u n x 3 en).2 := hw3
  have hi3 := opn_inv (u := u) (tg := 3) hi he
  obtain ⟨o3, ho3⟩ : ∃ o, o = rd_opn u n x 3 en := ⟨_, rfl⟩
  rw [← ho3] at hw3 hi3
  obtain ⟨rfl, rfl⟩ := hw3
  have hP : va_P (dC, dI) classes [(h, .inr (4, [.ref res, .ref t, .ref no, .int (nI o3.1.1), .int (nI o3.1.2.1), .int (wI o3.1.2.2), .int pa, .int ma, .int ex, .ref ki])), (t, .inl (cB, n, .inl (tx u)))] H3 := hP
  have hD : va_D A [(h, .inr (4, [.ref res, .ref t, .ref no, .int (nI o3.1.1), .int (nI o3.1.2.1), .int (wI o3.1.2.2), .int pa, .int ma, .int ex, .ref ki])), (t, .inl (cB, n, .inl (tx u)))] := hD
  refine lv_istore_n (lv' := [(2, .int (nI o3.2)), (0, .ref h), (1, .int (nI en))]) hx hb d_Reader_openBits_6 rfl hl (by decide) rfl (fun ls hl => ?_)
  refine lv_aload_n hx hb d_Reader_openBits_7 rfl (lv_at hl 1 rfl) ?_
  refine lv_aload_n hx hb d_Reader_openBits_8 rfl (lv_at hl 1 rfl) ?_
  refine va_get (v := .int (nI o3.1.1)) hx hb htb i_CertificateReader hown hK hP 0 rfl rfl 3 (by decide) (htb _ q3_68) (fun _ h9 => h9) rfl d_Reader_openBits_9 ?_
  refine lv_iconst (v := 1) hx hb d_Reader_openBits_12 (by decide) ?_
  refine lv_iadd hx hb d_Reader_openBits_13 ?_
  have hb1 := hi3.1.1
  have hb2 := hi3.2.1
  have hb3 := hi3.2.2.1
  rw [show ((nI o3.1.1) + 1 : Int32) = nI (o3.1.1 + 1) from nI_add o3.1.1 1]
  refine w_join (J := fun v => bz v (o3.1.1 < o3.2 ∧ oc u n o3.1.1 = 0)) (pc := 38) (ls := ls) (rest := [.int (nI (o3.1.1 + 1)), .ref h]) (fun v hv => ?_) (fun k38 => ?_)
  · skip
    have hFc := va_free (wc := [(h, .inr (4, [.ref res, .ref t, .ref no, .int (nI o3.1.1), .int (nI o3.1.2.1), .int (wI o3.1.2.2), .int pa, .int ma, .int ex, .ref ki]))]) hD hS hA [0] rfl
    refine va_callv (mu_runU (As := [.int (nI (o3.1.1 + 1)), .int v]) (rest := []) ⟨hx, hb, hml, hown, hts⟩ (cC_leave l dC dI h res t no ki o3.1.1 o3.1.2.1 n o3.1.2.2 pa ma ex ie cB u (o3.1.1 + 1) v H3.size ((hi3.1).w hn)) (cu_of (n := 2) hts tbin q3_139 q3_141 q3_140 q3_142 q1_15 q3_144 rfl (by decide +kernel) ⟨rfl, rfl⟩ ⟨Nat.le_of_ble_eq_true rfl, Nat.le_of_ble_eq_true rfl⟩) rfl ⟨Nat.le_of_ble_eq_true rfl, Nat.le_of_ble_eq_true rfl⟩ hN hK hP hD [0] (by decide) rfl [] rfl 0 4 rfl rfl rfl hl.1 rfl (Nat.le_of_ble_eq_true rfl) d_Reader_openBits_38) hS (fun q _ h => hFc q h) hFc (fun u38 tS H38 locs ht hvm hw38 hB hz1 hk1 hS => ?_)
    obtain ⟨x38, rfl⟩ : ∃ z, z = u38 := ⟨_, rfl⟩
    obtain ⟨hP1, hK1, hD1⟩ := hB
    rw [ht] at hP1
    obtain ⟨hP, hD⟩ := va_join (wr := [(t, .inl (cB, n, .inl (tx u)))]) (w1 := [(h, .inr (4, [.ref res, .ref t, .ref no, .int (nI x38.1), .int (nI x38.2.1), .int (wI x38.2.2), .int pa, .int ma, .int ex, .ref ki]))]) hP hD [0] [1] rfl rfl (by decide) (by decide) hk1 hFc hP1 hD1
    have hP : va_P (dC, dI) classes [(t, .inl (cB, n, .inl (tx u))), (h, .inr (4, [.ref res, .ref t, .ref no, .int (nI x38.1), .int (nI x38.2.1), .int (wI x38.2.2), .int pa, .int ma, .int ex, .ref ki]))] H38 := hP
    have hD : va_D A [(t, .inl (cB, n, .inl (tx u))), (h, .inr (4, [.ref res, .ref t, .ref no, .int (nI x38.1), .int (nI x38.2.1), .int (wI x38.2.2), .int pa, .int ma, .int ex, .ref ki]))] := hD
    have hw38 : x38 = rd_lea o3.1 (o3.1.1 + 1) v := hw38
    refine lv_iload_n hx hb d_Reader_openBits_41 rfl (lv_at hl 0 rfl) ?_
    exact W.iret (v := nI o3.2) hx hb hr (fun t ht hW => ⟨⟨_, x38, rfl, ⟨hw38.trans (by rw [bz_zI hv, ho3]; rfl), by rw [ho3]; rfl⟩, by rw [ht]; exact hP.sub [1, 0] rfl, va_K.moved hW.alike hK, hD.sub [1, 0] (by decide) rfl⟩, hS.F ht⟩) hS.2.2 d_Reader_openBits_42
  · skip
    have hb1 := hi3.1.1
    have hb2 := hi3.2.1
    have hb3 := hi3.2.2.1
    refine lv_aload_n hx hb d_Reader_openBits_14 rfl (lv_at hl 1 rfl) ?_
    refine va_get (v := .int (nI o3.1.1)) hx hb htb i_CertificateReader hown hK hP 0 rfl rfl 3 (by decide) (htb _ q3_68) (fun _ h9 => h9) rfl d_Reader_openBits_15 ?_
    refine lv_iload_n hx hb d_Reader_openBits_18 rfl (lv_at hl 0 rfl) ?_
    refine lv_icmp_ge (tgt := 37) hx hb d_Reader_openBits_19 (by decide) (fun c19 => ?_) (fun c19 => ?_)
    · refine lv_iconst (v := 0) hx hb d_Reader_openBits_37 (by decide) ?_
      exact k38 _ (bz_f (fun q => absurd q.1 (by rw [nI_leI (by omega) (by omega)] at c19; omega)))
    · refine lv_aload_n hx hb d_Reader_openBits_22 rfl (lv_at hl 1 rfl) ?_
      refine lv_aload_n hx hb d_Reader_openBits_23 rfl (lv_at hl 1 rfl) ?_
      refine va_get (v := .int (nI o3.1.1)) hx hb htb i_CertificateReader hown hK hP 0 rfl rfl 3 (by decide) (htb _ q3_68) (fun _ h9 => h9) rfl d_Reader_openBits_24 ?_
      refine vp_callSi (pu_callU (As := [.int (nI o3.1.1)]) (rest := [.int (nI (o3.1.1 + 1)), .ref h]) ⟨hx, hb, hml, hown, hts⟩ (cC_octet l dC dI h res t no ki o3.1.1 o3.1.2.1 n o3.1.2.2 pa ma ex ie cB u (nI o3.1.1) hu hn) (cu_of (n := 1) hts tbin q3_122 q3_124 q3_123 q3_125 q1_15 q3_127 rfl (by decide +kernel) ⟨rfl, rfl⟩ ⟨Nat.le_of_ble_eq_true rfl, Nat.le_of_ble_eq_true rfl⟩) rfl hcs hN hK hP [0, 1] rfl [0] rfl 0 4 rfl rfl rfl hl.1 rfl (Nat.le_of_ble_eq_true rfl) d_Reader_openBits_27) (fun r27 hr27 => ?_)
      refine lv_if_ne (tgt := 37) hx hb d_Reader_openBits_30 (by decide) (fun c30 => ?_) (fun c30 => ?_)
      · refine lv_iconst (v := 0) hx hb d_Reader_openBits_37 (by decide) ?_
        exact k38 _ (bz_f (fun q => c30 (by rw [hr27, oc_eq (by omega)]; exact q.2)))
      · refine lv_iconst (v := 1) hx hb d_Reader_openBits_33 (by decide) ?_
        refine lv_goto (tgt := 38) hx hb d_Reader_openBits_34 (by decide) ?_
        exact k38 _ (bz_t ⟨by rw [nI_leI (by omega) (by omega)] at c19; omega, by rw [← oc_eq (by omega), ← hr27]; exact c30⟩)
set_option maxHeartbeats 4000000 in
set_option maxRecDepth 100000 in
theorem cL_flag (l : Launch) (dC : Nat → ClassId) (dI : Nat → Nat → Nat) (h res t no ki n : Nat) (x : rS) (pa ma ex ie : Int32) (cB : ClassId) (u : Nat → Nat) (en : Nat) (sz : Nat) (hu : ∀ j, u j < 256) (hn : n < 2 ^ 30) (hi : rdInv n x) (he : en ≤ n) : Met l y_Reader_flag w_Reader_flag ({ frames := 2, cells := 0, slots := 0, locals := 46 }) (mu_P [.ref h, .int (nI en)] (dC, dI) [(h, .inr (5, [.ref res, .int ie, .ref t, .ref no, .int (nI x.1), .int (nI x.2.1), .int (wI x.2.2), .int pa, .int ma, .int ex, .ref ki])), (t, .inl (cB, n, .inl (tx u)))] [(cB, .byte)] sz) (va_Qv (fun (u' : rS) => u' = rd_flag u n x en) (mu_B (dC, dI) [(cB, .byte)] (va_A [(h, .inr (5, [.ref res, .int ie, .ref t, .ref no, .int (nI x.1), .int (nI x.2.1), .int (wI x.2.2), .int pa, .int ma, .int ex, .ref ki])), (t, .inl (cB, n, .inl (tx u)))] sz) (fun u' : rS => [(h, .inr (5, [.ref res, .int ie, .ref t, .ref no, .int (nI u'.1), .int (nI u'.2.1), .int (wI u'.2.2), .int pa, .int ma, .int ex, .ref ki])), (t, .inl (cB, n, .inl (tx u)))])) (va_A [(h, .inr (5, [.ref res, .int ie, .ref t, .ref no, .int (nI x.1), .int (nI x.2.1), .int (wI x.2.2), .int pa, .int ma, .int ex, .ref ki])), (t, .inl (cB, n, .inl (tx u)))] sz)) 0 0 (va_A [(h, .inr (5, [.ref res, .int ie, .ref t, .ref no, .int (nI x.1), .int (nI x.2.1), .int (wI x.2.2), .int pa, .int ma, .int ex, .ref ki])), (t, .inl (cB, n, .inl (tx u)))] sz) := by
  refine Met.ofW (cc := b_Reader_flag) (maxL := 3) (ret := none) (by decide) rfl ?_
  intro p e s m args below meth c s₁ B hml hv
  obtain ⟨rfl, hsz, hP, hK, hD0, hN⟩ := hv
  have hx := B.exec
  have hb := B.bytes
  have hr := B.returns
  have hts := atoms_spec (ws := w_Reader_flag) B.pre
  have tbin : ∀ w ∈ tb, w ∈ w_Reader_flag := fun w h => List.mem_cons_of_mem _ h
  have htb : ∀ w ∈ tb, w.before _ s = true := fun w h => hts w (tbin w h)
  have hown : s.vm.findClass "TrustChain$Reader" = some m.cls := findClass_of_methodNamed B.named
  have hlocks := B.notSynchronized
  subst hsz
  have hD := hD0.self (sz := s.heap.size)
  generalize hAe : va_A [(h, .inr (5, [.ref res, .int ie, .ref t, .ref no, .int (nI x.1), .int (nI x.2.1), .int (wI x.2.2), .int pa, .int ma, .int ex, .ref ki])), (t, .inl (cB, n, .inl (tx u)))] s.heap.size = A at hD ⊢
  have hA : ∀ q : Nat, s.heap.size ≤ q → A q := fun q h => by rw [← hAe]; exact Or.inr h
  have hS : va_S A s.heap s.heap [] := va_S.rf
  have hcs : 0 ≤ (headSpec w_Reader_flag ({ frames := 2, cells := 0, slots := 0, locals := 46 })).room.cells ∧ 0 ≤ (headSpec w_Reader_flag ({ frames := 2, cells := 0, slots := 0, locals := 46 })).room.slots := ⟨Nat.le_refl _, Nat.le_refl _⟩
  have hP : va_P (dC, dI) classes [(h, .inr (5, [.ref res, .int ie, .ref t, .ref no, .int (nI x.1), .int (nI x.2.1), .int (wI x.2.2), .int pa, .int ma, .int ex, .ref ki])), (t, .inl (cB, n, .inl (tx u)))] s.heap := hP
  have hl := lv_entry ([.ref h, .int (nI en)]) (n := 3) (Nat.le_of_ble_eq_true rfl)
  rw [lg_entry_eq]
  generalize (lg_sl ([.ref h, .int (nI en)]) ++ List.replicate (3 - (lg_sl ([.ref h, .int (nI en)])).length) Slot.unset).toArray = ls at hl ⊢
  have hl : lv_has ls 3 [(0, .ref h), (1, .int (nI en))] := hl
  refine lv_aload_n hx hb d_Reader_flag_0 rfl (lv_at hl 0 rfl) ?_
  refine lv_iconst (v := 1) hx hb d_Reader_flag_1 (by decide) ?_
  refine lv_iload_n hx hb d_Reader_flag_2 rfl (lv_at hl 1 rfl) ?_
  have hFc := va_free (wc := [(h, .inr (5, [.ref res, .int ie, .ref t, .ref no, .int (nI x.1), .int (nI x.2.1), .int (wI x.2.2), .int pa, .int ma, .int ex, .ref ki])), (t, .inl (cB, n, .inl (tx u)))]) hD hS hA [0, 1] rfl
  refine va_calli (mu_runU (As := [.int 1, .int (nI en)]) (rest := []) ⟨hx, hb, hml, hown, hts⟩ (cL_open l dC dI h res t no ki x.1 x.2.1 n x.2.2 pa ma ex ie cB u 1 en s.heap.size hu hn ((hi).w hn) he (hi).1 (by decide)) (cu_of (n := 2) hts tbin q3_138 q10_17 q3_120 q10_19 q1_15 q3_121 rfl (by decide +kernel) ⟨rfl, rfl⟩ ⟨Nat.le_of_ble_eq_true rfl, Nat.le_of_ble_eq_true rfl⟩) rfl ⟨Nat.le_of_ble_eq_true rfl, Nat.le_of_ble_eq_true rfl⟩ hN hK hP hD [0, 1] (by decide) rfl [0] rfl 0 5 rfl rfl rfl hl.1 rfl (Nat.le_of_ble_eq_true rfl) d_Reader_flag_3) hS (fun q _ h => hFc q h) hFc (fun r3 u3 tS H3 locs ht hvm hw3 hB hz1 hk1 hS => ?_)
  obtain ⟨x3, rfl⟩ : ∃ z, z = u3 := ⟨_, rfl⟩
  obtain ⟨hP1, hK1, hD1⟩ := hB
  rw [ht] at hP1
  obtain ⟨hP, hD⟩ := va_join (wr := []) (w1 := [(h, .inr (5, [.ref res, .int ie, .ref t, .ref no, .int (nI x3.1), .int (nI x3.2.1), .int (wI x3.2.2), .int pa, .int ma, .int ex, .ref ki])), (t, .inl (cB, n, .inl (tx u)))]) hP hD [0, 1] [] rfl rfl (by decide) (by decide) hk1 hFc hP1 hD1
  have hP : va_P (dC, dI) classes [(h, .inr (5, [.ref res, .int ie, .ref t, .ref no, .int (nI x3.1), .int (nI x3.2.1), .int (wI x3.2.2), .int pa, .int ma, .int ex, .ref ki])), (t, .inl (cB, n, .inl (tx u)))] H3 := hP
  have hD : va_D A [(h, .inr (5, [.ref res, .int ie, .ref t, .ref no, .int (nI x3.1), .int (nI x3.2.1), .int (wI x3.2.2), .int pa, .int ma, .int ex, .ref ki])), (t, .inl (cB, n, .inl (tx u)))] := hD
  have hw3 : x3 = (rd_opn u n x 1 en).1 ∧ r3 = nI (rd_opn u n x 1 en).2 := hw3
  have hi3 := opn_inv (u := u) (tg := 1) hi he
  obtain ⟨o3, ho3⟩ : ∃ o, o = rd_opn u n x 1 en := ⟨_, rfl⟩
  rw [← ho3] at hw3 hi3
  obtain ⟨rfl, rfl⟩ := hw3
  have hP : va_P (dC, dI) classes [(h, .inr (5, [.ref res, .int ie, .ref t, .ref no, .int (nI o3.1.1), .int (nI o3.1.2.1), .int (wI o3.1.2.2), .int pa, .int ma, .int ex, .ref ki])), (t, .inl (cB, n, .inl (tx u)))] H3 := hP
  have hD : va_D A [(h, .inr (5, [.ref res, .int ie, .ref t, .ref no, .int (nI o3.1.1), .int (nI o3.1.2.1), .int (wI o3.1.2.2), .int pa, .int ma, .int ex, .ref ki])), (t, .inl (cB, n, .inl (tx u)))] := hD
  refine lv_istore_n (lv' := [(2, .int (nI o3.2)), (0, .ref h), (1, .int (nI en))]) hx hb d_Reader_flag_6 rfl hl (by decide) rfl (fun ls hl => ?_)
  refine lv_aload_n hx hb d_Reader_flag_7 rfl (lv_at hl 1 rfl) ?_
  refine lv_iload_n hx hb d_Reader_flag_8 rfl (lv_at hl 0 rfl) ?_
  have hb1 := hi3.1.1
  have hb2 := hi3.2.1
  have hb3 := hi3.2.2.1
  refine w_join (J := fun v => bz v (o3.2 - o3.1.1 = 1 ∧ oc u n o3.1.1 = 255)) (pc := 38) (ls := ls) (rest := [.int (nI o3.2), .ref h]) (fun v hv => ?_) (fun k38 => ?_)
  · skip
    have hFc := va_free (wc := [(h, .inr (5, [.ref res, .int ie, .ref t, .ref no, .int (nI o3.1.1), .int (nI o3.1.2.1), .int (wI o3.1.2.2), .int pa, .int ma, .int ex, .ref ki]))]) hD hS hA [0] rfl
    refine va_callv (mu_runU (As := [.int (nI o3.2), .int v]) (rest := []) ⟨hx, hb, hml, hown, hts⟩ (cL_leave l dC dI h res t no ki o3.1.1 o3.1.2.1 n o3.1.2.2 pa ma ex ie cB u o3.2 v H3.size ((hi3.1).w hn)) (cu_of (n := 2) hts tbin q3_139 q3_141 q3_140 q3_143 q1_15 q3_144 rfl (by decide +kernel) ⟨rfl, rfl⟩ ⟨Nat.le_of_ble_eq_true rfl, Nat.le_of_ble_eq_true rfl⟩) rfl ⟨Nat.le_of_ble_eq_true rfl, Nat.le_of_ble_eq_true rfl⟩ hN hK hP hD [0] (by decide) rfl [] rfl 0 5 rfl rfl rfl hl.1 rfl (Nat.le_of_ble_eq_true rfl) d_Reader_flag_38) hS (fun q _ h => hFc q h) hFc (fun u38 tS H38 locs ht hvm hw38 hB hz1 hk1 hS => ?_)
    obtain ⟨x38, rfl⟩ : ∃ z, z = u38 := ⟨_, rfl⟩
    obtain ⟨hP1, hK1, hD1⟩ := hB
    rw [ht] at hP1
    obtain ⟨hP, hD⟩ := va_join (wr := [(t, .inl (cB, n, .inl (tx u)))]) (w1 := [(h, .inr (5, [.ref res, .int ie, .ref t, .ref no, .int (nI x38.1), .int (nI x38.2.1), .int (wI x38.2.2), .int pa, .int ma, .int ex, .ref ki]))]) hP hD [0] [1] rfl rfl (by decide) (by decide) hk1 hFc hP1 hD1
    have hP : va_P (dC, dI) classes [(t, .inl (cB, n, .inl (tx u))), (h, .inr (5, [.ref res, .int ie, .ref t, .ref no, .int (nI x38.1), .int (nI x38.2.1), .int (wI x38.2.2), .int pa, .int ma, .int ex, .ref ki]))] H38 := hP
    have hD : va_D A [(t, .inl (cB, n, .inl (tx u))), (h, .inr (5, [.ref res, .int ie, .ref t, .ref no, .int (nI x38.1), .int (nI x38.2.1), .int (wI x38.2.2), .int pa, .int ma, .int ex, .ref ki]))] := hD
    have hw38 : x38 = rd_lea o3.1 o3.2 v := hw38
    have hi38 : rdInv n x38 := by rw [hw38]; exact lea_inv hi3.1 hi3.2.2.1
    exact W.vret hx hb hr (fun t ht hW => ⟨⟨x38, rfl, hw38.trans (by rw [bz_zI hv, ho3]; rfl), by rw [ht]; exact hP.sub [1, 0] rfl, va_K.moved hW.alike hK, hD.sub [1, 0] (by decide) rfl⟩, hS.F ht⟩) hS.2.2 d_Reader_flag_41
  · skip
    have hb1 := hi3.1.1
    have hb2 := hi3.2.1
    have hb3 := hi3.2.2.1
    refine lv_iload_n hx hb d_Reader_flag_9 rfl (lv_at hl 0 rfl) ?_
    refine lv_aload_n hx hb d_Reader_flag_10 rfl (lv_at hl 1 rfl) ?_
    refine va_get (v := .int (nI o3.1.1)) hx hb htb i_ListReader hown hK hP 0 rfl rfl 4 (by decide) (htb _ q3_68) (fun _ h9 => h9) rfl d_Reader_flag_11 ?_
    refine lv_isub hx hb d_Reader_flag_14 ?_
    refine lv_iconst (v := 1) hx hb d_Reader_flag_15 (by decide) ?_
    refine lv_icmp_ne (tgt := 37) hx hb d_Reader_flag_16 (by decide) (fun c16 => ?_) (fun c16 => ?_)
    · refine lv_iconst (v := 0) hx hb d_Reader_flag_37 (by decide) ?_
      exact k38 _ (bz_f (fun q => c16 (by rw [pk_sub hi3.2.1, q.1]; rfl)))
    · refine lv_aload_n hx hb d_Reader_flag_19 rfl (lv_at hl 1 rfl) ?_
      refine lv_aload_n hx hb d_Reader_flag_20 rfl (lv_at hl 1 rfl) ?_
      refine va_get (v := .int (nI o3.1.1)) hx hb htb i_ListReader hown hK hP 0 rfl rfl 4 (by decide) (htb _ q3_68) (fun _ h9 => h9) rfl d_Reader_flag_21 ?_
      refine vp_callSi (pu_callU (As := [.int (nI o3.1.1)]) (rest := [.int (nI o3.2), .ref h]) ⟨hx, hb, hml, hown, hts⟩ (cL_octet l dC dI h res t no ki o3.1.1 o3.1.2.1 n o3.1.2.2 pa ma ex ie cB u (nI o3.1.1) hu hn) (cu_of (n := 1) hts tbin q3_122 q3_124 q3_123 q3_126 q1_15 q3_127 rfl (by decide +kernel) ⟨rfl, rfl⟩ ⟨Nat.le_of_ble_eq_true rfl, Nat.le_of_ble_eq_true rfl⟩) rfl hcs hN hK hP [0, 1] rfl [0] rfl 0 5 rfl rfl rfl hl.1 rfl (Nat.le_of_ble_eq_true rfl) d_Reader_flag_24) (fun r24 hr24 => ?_)
      refine lv_sipush (v := 255) hx hb d_Reader_flag_27 (by decide) ?_
      refine lv_icmp_ne (tgt := 37) hx hb d_Reader_flag_30 (by decide) (fun c30 => ?_) (fun c30 => ?_)
      · refine lv_iconst (v := 0) hx hb d_Reader_flag_37 (by decide) ?_
        exact k38 _ (bz_f (fun q => c30 (by rw [hr24, oc_eq (by have := hi3.1.1; omega)]; exact q.2)))
      · refine lv_iconst (v := 1) hx hb d_Reader_flag_33 (by decide) ?_
        refine lv_goto (tgt := 38) hx hb d_Reader_flag_34 (by decide) ?_
        exact k38 _ (bz_t ⟨by rw [pk_sub hi3.2.1, show (1 : Int32) = nI 1 from rfl, nI_eq (by omega) (by omega)] at c16; exact c16, by rw [← oc_eq (by have := hi3.1.1; omega), ← hr24]; exact c30⟩)
set_option maxHeartbeats 4000000 in
set_option maxRecDepth 100000 in
theorem cL_openBits (l : Launch) (dC : Nat → ClassId) (dI : Nat → Nat → Nat) (h res t no ki n : Nat) (x : rS) (pa ma ex ie : Int32) (cB : ClassId) (u : Nat → Nat) (en : Nat) (sz : Nat) (hu : ∀ j, u j < 256) (hn : n < 2 ^ 30) (hi : rdInv n x) (he : en ≤ n) : Met l y_Reader_openBits w_Reader_openBits ({ frames := 2, cells := 0, slots := 0, locals := 46 }) (mu_P [.ref h, .int (nI en)] (dC, dI) [(h, .inr (5, [.ref res, .int ie, .ref t, .ref no, .int (nI x.1), .int (nI x.2.1), .int (wI x.2.2), .int pa, .int ma, .int ex, .ref ki])), (t, .inl (cB, n, .inl (tx u)))] [(cB, .byte)] sz) (va_Qi (fun r (u' : rS) => u' = (rd_bits u n x en).1 ∧ r = nI (rd_bits u n x en).2) (mu_B (dC, dI) [(cB, .byte)] (va_A [(h, .inr (5, [.ref res, .int ie, .ref t, .ref no, .int (nI x.1), .int (nI x.2.1), .int (wI x.2.2), .int pa, .int ma, .int ex, .ref ki])), (t, .inl (cB, n, .inl (tx u)))] sz) (fun u' : rS => [(h, .inr (5, [.ref res, .int ie, .ref t, .ref no, .int (nI u'.1), .int (nI u'.2.1), .int (wI u'.2.2), .int pa, .int ma, .int ex, .ref ki])), (t, .inl (cB, n, .inl (tx u)))])) (va_A [(h, .inr (5, [.ref res, .int ie, .ref t, .ref no, .int (nI x.1), .int (nI x.2.1), .int (wI x.2.2), .int pa, .int ma, .int ex, .ref ki])), (t, .inl (cB, n, .inl (tx u)))] sz)) 0 0 (va_A [(h, .inr (5, [.ref res, .int ie, .ref t, .ref no, .int (nI x.1), .int (nI x.2.1), .int (wI x.2.2), .int pa, .int ma, .int ex, .ref ki])), (t, .inl (cB, n, .inl (tx u)))] sz) := by
  refine Met.ofW (cc := b_Reader_openBits) (maxL := 3) (ret := (some FieldType.int)) (by decide) rfl ?_
  intro p e s m args below meth c s₁ B hml hv
  obtain ⟨rfl, hsz, hP, hK, hD0, hN⟩ := hv
  have hx := B.exec
  have hb := B.bytes
  have hr := B.returns
  have hts := atoms_spec (ws := w_Reader_openBits) B.pre
  have tbin : ∀ w ∈ tb, w ∈ w_Reader_openBits := fun w h => List.mem_cons_of_mem _ h
  have htb : ∀ w ∈ tb, w.before _ s = true := fun w h => hts w (tbin w h)
  have hown : s.vm.findClass "TrustChain$Reader" = some m.cls := findClass_of_methodNamed B.named
  have hlocks := B.notSynchronized
  subst hsz
  have hD := hD0.self (sz := s.heap.size)
  generalize hAe : va_A [(h, .inr (5, [.ref res, .int ie, .ref t, .ref no, .int (nI x.1), .int (nI x.2.1), .int (wI x.2.2), .int pa, .int ma, .int ex, .ref ki])), (t, .inl (cB, n, .inl (tx u)))] s.heap.size = A at hD ⊢
  have hA : ∀ q : Nat, s.heap.size ≤ q → A q := fun q h => by rw [← hAe]; exact Or.inr h
  have hS : va_S A s.heap s.heap [] := va_S.rf
  have hcs : 0 ≤ (headSpec w_Reader_openBits ({ frames := 2, cells := 0, slots := 0, locals := 46 })).room.cells ∧ 0 ≤ (headSpec w_Reader_openBits ({ frames := 2, cells := 0, slots := 0, locals := 46 })).room.slots := ⟨Nat.le_refl _, Nat.le_refl _⟩
  have hP : va_P (dC, dI) classes [(h, .inr (5, [.ref res, .int ie, .ref t, .ref no, .int (nI x.1), .int (nI x.2.1), .int (wI x.2.2), .int pa, .int ma, .int ex, .ref ki])), (t, .inl (cB, n, .inl (tx u)))] s.heap := hP
  have hl := lv_entry ([.ref h, .int (nI en)]) (n := 3) (Nat.le_of_ble_eq_true rfl)
  rw [lg_entry_eq]
  generalize (lg_sl ([.ref h, .int (nI en)]) ++ List.replicate (3 - (lg_sl ([.ref h, .int (nI en)])).length) Slot.unset).toArray = ls at hl ⊢
  have hl : lv_has ls 3 [(0, .ref h), (1, .int (nI en))] := hl
  refine lv_aload_n hx hb d_Reader_openBits_0 rfl (lv_at hl 0 rfl) ?_
  refine lv_iconst (v := 3) hx hb d_Reader_openBits_1 (by decide) ?_
  refine lv_iload_n hx hb d_Reader_openBits_2 rfl (lv_at hl 1 rfl) ?_
  have hFc := va_free (wc := [(h, .inr (5, [.ref res, .int ie, .ref t, .ref no, .int (nI x.1), .int (nI x.2.1), .int (wI x.2.2), .int pa, .int ma, .int ex, .ref ki])), (t, .inl (cB, n, .inl (tx u)))]) hD hS hA [0, 1] rfl
  refine va_calli (mu_runU (As := [.int 3, .int (nI en)]) (rest := []) ⟨hx, hb, hml, hown, hts⟩ (cL_open l dC dI h res t no ki x.1 x.2.1 n x.2.2 pa ma ex ie cB u 3 en s.heap.size hu hn ((hi).w hn) he (hi).1 (by decide)) (cu_of (n := 2) hts tbin q3_138 q10_17 q3_120 q10_19 q1_15 q3_121 rfl (by decide +kernel) ⟨rfl, rfl⟩ ⟨Nat.le_of_ble_eq_true rfl, Nat.le_of_ble_eq_true rfl⟩) rfl ⟨Nat.le_of_ble_eq_true rfl, Nat.le_of_ble_eq_true rfl⟩ hN hK hP hD [0, 1] (by decide) rfl [0] rfl 0 5 rfl rfl rfl hl.1 rfl (Nat.le_of_ble_eq_true rfl) d_Reader_openBits_3) hS (fun q _ h => hFc q h) hFc (fun r3 u3 tS H3 locs ht hvm hw3 hB hz1 hk1 hS => ?_)
  obtain ⟨x3, rfl⟩ : ∃ z, z = u3 := ⟨_, rfl⟩
  obtain ⟨hP1, hK1, hD1⟩ := hB
  rw [ht] at hP1
  obtain ⟨hP, hD⟩ := va_join (wr := []) (w1 := [(h, .inr (5, [.ref res, .int ie, .ref t, .ref no, .int (nI x3.1), .int (nI x3.2.1), .int (wI x3.2.2), .int pa, .int ma, .int ex, .ref ki])), (t, .inl (cB, n, .inl (tx u)))]) hP hD [0, 1] [] rfl rfl (by decide) (by decide) hk1 hFc hP1 hD1
  have hP : va_P (dC, dI) classes [(h, .inr (5, [.ref res, .int ie, .ref t, .ref no, .int (nI x3.1), .int (nI x3.2.1), .int (wI x3.2.2), .int pa, .int ma, .int ex, .ref ki])), (t, .inl (cB, n, .inl (tx u)))] H3 := hP
  have hD : va_D A [(h, .inr (5, [.ref res, .int ie, .ref t, .ref no, .int (nI x3.1), .int (nI x3.2.1), .int (wI x3.2.2), .int pa, .int ma, .int ex, .ref ki])), (t, .inl (cB, n, .inl (tx u)))] := hD
  have hw3 : x3 = (rd_opn u n x 3 en).1 ∧ r3 = nI (rd_opn u n x 3 en).2 := hw3
  have hi3 := opn_inv (u := u) (tg := 3) hi he
  obtain ⟨o3, ho3⟩ : ∃ o, o = rd_opn u n x 3 en := ⟨_, rfl⟩
  rw [← ho3] at hw3 hi3
  obtain ⟨rfl, rfl⟩ := hw3
  have hP : va_P (dC, dI) classes [(h, .inr (5, [.ref res, .int ie, .ref t, .ref no, .int (nI o3.1.1), .int (nI o3.1.2.1), .int (wI o3.1.2.2), .int pa, .int ma, .int ex, .ref ki])), (t, .inl (cB, n, .inl (tx u)))] H3 := hP
  have hD : va_D A [(h, .inr (5, [.ref res, .int ie, .ref t, .ref no, .int (nI o3.1.1), .int (nI o3.1.2.1), .int (wI o3.1.2.2), .int pa, .int ma, .int ex, .ref ki])), (t, .inl (cB, n, .inl (tx u)))] := hD
  refine lv_istore_n (lv' := [(2, .int (nI o3.2)), (0, .ref h), (1, .int (nI en))]) hx hb d_Reader_openBits_6 rfl hl (by decide) rfl (fun ls hl => ?_)
  refine lv_aload_n hx hb d_Reader_openBits_7 rfl (lv_at hl 1 rfl) ?_
  refine lv_aload_n hx hb d_Reader_openBits_8 rfl (lv_at hl 1 rfl) ?_
  refine va_get (v := .int (nI o3.1.1)) hx hb htb i_ListReader hown hK hP 0 rfl rfl 4 (by decide) (htb _ q3_68) (fun _ h9 => h9) rfl d_Reader_openBits_9 ?_
  refine lv_iconst (v := 1) hx hb d_Reader_openBits_12 (by decide) ?_
  refine lv_iadd hx hb d_Reader_openBits_13 ?_
  have hb1 := hi3.1.1
  have hb2 := hi3.2.1
  have hb3 := hi3.2.2.1
  rw [show ((nI o3.1.1) + 1 : Int32) = nI (o3.1.1 + 1) from nI_add o3.1.1 1]
  refine w_join (J := fun v => bz v (o3.1.1 < o3.2 ∧ oc u n o3.1.1 = 0)) (pc := 38) (ls := ls) (rest := [.int (nI (o3.1.1 + 1)), .ref h]) (fun v hv => ?_) (fun k38 => ?_)
  · skip
    have hFc := va_free (wc := [(h, .inr (5, [.ref res, .int ie, .ref t, .ref no, .int (nI o3.1.1), .int (nI o3.1.2.1), .int (wI o3.1.2.2), .int pa, .int ma, .int ex, .ref ki]))]) hD hS hA [0] rfl
    refine va_callv (mu_runU (As := [.int (nI (o3.1.1 + 1)), .int v]) (rest := []) ⟨hx, hb, hml, hown, hts⟩ (cL_leave l dC dI h res t no ki o3.1.1 o3.1.2.1 n o3.1.2.2 pa ma ex ie cB u (o3.1.1 + 1) v H3.size ((hi3.1).w hn)) (cu_of (n := 2) hts tbin q3_139 q3_141 q3_140 q3_143 q1_15 q3_144 rfl (by decide +kernel) ⟨rfl, rfl⟩ ⟨Nat.le_of_ble_eq_true rfl, Nat.le_of_ble_eq_true rfl⟩) rfl ⟨Nat.le_of_ble_eq_true rfl, Nat.le_of_ble_eq_true rfl⟩ hN hK hP hD [0] (by decide) rfl [] rfl 0 5 rfl rfl rfl hl.1 rfl (Nat.le_of_ble_eq_true rfl) d_Reader_openBits_38) hS (fun q _ h => hFc q h) hFc (fun u38 tS H38 locs ht hvm hw38 hB hz1 hk1 hS => ?_)
    obtain ⟨x38, rfl⟩ : ∃ z, z = u38 := ⟨_, rfl⟩
    obtain ⟨hP1, hK1, hD1⟩ := hB
    rw [ht] at hP1
    obtain ⟨hP, hD⟩ := va_join (wr := [(t, .inl (cB, n, .inl (tx u)))]) (w1 := [(h, .inr (5, [.ref res, .int ie, .ref t, .ref no, .int (nI x38.1), .int (nI x38.2.1), .int (wI x38.2.2), .int pa, .int ma, .int ex, .ref ki]))]) hP hD [0] [1] rfl rfl (by decide) (by decide) hk1 hFc hP1 hD1
    have hP : va_P (dC, dI) classes [(t, .inl (cB, n, .inl (tx u))), (h, .inr (5, [.ref res, .int ie, .ref t, .ref no, .int (nI x38.1), .int (nI x38.2.1), .int (wI x38.2.2), .int pa, .int ma, .int ex, .ref ki]))] H38 := hP
    have hD : va_D A [(t, .inl (cB, n, .inl (tx u))), (h, .inr (5, [.ref res, .int ie, .ref t, .ref no, .int (nI x38.1), .int (nI x38.2.1), .int (wI x38.2.2), .int pa, .int ma, .int ex, .ref ki]))] := hD
    have hw38 : x38 = rd_lea o3.1 (o3.1.1 + 1) v := hw38
    refine lv_iload_n hx hb d_Reader_openBits_41 rfl (lv_at hl 0 rfl) ?_
    exact W.iret (v := nI o3.2) hx hb hr (fun t ht hW => ⟨⟨_, x38, rfl, ⟨hw38.trans (by rw [bz_zI hv, ho3]; rfl), by rw [ho3]; rfl⟩, by rw [ht]; exact hP.sub [1, 0] rfl, va_K.moved hW.alike hK, hD.sub [1, 0] (by decide) rfl⟩, hS.F ht⟩) hS.2.2 d_Reader_openBits_42
  · skip
    have hb1 := hi3.1.1
    have hb2 := hi3.2.1
    have hb3 := hi3.2.2.1
    refine lv_aload_n hx hb d_Reader_openBits_14 rfl (lv_at hl 1 rfl) ?_
    refine va_get (v := .int (nI o3.1.1)) hx hb htb i_ListReader hown hK hP 0 rfl rfl 4 (by decide) (htb _ q3_68) (fun _ h9 => h9) rfl d_Reader_openBits_15 ?_
    refine lv_iload_n hx hb d_Reader_openBits_18 rfl (lv_at hl 0 rfl) ?_
    refine lv_icmp_ge (tgt := 37) hx hb d_Reader_openBits_19 (by decide) (fun c19 => ?_) (fun c19 => ?_)
    · refine lv_iconst (v := 0) hx hb d_Reader_openBits_37 (by decide) ?_
      exact k38 _ (bz_f (fun q => absurd q.1 (by rw [nI_leI (by omega) (by omega)] at c19; omega)))
    · refine lv_aload_n hx hb d_Reader_openBits_22 rfl (lv_at hl 1 rfl) ?_
      refine lv_aload_n hx hb d_Reader_openBits_23 rfl (lv_at hl 1 rfl) ?_
      refine va_get (v := .int (nI o3.1.1)) hx hb htb i_ListReader hown hK hP 0 rfl rfl 4 (by decide) (htb _ q3_68) (fun _ h9 => h9) rfl d_Reader_openBits_24 ?_
      refine vp_callSi (pu_callU (As := [.int (nI o3.1.1)]) (rest := [.int (nI (o3.1.1 + 1)), .ref h]) ⟨hx, hb, hml, hown, hts⟩ (cL_octet l dC dI h res t no ki o3.1.1 o3.1.2.1 n o3.1.2.2 pa ma ex ie cB u (nI o3.1.1) hu hn) (cu_of (n := 1) hts tbin q3_122 q3_124 q3_123 q3_126 q1_15 q3_127 rfl (by decide +kernel) ⟨rfl, rfl⟩ ⟨Nat.le_of_ble_eq_true rfl, Nat.le_of_ble_eq_true rfl⟩) rfl hcs hN hK hP [0, 1] rfl [0] rfl 0 5 rfl rfl rfl hl.1 rfl (Nat.le_of_ble_eq_true rfl) d_Reader_openBits_27) (fun r27 hr27 => ?_)
      refine lv_if_ne (tgt := 37) hx hb d_Reader_openBits_30 (by decide) (fun c30 => ?_) (fun c30 => ?_)
      · refine lv_iconst (v := 0) hx hb d_Reader_openBits_37 (by decide) ?_
        exact k38 _ (bz_f (fun q => c30 (by rw [hr27, oc_eq (by omega)]; exact q.2)))
      · refine lv_iconst (v := 1) hx hb d_Reader_openBits_33 (by decide) ?_
        refine lv_goto (tgt := 38) hx hb d_Reader_openBits_34 (by decide) ?_
        exact k38 _ (bz_t ⟨by rw [nI_leI (by omega) (by omega)] at c19; omega, by rw [← oc_eq (by omega), ← hr27]; exact c30⟩)
end
section
/-! Slices are made: the constructor; Reader.plain, number, serial, issuerKey. -/
section MUI
variable {p : Program} {l : Launch} {e : Env} {R : Room} {s : State} {m : MethodId} {args : Array Value} {below : List Frame} {meth : Method} {c : Code} {H : Heap} {locs : List Loc} {cells slots : Nat} {Q : State → Prop}
variable {pc : Nat} {ls : Array Slot} {rest st0 : List Value} {cc bytes : ByteArray} {nL maxL index : Nat} {Ts : List Cond} {own : String} {y : MethodName} {rm : Room} {D : va_G} {ws wsB : va_W} {tys tysB : List (ClassId × FieldType)} {As : List Value} {b n mc ms : Nat} {A : Nat → Prop}
/-- a call of a constructor -/
theorem mu_runI {Qc : Array Value → State → Outcome → State → Prop} (S : CallFix p m c cc nL s args Ts own) (hin : ∀ w ∈ tb, w ∈ Ts) (hM : Met l y (Cond.code y bytes maxL none :: tb) rm (mu_P (.ref b :: As) D ws tys H.size) Qc mc ms (va_A ws H.size))
    (h1 : Cond.methodLink own index y ∈ tb) (h2 : Cond.instanceMethod y ∈ tb) (h4 : Cond.initialized y.cls ∈ tb) (h5 : Cond.code y bytes maxL none ∈ tb) (hy : y.name = "<init>")
    (hd : y.cls ≠ "java/lang/invoke/MethodHandle" ∧ y.cls ≠ "java/lang/invoke/VarHandle" ∧ (parseMethodDescriptor y.desc).map (fun d => d.parameters.length) = some n) (hn : As.length = n)
    (hz : rm.cells = mc ∧ rm.slots = ms) (hR : rm.frames + 1 ≤ R.frames ∧ 8 + (maxL + 11) + rm.locals ≤ R.locals) (hf : cells + mc ≤ R.cells ∧ slots + ms ≤ R.slots)
    (hN : nwOK s) (hK : va_K D classes tysB s) (hP : va_P D classes wsB H) (hD : va_D A wsB) (is : List Nat) (hnd : va_nd is = true) (hs : is.map (fun i => wsB[i]?) = ws.map some) (ts : List Nat) (ht : ts.filterMap (fun i => tysB[i]?) = tys)
    (hsize : ls.size = nL) (hstack : st0 = As.reverse ++ .ref b :: rest) (hW : (rest.map fun v => v.category).sum ≤ 8) (hdg : decode cc pc = .ok (.invokespecial index, 3)) :
    va_Run p l e R s m args below meth c H locs cells slots mc ms (F0 m pc ls st0) rest (Qc (Value.ref b :: As).toArray) (va_A ws H.size) := by
  subst hstack
  subst hn
  exact va_runI (As := As) (rest := rest) S hM (cwI As.length S.2.2.2.2 (gd_in hin (gd_cons h5)) rfl hz.1 hz.2 (S.2.2.2.2 _ (hin _ h4)) (S.2.2.2.2 _ (hin _ h1)) (S.2.2.2.2 _ (hin _ h2)) hy hd hR) ⟨mu_blind, mu_pre hN hK hP hD is hnd hs ts ht⟩ rfl rfl hsize rfl (lv_room hW) hdg ⟨hf.1, hf.2⟩
end MUI
/-- plain: the reader behind it, and the slice -/
def rd_plain (u : Nat → Nat) (n : Nat) (x : rS) (tg le en : Nat) : rS × Nat × Nat :=
  let o := rd_opn u n x tg en
  (rd_lea o.1 o.2 (zI (le ≤ o.2 - o.1.1)), o.1.1, o.2)
/-- an INTEGER's octets: one at least, as few as can be -/
def numOK (u : Nat → Nat) (n a b : Nat) : Prop := a < b ∧ ¬ (1 < b - a ∧ ((oc u n a = 0 ∧ ¬ 128 ≤ oc u n (a + 1)) ∨ (oc u n a = 255 ∧ 128 ≤ oc u n (a + 1))))
noncomputable def rd_num (u : Nat → Nat) (n : Nat) (x : rS) (tg en : Nat) : rS × Nat × Nat := by
  classical
  exact (rd_lea (rd_opn u n x tg en).1 (rd_opn u n x tg en).2 (zI (numOK u n (rd_opn u n x tg en).1.1 (rd_opn u n x tg en).2)), (rd_opn u n x tg en).1.1, (rd_opn u n x tg en).2)

def y_Slice_init : MethodName := ⟨"TrustChain$Slice", "<init>", "([BII)V"⟩
abbrev b_Slice_init : ByteArray := prog_12_method_1_code
def w_Slice_init : List Cond := Cond.code y_Slice_init b_Slice_init 4 (none) :: tb
theorem d_Slice_init_0 : decode b_Slice_init 0 = .ok (.aload_n 0, 1) := by decide +kernel
theorem d_Slice_init_1 : decode b_Slice_init 1 = .ok (.invokespecial 3, 3) := by decide +kernel
theorem d_Slice_init_4 : decode b_Slice_init 4 = .ok (.aload_n 0, 1) := by decide +kernel
theorem d_Slice_init_5 : decode b_Slice_init 5 = .ok (.aload_n 1, 1) := by decide +kernel
theorem d_Slice_init_6 : decode b_Slice_init 6 = .ok (.putfield 9, 3) := by decide +kernel
theorem d_Slice_init_9 : decode b_Slice_init 9 = .ok (.aload_n 0, 1) := by decide +kernel
theorem d_Slice_init_10 : decode b_Slice_init 10 = .ok (.iload_n 2, 1) := by decide +kernel
theorem d_Slice_init_11 : decode b_Slice_init 11 = .ok (.putfield 15, 3) := by decide +kernel
theorem d_Slice_init_14 : decode b_Slice_init 14 = .ok (.aload_n 0, 1) := by decide +kernel
theorem d_Slice_init_15 : decode b_Slice_init 15 = .ok (.iload_n 3, 1) := by decide +kernel
theorem d_Slice_init_16 : decode b_Slice_init 16 = .ok (.putfield 19, 3) := by decide +kernel
theorem d_Slice_init_19 : decode b_Slice_init 19 = .ok (.return_, 1) := by decide +kernel
set_option maxHeartbeats 4000000 in
set_option maxRecDepth 100000 in
theorem c_Slice_init (l : Launch) (dC : Nat → ClassId) (dI : Nat → Nat → Nat) (q0 t : Nat) (a b : Int32) (sz : Nat) : Met l y_Slice_init w_Slice_init ({ frames := 1, cells := 0, slots := 0, locals := 20 }) (mu_P [.ref q0, .ref t, .int a, .int b] (dC, dI) [(q0, .inr (0, [.null, .int 0, .int 0]))] [] sz) (va_Qv (fun (_u : Unit) => True) (mu_B (dC, dI) [] (va_A [(q0, .inr (0, [.null, .int 0, .int 0]))] sz) (fun _ : Unit => [(q0, .inr (0, [.ref t, .int a, .int b]))])) (va_A [(q0, .inr (0, [.null, .int 0, .int 0]))] sz)) 0 0 (va_A [(q0, .inr (0, [.null, .int 0, .int 0]))] sz) := by
  refine Met.ofW (cc := b_Slice_init) (maxL := 4) (ret := none) (by decide) rfl ?_
  intro p e s m args below meth c s₁ B hml hv
  obtain ⟨rfl, hsz, hP, hK, hD0, hN⟩ := hv
  have hx := B.exec
  have hb := B.bytes
  have hr := B.returns
  have hts := atoms_spec (ws := w_Slice_init) B.pre
  have tbin : ∀ w ∈ tb, w ∈ w_Slice_init := fun w h => List.mem_cons_of_mem _ h
  have htb : ∀ w ∈ tb, w.before _ s = true := fun w h => hts w (tbin w h)
  have hown : s.vm.findClass "TrustChain$Slice" = some m.cls := findClass_of_methodNamed B.named
  have hlocks := B.notSynchronized
  have hin : meth.name = "<init>" := (name_of_methodNamed B.named B.method).1
  subst hsz
  have hD := hD0.self (sz := s.heap.size)
  generalize hAe : va_A [(q0, .inr (0, [.null, .int 0, .int 0]))] s.heap.size = A at hD ⊢
  have hA : ∀ q : Nat, s.heap.size ≤ q → A q := fun q h => by rw [← hAe]; exact Or.inr h
  have hS : va_S A s.heap s.heap [] := va_S.rf
  have hcs : 0 ≤ (headSpec w_Slice_init ({ frames := 1, cells := 0, slots := 0, locals := 20 })).room.cells ∧ 0 ≤ (headSpec w_Slice_init ({ frames := 1, cells := 0, slots := 0, locals := 20 })).room.slots := ⟨Nat.le_refl _, Nat.le_refl _⟩
  have hP : va_P (dC, dI) classes [(q0, .inr (0, [.null, .int 0, .int 0]))] s.heap := hP
  have hl := lv_entry ([.ref q0, .ref t, .int a, .int b]) (n := 4) (Nat.le_of_ble_eq_true rfl)
  rw [lg_entry_eq]
  generalize (lg_sl ([.ref q0, .ref t, .int a, .int b]) ++ List.replicate (4 - (lg_sl ([.ref q0, .ref t, .int a, .int b])).length) Slot.unset).toArray = ls at hl ⊢
  have hl : lv_has ls 4 [(0, .ref q0), (1, .ref t), (2, .int a), (3, .int b)] := hl
  refine lv_aload_n hx hb d_Slice_init_0 rfl (lv_at hl 0 rfl) ?_
  refine W.objInit hx hb hown (htb _ q2_95) (htb _ q1_40) (htb _ q1_41) rfl (by rw [hml]; exact hl.1) rfl d_Slice_init_1 (Nat.le_of_ble_eq_true rfl) (Nat.le_of_ble_eq_true rfl) ?_
  refine W.eq (g2 := F0 m 4 ls []) rfl ?_
  refine lv_aload_n hx hb d_Slice_init_4 rfl (lv_at hl 0 rfl) ?_
  refine lv_aload_n hx hb d_Slice_init_5 rfl (lv_at hl 1 rfl) ?_
  refine va_putF (v := .ref t) (ty := (.array .byte)) hx hb htb i_Slice t_Slice t_Slice_ok n_Slice hown hK hP hD hS 0 rfl rfl 0 (by decide) (htb _ q2_96) (fun _ h9 => h9) rfl hin rfl (by decide +kernel) rfl rfl (Nat.le_of_ble_eq_true rfl) d_Slice_init_6 (fun H6 locs hP hD hS => ?_)
  have hP : va_P (dC, dI) classes [(q0, .inr (0, [.ref t, .int 0, .int 0]))] H6 := hP
  have hD : va_D A [(q0, .inr (0, [.ref t, .int 0, .int 0]))] := hD
  refine lv_aload_n hx hb d_Slice_init_9 rfl (lv_at hl 0 rfl) ?_
  refine lv_iload_n hx hb d_Slice_init_10 rfl (lv_at hl 2 rfl) ?_
  refine va_putF (v := .int a) (ty := .int) hx hb htb i_Slice t_Slice t_Slice_ok n_Slice hown hK hP hD hS 0 rfl rfl 1 (by decide) (htb _ q2_97) (fun _ h9 => h9) rfl hin rfl (by decide +kernel) rfl rfl (Nat.le_of_ble_eq_true rfl) d_Slice_init_11 (fun H11 locs hP hD hS => ?_)
  have hP : va_P (dC, dI) classes [(q0, .inr (0, [.ref t, .int a, .int 0]))] H11 := hP
  have hD : va_D A [(q0, .inr (0, [.ref t, .int a, .int 0]))] := hD
  refine lv_aload_n hx hb d_Slice_init_14 rfl (lv_at hl 0 rfl) ?_
  refine lv_iload_n hx hb d_Slice_init_15 rfl (lv_at hl 3 rfl) ?_
  refine va_putF (v := .int b) (ty := .int) hx hb htb i_Slice t_Slice t_Slice_ok n_Slice hown hK hP hD hS 0 rfl rfl 2 (by decide) (htb _ q2_99) (fun _ h9 => h9) rfl hin rfl (by decide +kernel) rfl rfl (Nat.le_of_ble_eq_true rfl) d_Slice_init_16 (fun H16 locs hP hD hS => ?_)
  have hP : va_P (dC, dI) classes [(q0, .inr (0, [.ref t, .int a, .int b]))] H16 := hP
  have hD : va_D A [(q0, .inr (0, [.ref t, .int a, .int b]))] := hD
  exact W.vret hx hb hr (fun t ht hW => ⟨⟨(), rfl, trivial, by rw [ht]; exact hP, va_K.moved hW.alike hK, hD⟩, hS.F ht⟩) hS.2.2 d_Slice_init_19
def y_Reader_plain : MethodName := ⟨"TrustChain$Reader", "plain", "(III)LTrustChain$Slice;"⟩
abbrev b_Reader_plain : ByteArray := prog_8_method_15_code
def w_Reader_plain : List Cond := Cond.code y_Reader_plain b_Reader_plain 6 ((some (FieldType.object "TrustChain$Slice"))) :: tb
theorem d_Reader_plain_0 : decode b_Reader_plain 0 = .ok (.aload_n 0, 1) := by decide +kernel
theorem d_Reader_plain_1 : decode b_Reader_plain 1 = .ok (.iload_n 1, 1) := by decide +kernel
theorem d_Reader_plain_2 : decode b_Reader_plain 2 = .ok (.iload_n 3, 1) := by decide +kernel
theorem d_Reader_plain_3 : decode b_Reader_plain 3 = .ok (.invokevirtual 58, 3) := by decide +kernel
theorem d_Reader_plain_6 : decode b_Reader_plain 6 = .ok (.istore 4, 2) := by decide +kernel
theorem d_Reader_plain_8 : decode b_Reader_plain 8 = .ok (.aload_n 0, 1) := by decide +kernel
theorem d_Reader_plain_9 : decode b_Reader_plain 9 = .ok (.getfield 9, 3) := by decide +kernel
theorem d_Reader_plain_12 : decode b_Reader_plain 12 = .ok (.istore 5, 2) := by decide +kernel
theorem d_Reader_plain_14 : decode b_Reader_plain 14 = .ok (.aload_n 0, 1) := by decide +kernel
theorem d_Reader_plain_15 : decode b_Reader_plain 15 = .ok (.iload 4, 2) := by decide +kernel
theorem d_Reader_plain_17 : decode b_Reader_plain 17 = .ok (.iload 4, 2) := by decide +kernel
theorem d_Reader_plain_19 : decode b_Reader_plain 19 = .ok (.iload 5, 2) := by decide +kernel
theorem d_Reader_plain_21 : decode b_Reader_plain 21 = .ok (.isub, 1) := by decide +kernel
theorem d_Reader_plain_22 : decode b_Reader_plain 22 = .ok (.iload_n 2, 1) := by decide +kernel
theorem d_Reader_plain_23 : decode b_Reader_plain 23 = .ok (.if_icmp .lt 7, 3) := by decide +kernel
theorem d_Reader_plain_26 : decode b_Reader_plain 26 = .ok (.iconst 1, 1) := by decide +kernel
theorem d_Reader_plain_27 : decode b_Reader_plain 27 = .ok (.goto 4, 3) := by decide +kernel
theorem d_Reader_plain_30 : decode b_Reader_plain 30 = .ok (.iconst 0, 1) := by decide +kernel
theorem d_Reader_plain_31 : decode b_Reader_plain 31 = .ok (.invokevirtual 62, 3) := by decide +kernel
theorem d_Reader_plain_34 : decode b_Reader_plain 34 = .ok (.new 41, 3) := by decide +kernel
theorem d_Reader_plain_37 : decode b_Reader_plain 37 = .ok (.dup, 1) := by decide +kernel
theorem d_Reader_plain_38 : decode b_Reader_plain 38 = .ok (.aload_n 0, 1) := by decide +kernel
theorem d_Reader_plain_39 : decode b_Reader_plain 39 = .ok (.getfield 37, 3) := by decide +kernel
theorem d_Reader_plain_42 : decode b_Reader_plain 42 = .ok (.iload 5, 2) := by decide +kernel
theorem d_Reader_plain_44 : decode b_Reader_plain 44 = .ok (.iload 4, 2) := by decide +kernel
theorem d_Reader_plain_46 : decode b_Reader_plain 46 = .ok (.invokespecial 43, 3) := by decide +kernel
theorem d_Reader_plain_49 : decode b_Reader_plain 49 = .ok (.areturn, 1) := by decide +kernel
set_option maxHeartbeats 4000000 in
set_option maxRecDepth 100000 in
theorem cC_plain (l : Launch) (dC : Nat → ClassId) (dI : Nat → Nat → Nat) (h res t no ki n : Nat) (x : rS) (pa ma ex ie : Int32) (cB : ClassId) (u : Nat → Nat) (tg le en : Nat) (sz : Nat) (hu : ∀ j, u j < 256) (hn : n < 2 ^ 30) (hi : rdInv n x) (he : en ≤ n) (hg : tg < 256) (hle : le < 2 ^ 30) : Met l y_Reader_plain w_Reader_plain ({ frames := 2, cells := 1, slots := 3, locals := 46 }) (mu_P [.ref h, .int (nI tg), .int (nI le), .int (nI en)] (dC, dI) [(h, .inr (4, [.ref res, .ref t, .ref no, .int (nI x.1), .int (nI x.2.1), .int (wI x.2.2), .int pa, .int ma, .int ex, .ref ki])), (t, .inl (cB, n, .inl (tx u)))] [(cB, .byte)] sz) (va_Qr (fun (u' : rS) => u' = (rd_plain u n x tg le en).1) (mu_Br (dC, dI) [(cB, .byte)] (va_A [(h, .inr (4, [.ref res, .ref t, .ref no, .int (nI x.1), .int (nI x.2.1), .int (wI x.2.2), .int pa, .int ma, .int ex, .ref ki])), (t, .inl (cB, n, .inl (tx u)))] sz) (fun (u' : rS) (q : Nat) => [(h, .inr (4, [.ref res, .ref t, .ref no, .int (nI u'.1), .int (nI u'.2.1), .int (wI u'.2.2), .int pa, .int ma, .int ex, .ref ki])), (t, .inl (cB, n, .inl (tx u))), (q, .inr (0, [.ref t, .int (nI (rd_plain u n x tg le en).2.1), .int (nI (rd_plain u n x tg le en).2.2)]))])) (va_A [(h, .inr (4, [.ref res, .ref t, .ref no, .int (nI x.1), .int (nI x.2.1), .int (wI x.2.2), .int pa, .int ma, .int ex, .ref ki])), (t, .inl (cB, n, .inl (tx u)))] sz)) 1 3 (va_A [(h, .inr (4, [.ref res, .ref t, .ref no, .int (nI x.1), .int (nI x.2.1), .int (wI x.2.2), .int pa, .int ma, .int ex, .ref ki])), (t, .inl (cB, n, .inl (tx u)))] sz) := by
  refine Met.ofW (cc := b_Reader_plain) (maxL := 6) (ret := (some (FieldType.object "TrustChain$Slice"))) (by decide) rfl ?_
  intro p e s m args below meth c s₁ B hml hv
  obtain ⟨rfl, hsz, hP, hK, hD0, hN⟩ := hv
  have hx := B.exec
  have hb := B.bytes
  have hr := B.returns
  have hts := atoms_spec (ws := w_Reader_plain) B.pre
  have tbin : ∀ w ∈ tb, w ∈ w_Reader_plain := fun w h => List.mem_cons_of_mem _ h
  have htb : ∀ w ∈ tb, w.before _ s = true := fun w h => hts w (tbin w h)
  have hown : s.vm.findClass "TrustChain$Reader" = some m.cls := findClass_of_methodNamed B.named
  have hlocks := B.notSynchronized
  subst hsz
  have hD := hD0.self (sz := s.heap.size)
  generalize hAe : va_A [(h, .inr (4, [.ref res, .ref t, .ref no, .int (nI x.1), .int (nI x.2.1), .int (wI x.2.2), .int pa, .int ma, .int ex, .ref ki])), (t, .inl (cB, n, .inl (tx u)))] s.heap.size = A at hD ⊢
  have hA : ∀ q : Nat, s.heap.size ≤ q → A q := fun q h => by rw [← hAe]; exact Or.inr h
  have hS : va_S A s.heap s.heap [] := va_S.rf
  have hcs : 1 ≤ (headSpec w_Reader_plain ({ frames := 2, cells := 1, slots := 3, locals := 46 })).room.cells ∧ 3 ≤ (headSpec w_Reader_plain ({ frames := 2, cells := 1, slots := 3, locals := 46 })).room.slots := ⟨Nat.le_refl _, Nat.le_refl _⟩
  have hP : va_P (dC, dI) classes [(h, .inr (4, [.ref res, .ref t, .ref no, .int (nI x.1), .int (nI x.2.1), .int (wI x.2.2), .int pa, .int ma, .int ex, .ref ki])), (t, .inl (cB, n, .inl (tx u)))] s.heap := hP
  have hl := lv_entry ([.ref h, .int (nI tg), .int (nI le), .int (nI en)]) (n := 6) (Nat.le_of_ble_eq_true rfl)
  rw [lg_entry_eq]
  generalize (lg_sl ([.ref h, .int (nI tg), .int (nI le), .int (nI en)]) ++ List.replicate (6 - (lg_sl ([.ref h, .int (nI tg), .int (nI le), .int (nI en)])).length) Slot.unset).toArray = ls at hl ⊢
  have hl : lv_has ls 6 [(0, .ref h), (1, .int (nI tg)), (2, .int (nI le)), (3, .int (nI en))] := hl
  refine lv_aload_n hx hb d_Reader_plain_0 rfl (lv_at hl 0 rfl) ?_
  refine lv_iload_n hx hb d_Reader_plain_1 rfl (lv_at hl 1 rfl) ?_
  refine lv_iload_n hx hb d_Reader_plain_2 rfl (lv_at hl 3 rfl) ?_
  have hFc := va_free (wc := [(h, .inr (4, [.ref res, .ref t, .ref no, .int (nI x.1), .int (nI x.2.1), .int (wI x.2.2), .int pa, .int ma, .int ex, .ref ki])), (t, .inl (cB, n, .inl (tx u)))]) hD hS hA [0, 1] rfl
  refine va_calli (mu_runU (As := [.int (nI tg), .int (nI en)]) (rest := []) ⟨hx, hb, hml, hown, hts⟩ (cC_open l dC dI h res t no ki x.1 x.2.1 n x.2.2 pa ma ex ie cB u tg en s.heap.size hu hn ((hi).w hn) he (hi).1 (by omega)) (cu_of (n := 2) hts tbin q3_138 q10_17 q3_120 q10_18 q1_15 q3_121 rfl (by decide +kernel) ⟨rfl, rfl⟩ ⟨Nat.le_of_ble_eq_true rfl, Nat.le_of_ble_eq_true rfl⟩) rfl ⟨Nat.le_of_ble_eq_true rfl, Nat.le_of_ble_eq_true rfl⟩ hN hK hP hD [0, 1] (by decide) rfl [0] rfl 0 4 rfl rfl rfl hl.1 rfl (Nat.le_of_ble_eq_true rfl) d_Reader_plain_3) hS (fun q _ h => hFc q h) hFc (fun r3 u3 tS H3 locs ht hvm hw3 hB hz1 hk1 hS => ?_)
  obtain ⟨x3, rfl⟩ : ∃ z, z = u3 := ⟨_, rfl⟩
  obtain ⟨hP1, hK1, hD1⟩ := hB
  rw [ht] at hP1
  obtain ⟨hP, hD⟩ := va_join (wr := []) (w1 := [(h, .inr (4, [.ref res, .ref t, .ref no, .int (nI x3.1), .int (nI x3.2.1), .int (wI x3.2.2), .int pa, .int ma, .int ex, .ref ki])), (t, .inl (cB, n, .inl (tx u)))]) hP hD [0, 1] [] rfl rfl (by decide) (by decide) hk1 hFc hP1 hD1
  have hP : va_P (dC, dI) classes [(h, .inr (4, [.ref res, .ref t, .ref no, .int (nI x3.1), .int (nI x3.2.1), .int (wI x3.2.2), .int pa, .int ma, .int ex, .ref ki])), (t, .inl (cB, n, .inl (tx u)))] H3 := hP
  have hD : va_D A [(h, .inr (4, [.ref res, .ref t, .ref no, .int (nI x3.1), .int (nI x3.2.1), .int (wI x3.2.2), .int pa, .int ma, .int ex, .ref ki])), (t, .inl (cB, n, .inl (tx u)))] := hD
  have hw3 : x3 = (rd_opn u n x tg en).1 ∧ r3 = nI (rd_opn u n x tg en).2 := hw3
  have hi3 := opn_inv (u := u) (tg := tg) hi he
  obtain ⟨o3, ho3⟩ : ∃ o, o = rd_opn u n x tg en := ⟨_, rfl⟩
  rw [← ho3] at hw3 hi3
  obtain ⟨rfl, rfl⟩ := hw3
  have hP : va_P (dC, dI) classes [(h, .inr (4, [.ref res, .ref t, .ref no, .int (nI o3.1.1), .int (nI o3.1.2.1), .int (wI o3.1.2.2), .int pa, .int ma, .int ex, .ref ki])), (t, .inl (cB, n, .inl (tx u)))] H3 := hP
  have hD : va_D A [(h, .inr (4, [.ref res, .ref t, .ref no, .int (nI o3.1.1), .int (nI o3.1.2.1), .int (wI o3.1.2.2), .int pa, .int ma, .int ex, .ref ki])), (t, .inl (cB, n, .inl (tx u)))] := hD
  refine lv_istore (lv' := [(4, .int (nI o3.2)), (0, .ref h), (1, .int (nI tg)), (2, .int (nI le)), (3, .int (nI en))]) hx hb d_Reader_plain_6 hl (by decide) rfl (fun ls hl => ?_)
  refine lv_aload_n hx hb d_Reader_plain_8 rfl (lv_at hl 1 rfl) ?_
  refine va_get (v := .int (nI o3.1.1)) hx hb htb i_CertificateReader hown hK hP 0 rfl rfl 3 (by decide) (htb _ q3_68) (fun _ h9 => h9) rfl d_Reader_plain_9 ?_
  refine lv_istore (lv' := [(5, .int (nI o3.1.1)), (4, .int (nI o3.2)), (0, .ref h), (1, .int (nI tg)), (2, .int (nI le)), (3, .int (nI en))]) hx hb d_Reader_plain_12 hl (by decide) rfl (fun ls hl => ?_)
  refine lv_aload_n hx hb d_Reader_plain_14 rfl (lv_at hl 2 rfl) ?_
  refine lv_iload hx hb d_Reader_plain_15 (lv_at hl 1 rfl) ?_
  have hb1 := hi3.1.1
  have hb2 := hi3.2.1
  have hb3 := hi3.2.2.1
  refine w_join (J := fun v => bz v (le ≤ o3.2 - o3.1.1)) (pc := 31) (ls := ls) (rest := [.int (nI o3.2), .ref h]) (fun v hv => ?_) (fun k31 => ?_)
  · skip
    have hFc := va_free (wc := [(h, .inr (4, [.ref res, .ref t, .ref no, .int (nI o3.1.1), .int (nI o3.1.2.1), .int (wI o3.1.2.2), .int pa, .int ma, .int ex, .ref ki]))]) hD hS hA [0] rfl
    refine va_callv (mu_runU (As := [.int (nI o3.2), .int v]) (rest := []) ⟨hx, hb, hml, hown, hts⟩ (cC_leave l dC dI h res t no ki o3.1.1 o3.1.2.1 n o3.1.2.2 pa ma ex ie cB u o3.2 v H3.size ((hi3.1).w hn)) (cu_of (n := 2) hts tbin q3_139 q3_141 q3_140 q3_142 q1_15 q3_144 rfl (by decide +kernel) ⟨rfl, rfl⟩ ⟨Nat.le_of_ble_eq_true rfl, Nat.le_of_ble_eq_true rfl⟩) rfl ⟨Nat.le_of_ble_eq_true rfl, Nat.le_of_ble_eq_true rfl⟩ hN hK hP hD [0] (by decide) rfl [] rfl 0 4 rfl rfl rfl hl.1 rfl (Nat.le_of_ble_eq_true rfl) d_Reader_plain_31) hS (fun q _ h => hFc q h) hFc (fun u31 tS H31 locs ht hvm hw31 hB hz1 hk1 hS => ?_)
    obtain ⟨x31, rfl⟩ : ∃ z, z = u31 := ⟨_, rfl⟩
    obtain ⟨hP1, hK1, hD1⟩ := hB
    rw [ht] at hP1
    obtain ⟨hP, hD⟩ := va_join (wr := [(t, .inl (cB, n, .inl (tx u)))]) (w1 := [(h, .inr (4, [.ref res, .ref t, .ref no, .int (nI x31.1), .int (nI x31.2.1), .int (wI x31.2.2), .int pa, .int ma, .int ex, .ref ki]))]) hP hD [0] [1] rfl rfl (by decide) (by decide) hk1 hFc hP1 hD1
    have hP : va_P (dC, dI) classes [(t, .inl (cB, n, .inl (tx u))), (h, .inr (4, [.ref res, .ref t, .ref no, .int (nI x31.1), .int (nI x31.2.1), .int (wI x31.2.2), .int pa, .int ma, .int ex, .ref ki]))] H31 := hP
    have hD : va_D A [(t, .inl (cB, n, .inl (tx u))), (h, .inr (4, [.ref res, .ref t, .ref no, .int (nI x31.1), .int (nI x31.2.1), .int (wI x31.2.2), .int pa, .int ma, .int ex, .ref ki]))] := hD
    have hw31 : x31 = rd_lea o3.1 o3.2 v := hw31
    have hi31 : rdInv n x31 := by rw [hw31]; exact lea_inv hi3.1 hi3.2.2.1
    refine va_new (ci := 0) (fs := [.null, .int 0, .int 0]) hx hb htb i_Slice t_Slice t_Slice_ok hown (htb _ q2_90) (htb _ q2_91) (htb _ q1_20) hK hP hD hS hA rfl (fun j hj => by rcases (show j = 0 ∨ j = 1 ∨ j = 2 by omega) with rfl | rfl | rfl <;> rfl) (Nat.le_of_ble_eq_true rfl) (Nat.le_of_ble_eq_true rfl) d_Reader_plain_34 (fun q34 H34 hP hD hS => ?_)
    have hP : va_P (dC, dI) classes [(t, .inl (cB, n, .inl (tx u))), (h, .inr (4, [.ref res, .ref t, .ref no, .int (nI x31.1), .int (nI x31.2.1), .int (wI x31.2.2), .int pa, .int ma, .int ex, .ref ki])), (q34, .inr (0, [.null, .int 0, .int 0]))] H34 := hP
    have hD : va_D A [(t, .inl (cB, n, .inl (tx u))), (h, .inr (4, [.ref res, .ref t, .ref no, .int (nI x31.1), .int (nI x31.2.1), .int (wI x31.2.2), .int pa, .int ma, .int ex, .ref ki])), (q34, .inr (0, [.null, .int 0, .int 0]))] := hD
    refine lv_dup hx hb d_Reader_plain_37 rfl ?_
    refine lv_aload_n hx hb d_Reader_plain_38 rfl (lv_at hl 2 rfl) ?_
    refine va_get (v := .ref t) hx hb htb i_CertificateReader hown hK hP 1 rfl rfl 1 (by decide) (htb _ q3_58) (fun _ h9 => h9) rfl d_Reader_plain_39 ?_
    refine lv_iload hx hb d_Reader_plain_42 (lv_at hl 0 rfl) ?_
    refine lv_iload hx hb d_Reader_plain_44 (lv_at hl 1 rfl) ?_
    have hFc := va_free (wc := [(q34, .inr (0, [.null, .int 0, .int 0]))]) hD hS hA [2] rfl
    refine va_callv (mu_runI (As := [.ref t, .int (nI o3.1.1), .int (nI o3.2)]) (rest := [.ref q34]) ⟨hx, hb, hml, hown, hts⟩ tbin (c_Slice_init l dC dI q34 t (nI o3.1.1) (nI o3.2) H34.size) q2_92 q2_93 q1_20 q2_94 rfl (n := 3) (by decide +kernel) rfl ⟨rfl, rfl⟩ ⟨Nat.le_of_ble_eq_true rfl, Nat.le_of_ble_eq_true rfl⟩ ⟨Nat.le_of_ble_eq_true rfl, Nat.le_of_ble_eq_true rfl⟩ hN hK hP hD [2] (by decide) rfl [] rfl hl.1 rfl (Nat.le_of_ble_eq_true rfl) d_Reader_plain_46) hS (fun q _ h => hFc q h) hFc (fun u46 tS H46 locs ht hvm hw46 hB hz1 hk1 hS => ?_)
    skip
    obtain ⟨hP1, hK1, hD1⟩ := hB
    rw [ht] at hP1
    obtain ⟨hP, hD⟩ := va_join (wr := [(t, .inl (cB, n, .inl (tx u))), (h, .inr (4, [.ref res, .ref t, .ref no, .int (nI x31.1), .int (nI x31.2.1), .int (wI x31.2.2), .int pa, .int ma, .int ex, .ref ki]))]) (w1 := [(q34, .inr (0, [.ref t, .int (nI o3.1.1), .int (nI o3.2)]))]) hP hD [2] [0, 1] rfl rfl (by decide) (by decide) hk1 hFc hP1 hD1
    have hP : va_P (dC, dI) classes [(t, .inl (cB, n, .inl (tx u))), (h, .inr (4, [.ref res, .ref t, .ref no, .int (nI x31.1), .int (nI x31.2.1), .int (wI x31.2.2), .int pa, .int ma, .int ex, .ref ki])), (q34, .inr (0, [.ref t, .int (nI o3.1.1), .int (nI o3.2)]))] H46 := hP
    have hD : va_D A [(t, .inl (cB, n, .inl (tx u))), (h, .inr (4, [.ref res, .ref t, .ref no, .int (nI x31.1), .int (nI x31.2.1), .int (wI x31.2.2), .int pa, .int ma, .int ex, .ref ki])), (q34, .inr (0, [.ref t, .int (nI o3.1.1), .int (nI o3.2)]))] := hD
    subst ho3
    exact W.aret (v := .ref q34) hx hb hr (Or.inl ⟨_, rfl⟩) (Or.inr ⟨_, rfl⟩) (fun t ht hW => ⟨⟨x31, q34, rfl, hw31.trans (by rw [bz_zI hv]; rfl), by rw [ht]; exact hP.sub [1, 0, 2] rfl, va_K.moved hW.alike hK, hD.sub [1, 0, 2] (by decide) rfl⟩, hS.F ht⟩) hS.2.2 d_Reader_plain_49
  · skip
    have hb1 := hi3.1.1
    have hb2 := hi3.2.1
    have hb3 := hi3.2.2.1
    refine lv_iload hx hb d_Reader_plain_17 (lv_at hl 1 rfl) ?_
    refine lv_iload hx hb d_Reader_plain_19 (lv_at hl 0 rfl) ?_
    refine lv_isub hx hb d_Reader_plain_21 ?_
    refine lv_iload_n hx hb d_Reader_plain_22 rfl (lv_at hl 4 rfl) ?_
    refine lv_icmp_lt (tgt := 30) hx hb d_Reader_plain_23 (by decide) (fun c23 => ?_) (fun c23 => ?_)
    · refine lv_iconst (v := 0) hx hb d_Reader_plain_30 (by decide) ?_
      exact k31 _ (bz_f (fun q => absurd q (by rw [pk_sub hi3.2.1, nI_ltI (by omega) (by omega)] at c23; omega)))
    · refine lv_iconst (v := 1) hx hb d_Reader_plain_26 (by decide) ?_
      refine lv_goto (tgt := 31) hx hb d_Reader_plain_27 (by decide) ?_
      exact k31 _ (bz_t (by rw [pk_sub hi3.2.1, nI_ltI (by omega) (by omega)] at c23; omega))
set_option maxHeartbeats 4000000 in
set_option maxRecDepth 100000 in
theorem cL_plain (l : Launch) (dC : Nat → ClassId) (dI : Nat → Nat → Nat) (h res t no ki n : Nat) (x : rS) (pa ma ex ie : Int32) (cB : ClassId) (u : Nat → Nat) (tg le en : Nat) (sz : Nat) (hu : ∀ j, u j < 256) (hn : n < 2 ^ 30) (hi : rdInv n x) (he : en ≤ n) (hg : tg < 256) (hle : le < 2 ^ 30) : Met l y_Reader_plain w_Reader_plain ({ frames := 2, cells := 1, slots := 3, locals := 46 }) (mu_P [.ref h, .int (nI tg), .int (nI le), .int (nI en)] (dC, dI) [(h, .inr (5, [.ref res, .int ie, .ref t, .ref no, .int (nI x.1), .int (nI x.2.1), .int (wI x.2.2), .int pa, .int ma, .int ex, .ref ki])), (t, .inl (cB, n, .inl (tx u)))] [(cB, .byte)] sz) (va_Qr (fun (u' : rS) => u' = (rd_plain u n x tg le en).1) (mu_Br (dC, dI) [(cB, .byte)] (va_A [(h, .inr (5, [.ref res, .int ie, .ref t, .ref no, .int (nI x.1), .int (nI x.2.1), .int (wI x.2.2), .int pa, .int ma, .int ex, .ref ki])), (t, .inl (cB, n, .inl (tx u)))] sz) (fun (u' : rS) (q : Nat) => [(h, .inr (5, [.ref res, .int ie, .ref t, .ref no, .int (nI u'.1), .int (nI u'.2.1), .int (wI u'.2.2), .int pa, .int ma, .int ex, .ref ki])), (t, .inl (cB, n, .inl (tx u))), (q, .inr (0, [.ref t, .int (nI (rd_plain u n x tg le en).2.1), .int (nI (rd_plain u n x tg le en).2.2)]))])) (va_A [(h, .inr (5, [.ref res, .int ie, .ref t, .ref no, .int (nI x.1), .int (nI x.2.1), .int (wI x.2.2), .int pa, .int ma, .int ex, .ref ki])), (t, .inl (cB, n, .inl (tx u)))] sz)) 1 3 (va_A [(h, .inr (5, [.ref res, .int ie, .ref t, .ref no, .int (nI x.1), .int (nI x.2.1), .int (wI x.2.2), .int pa, .int ma, .int ex, .ref ki])), (t, .inl (cB, n, .inl (tx u)))] sz) := by
  refine Met.ofW (cc := b_Reader_plain) (maxL := 6) (ret := (some (FieldType.object "TrustChain$Slice"))) (by decide) rfl ?_
  intro p e s m args below meth c s₁ B hml hv
  obtain ⟨rfl, hsz, hP, hK, hD0, hN⟩ := hv
  have hx := B.exec
  have hb := B.bytes
  have hr := B.returns
  have hts := atoms_spec (ws := w_Reader_plain) B.pre
  have tbin : ∀ w ∈ tb, w ∈ w_Reader_plain := fun w h => List.mem_cons_of_mem _ h
  have htb : ∀ w ∈ tb, w.before _ s = true := fun w h => hts w (tbin w h)
  have hown : s.vm.findClass "TrustChain$Reader" = some m.cls := findClass_of_methodNamed B.named
  have hlocks := B.notSynchronized
  subst hsz
  have hD := hD0.self (sz := s.heap.size)
  generalize hAe : va_A [(h, .inr (5, [.ref res, .int ie, .ref t, .ref no, .int (nI x.1), .int (nI x.2.1), .int (wI x.2.2), .int pa, .int ma, .int ex, .ref ki])), (t, .inl (cB, n, .inl (tx u)))] s.heap.size = A at hD ⊢
  have hA : ∀ q : Nat, s.heap.size ≤ q → A q := fun q h => by rw [← hAe]; exact Or.inr h
  have hS : va_S A s.heap s.heap [] := va_S.rf
  have hcs : 1 ≤ (headSpec w_Reader_plain ({ frames := 2, cells := 1, slots := 3, locals := 46 })).room.cells ∧ 3 ≤ (headSpec w_Reader_plain ({ frames := 2, cells := 1, slots := 3, locals := 46 })).room.slots := ⟨Nat.le_refl _, Nat.le_refl _⟩
  have hP : va_P (dC, dI) classes [(h, .inr (5, [.ref res, .int ie, .ref t, .ref no, .int (nI x.1), .int (nI x.2.1), .int (wI x.2.2), .int pa, .int ma, .int ex, .ref ki])), (t, .inl (cB, n, .inl (tx u)))] s.heap := hP
  have hl := lv_entry ([.ref h, .int (nI tg), .int (nI le), .int (nI en)]) (n := 6) (Nat.le_of_ble_eq_true rfl)
  rw [lg_entry_eq]
  generalize (lg_sl ([.ref h, .int (nI tg), .int (nI le), .int (nI en)]) ++ List.replicate (6 - (lg_sl ([.ref h, .int (nI tg), .int (nI le), .int (nI en)])).length) Slot.unset).toArray = ls at hl ⊢
  have hl : lv_has ls 6 [(0, .ref h), (1, .int (nI tg)), (2, .int (nI le)), (3, .int (nI en))] := hl
  refine lv_aload_n hx hb d_Reader_plain_0 rfl (lv_at hl 0 rfl) ?_
  refine lv_iload_n hx hb d_Reader_plain_1 rfl (lv_at hl 1 rfl) ?_
  refine lv_iload_n hx hb d_Reader_plain_2 rfl (lv_at hl 3 rfl) ?_
  have hFc := va_free (wc := [(h, .inr (5, [.ref res, .int ie, .ref t, .ref no, .int (nI x.1), .int (nI x.2.1), .int (wI x.2.2), .int pa, .int ma, .int ex, .ref ki])), (t, .inl (cB, n, .inl (tx u)))]) hD hS hA [0, 1] rfl
  refine va_calli (mu_runU (As := [.int (nI tg), .int (nI en)]) (rest := []) ⟨hx, hb, hml, hown, hts⟩ (cL_open l dC dI h res t no ki x.1 x.2.1 n x.2.2 pa ma ex ie cB u tg en s.heap.size hu hn ((hi).w hn) he (hi).1 (by omega)) (cu_of (n := 2) hts tbin q3_138 q10_17 q3_120 q10_19 q1_15 q3_121 rfl (by decide +kernel) ⟨rfl, rfl⟩ ⟨Nat.le_of_ble_eq_true rfl, Nat.le_of_ble_eq_true rfl⟩) rfl ⟨Nat.le_of_ble_eq_true rfl, Nat.le_of_ble_eq_true rfl⟩ hN hK hP hD [0, 1] (by decide) rfl [0] rfl 0 5 rfl rfl rfl hl.1 rfl (Nat.le_of_ble_eq_true rfl) d_Reader_plain_3) hS (fun q _ h => hFc q h) hFc (fun r3 u3 tS H3 locs ht hvm hw3 hB hz1 hk1 hS => ?_)
  obtain ⟨x3, rfl⟩ : ∃ z, z = u3 := ⟨_, rfl⟩
  obtain ⟨hP1, hK1, hD1⟩ := hB
  rw [ht] at hP1
  obtain ⟨hP, hD⟩ := va_join (wr := []) (w1 := [(h, .inr (5, [.ref res, .int ie, .ref t, .ref no, .int (nI x3.1), .int (nI x3.2.1), .int (wI x3.2.2), .int pa, .int ma, .int ex, .ref ki])), (t, .inl (cB, n, .inl (tx u)))]) hP hD [0, 1] [] rfl rfl (by decide) (by decide) hk1 hFc hP1 hD1
  have hP : va_P (dC, dI) classes [(h, .inr (5, [.ref res, .int ie, .ref t, .ref no, .int (nI x3.1), .int (nI x3.2.1), .int (wI x3.2.2), .int pa, .int ma, .int ex, .ref ki])), (t, .inl (cB, n, .inl (tx u)))] H3 := hP
  have hD : va_D A [(h, .inr (5, [.ref res, .int ie, .ref t, .ref no, .int (nI x3.1), .int (nI x3.2.1), .int (wI x3.2.2), .int pa, .int ma, .int ex, .ref ki])), (t, .inl (cB, n, .inl (tx u)))] := hD
  have hw3 : x3 = (rd_opn u n x tg en).1 ∧ r3 = nI (rd_opn u n x tg en).2 := hw3
  have hi3 := opn_inv (u := u) (tg := tg) hi he
  obtain ⟨o3, ho3⟩ : ∃ o, o = rd_opn u n x tg en := ⟨_, rfl⟩
  rw [← ho3] at hw3 hi3
  obtain ⟨rfl, rfl⟩ := hw3
  have hP : va_P (dC, dI) classes [(h, .inr (5, [.ref res, .int ie, .ref t, .ref no, .int (nI o3.1.1), .int (nI o3.1.2.1), .int (wI o3.1.2.2), .int pa, .int ma, .int ex, .ref ki])), (t, .inl (cB, n, .inl (tx u)))] H3 := hP
  have hD : va_D A [(h, .inr (5, [.ref res, .int ie, .ref t, .ref no, .int (nI o3.1.1), .int (nI o3.1.2.1), .int (wI o3.1.2.2), .int pa, .int ma, .int ex, .ref ki])), (t, .inl (cB, n, .inl (tx u)))] := hD
  refine lv_istore (lv' := [(4, .int (nI o3.2)), (0, .ref h), (1, .int (nI tg)), (2, .int (nI le)), (3, .int (nI en))]) hx hb d_Reader_plain_6 hl (by decide) rfl (fun ls hl => ?_)
  refine lv_aload_n hx hb d_Reader_plain_8 rfl (lv_at hl 1 rfl) ?_
  refine va_get (v := .int (nI o3.1.1)) hx hb htb i_ListReader hown hK hP 0 rfl rfl 4 (by decide) (htb _ q3_68) (fun _ h9 => h9) rfl d_Reader_plain_9 ?_
  refine lv_istore (lv' := [(5, .int (nI o3.1.1)), (4, .int (nI o3.2)), (0, .ref h), (1, .int (nI tg)), (2, .int (nI le)), (3, .int (nI en))]) hx hb d_Reader_plain_12 hl (by decide) rfl (fun ls hl => ?_)
  refine lv_aload_n hx hb d_Reader_plain_14 rfl (lv_at hl 2 rfl) ?_
  refine lv_iload hx hb d_Reader_plain_15 (lv_at hl 1 rfl) ?_
  have hb1 := hi3.1.1
  have hb2 := hi3.2.1
  have hb3 := hi3.2.2.1
  refine w_join (J := fun v => bz v (le ≤ o3.2 - o3.1.1)) (pc := 31) (ls := ls) (rest := [.int (nI o3.2), .ref h]) (fun v hv => ?_) (fun k31 => ?_)
  · skip
    have hFc := va_free (wc := [(h, .inr (5, [.ref res, .int ie, .ref t, .ref no, .int (nI o3.1.1), .int (nI o3.1.2.1), .int (wI o3.1.2.2), .int pa, .int ma, .int ex, .ref ki]))]) hD hS hA [0] rfl
    refine va_callv (mu_runU (As := [.int (nI o3.2), .int v]) (rest := []) ⟨hx, hb, hml, hown, hts⟩ (cL_leave l dC dI h res t no ki o3.1.1 o3.1.2.1 n o3.1.2.2 pa ma ex ie cB u o3.2 v H3.size ((hi3.1).w hn)) (cu_of (n := 2) hts tbin q3_139 q3_141 q3_140 q3_143 q1_15 q3_144 rfl (by decide +kernel) ⟨rfl, rfl⟩ ⟨Nat.le_of_ble_eq_true rfl, Nat.le_of_ble_eq_true rfl⟩) rfl ⟨Nat.le_of_ble_eq_true rfl, Nat.le_of_ble_eq_true rfl⟩ hN hK hP hD [0] (by decide) rfl [] rfl 0 5 rfl rfl rfl hl.1 rfl (Nat.le_of_ble_eq_true rfl) d_Reader_plain_31) hS (fun q _ h => hFc q h) hFc (fun u31 tS H31 locs ht hvm hw31 hB hz1 hk1 hS => ?_)
    obtain ⟨x31, rfl⟩ : ∃ z, z = u31 := ⟨_, rfl⟩
    obtain ⟨hP1, hK1, hD1⟩ := hB
    rw [ht] at hP1
    obtain ⟨hP, hD⟩ := va_join (wr := [(t, .inl (cB, n, .inl (tx u)))]) (w1 := [(h, .inr (5, [.ref res, .int ie, .ref t, .ref no, .int (nI x31.1), .int (nI x31.2.1), .int (wI x31.2.2), .int pa, .int ma, .int ex, .ref ki]))]) hP hD [0] [1] rfl rfl (by decide) (by decide) hk1 hFc hP1 hD1
    have hP : va_P (dC, dI) classes [(t, .inl (cB, n, .inl (tx u))), (h, .inr (5, [.ref res, .int ie, .ref t, .ref no, .int (nI x31.1), .int (nI x31.2.1), .int (wI x31.2.2), .int pa, .int ma, .int ex, .ref ki]))] H31 := hP
    have hD : va_D A [(t, .inl (cB, n, .inl (tx u))), (h, .inr (5, [.ref res, .int ie, .ref t, .ref no, .int (nI x31.1), .int (nI x31.2.1), .int (wI x31.2.2), .int pa, .int ma, .int ex, .ref ki]))] := hD
    have hw31 : x31 = rd_lea o3.1 o3.2 v := hw31
    have hi31 : rdInv n x31 := by rw [hw31]; exact lea_inv hi3.1 hi3.2.2.1
    refine va_new (ci := 0) (fs := [.null, .int 0, .int 0]) hx hb htb i_Slice t_Slice t_Slice_ok hown (htb _ q2_90) (htb _ q2_91) (htb _ q1_20) hK hP hD hS hA rfl (fun j hj => by rcases (show j = 0 ∨ j = 1 ∨ j = 2 by omega) with rfl | rfl | rfl <;> rfl) (Nat.le_of_ble_eq_true rfl) (Nat.le_of_ble_eq_true rfl) d_Reader_plain_34 (fun q34 H34 hP hD hS => ?_)
    have hP : va_P (dC, dI) classes [(t, .inl (cB, n, .inl (tx u))), (h, .inr (5, [.ref res, .int ie, .ref t, .ref no, .int (nI x31.1), .int (nI x31.2.1), .int (wI x31.2.2), .int pa, .int ma, .int ex, .ref ki])), (q34, .inr (0, [.null, .int 0, .int 0]))] H34 := hP
    have hD : va_D A [(t, .inl (cB, n, .inl (tx u))), (h, .inr (5, [.ref res, .int ie, .ref t, .ref no, .int (nI x31.1), .int (nI x31.2.1), .int (wI x31.2.2), .int pa, .int ma, .int ex, .ref ki])), (q34, .inr (0, [.null, .int 0, .int 0]))] := hD
    refine lv_dup hx hb d_Reader_plain_37 rfl ?_
    refine lv_aload_n hx hb d_Reader_plain_38 rfl (lv_at hl 2 rfl) ?_
    refine va_get (v := .ref t) hx hb htb i_ListReader hown hK hP 1 rfl rfl 2 (by decide) (htb _ q3_58) (fun _ h9 => h9) rfl d_Reader_plain_39 ?_
    refine lv_iload hx hb d_Reader_plain_42 (lv_at hl 0 rfl) ?_
    refine lv_iload hx hb d_Reader_plain_44 (lv_at hl 1 rfl) ?_
    have hFc := va_free (wc := [(q34, .inr (0, [.null, .int 0, .int 0]))]) hD hS hA [2] rfl
    refine va_callv (mu_runI (As := [.ref t, .int (nI o3.1.1), .int (nI o3.2)]) (rest := [.ref q34]) ⟨hx, hb, hml, hown, hts⟩ tbin (c_Slice_init l dC dI q34 t (nI o3.1.1) (nI o3.2) H34.size) q2_92 q2_93 q1_20 q2_94 rfl (n := 3) (by decide +kernel) rfl ⟨rfl, rfl⟩ ⟨Nat.le_of_ble_eq_true rfl, Nat.le_of_ble_eq_true rfl⟩ ⟨Nat.le_of_ble_eq_true rfl, Nat.le_of_ble_eq_true rfl⟩ hN hK hP hD [2] (by decide) rfl [] rfl hl.1 rfl (Nat.le_of_ble_eq_true rfl) d_Reader_plain_46) hS (fun q _ h => hFc q h) hFc (fun u46 tS H46 locs ht hvm hw46 hB hz1 hk1 hS => ?_)
    skip
    obtain ⟨hP1, hK1, hD1⟩ := hB
    rw [ht] at hP1
    obtain ⟨hP, hD⟩ := va_join (wr := [(t, .inl (cB, n, .inl (tx u))), (h, .inr (5, [.ref res, .int ie, .ref t, .ref no, .int (nI x31.1), .int (nI x31.2.1), .int (wI x31.2.2), .int pa, .int ma, .int ex, .ref ki]))]) (w1 := [(q34, .inr (0, [.ref t, .int (nI o3.1.1), .int (nI o3.2)]))]) hP hD [2] [0, 1] rfl rfl (by decide) (by decide) hk1 hFc hP1 hD1
    have hP : va_P (dC, dI) classes [(t, .inl (cB, n, .inl (tx u))), (h, .inr (5, [.ref res, .int ie, .ref t, .ref no, .int (nI x31.1), .int (nI x31.2.1), .int (wI x31.2.2), .int pa, .int ma, .int ex, .ref ki])), (q34, .inr (0, [.ref t, .int (nI o3.1.1), .int (nI o3.2)]))] H46 := hP
    have hD : va_D A [(t, .inl (cB, n, .inl (tx u))), (h, .inr (5, [.ref res, .int ie, .ref t, .ref no, .int (nI x31.1), .int (nI x31.2.1), .int (wI x31.2.2), .int pa, .int ma, .int ex, .ref ki])), (q34, .inr (0, [.ref t, .int (nI o3.1.1), .int (nI o3.2)]))] := hD
    subst ho3
    exact W.aret (v := .ref q34) hx hb hr (Or.inl ⟨_, rfl⟩) (Or.inr ⟨_, rfl⟩) (fun t ht hW => ⟨⟨x31, q34, rfl, hw31.trans (by rw [bz_zI hv]; rfl), by rw [ht]; exact hP.sub [1, 0, 2] rfl, va_K.moved hW.alike hK, hD.sub [1, 0, 2] (by decide) rfl⟩, hS.F ht⟩) hS.2.2 d_Reader_plain_49
  · skip
    have hb1 := hi3.1.1
    have hb2 := hi3.2.1
    have hb3 := hi3.2.2.1
    refine lv_iload hx hb d_Reader_plain_17 (lv_at hl 1 rfl) ?_
    refine lv_iload hx hb d_Reader_plain_19 (lv_at hl 0 rfl) ?_
    refine lv_isub hx hb d_Reader_plain_21 ?_
    refine lv_iload_n hx hb d_Reader_plain_22 rfl (lv_at hl 4 rfl) ?_
    refine lv_icmp_lt (tgt := 30) hx hb d_Reader_plain_23 (by decide) (fun c23 => ?_) (fun c23 => ?_)
    · refine lv_iconst (v := 0) hx hb d_Reader_plain_30 (by decide) ?_
      exact k31 _ (bz_f (fun q => absurd q (by rw [pk_sub hi3.2.1, nI_ltI (by omega) (by omega)] at c23; omega)))
    · refine lv_iconst (v := 1) hx hb d_Reader_plain_26 (by decide) ?_
      refine lv_goto (tgt := 31) hx hb d_Reader_plain_27 (by decide) ?_
      exact k31 _ (bz_t (by rw [pk_sub hi3.2.1, nI_ltI (by omega) (by omega)] at c23; omega))
end
