/-! More of the words. -/
theorem qn8_111 : (Cond.methodLinkNest "TrustChainModel$Text" (79 : Nat) ({ cls := "TrustChainModel", name := "in", desc := "(III)Z" } : MethodName) "TrustChainModel") ∈ nwords := List.mem_of_getElem? (i := 45) rfl
theorem qn8_173 : (Cond.methodLinkNest "TrustChainModel$Text" (93 : Nat) ({ cls := "TrustChainModel", name := "hexOf", desc := "(I)I" } : MethodName) "TrustChainModel") ∈ nwords := List.mem_of_getElem? (i := 46) rfl
theorem qn8_201 : (Cond.methodLinkNest "TrustChainModel$Text" (115 : Nat) ({ cls := "TrustChainModel", name := "isIn", desc := "(ILjava/lang/String;)Z" } : MethodName) "TrustChainModel") ∈ nwords := List.mem_of_getElem? (i := 47) rfl
theorem qn9_218 : (Cond.castable "TrustChain$Slice" "TrustChain$Slice") ∈ nwords := List.mem_of_getElem? (i := 48) rfl
theorem qn9_219 : (Cond.castable "TrustChain$Certificate" "TrustChain$Certificate") ∈ nwords := List.mem_of_getElem? (i := 49) rfl
theorem qn9_220 : (Cond.castable "TrustChain$Certificate" "TrustChain$Paper") ∈ nwords := List.mem_of_getElem? (i := 50) rfl
theorem qn9_221 : (Cond.castable "TrustChain$Paper" "TrustChain$Paper") ∈ nwords := List.mem_of_getElem? (i := 51) rfl
theorem qn9_233 : (Cond.castable "TrustChain$Certificate" "java/lang/Object") ∈ nwords := List.mem_of_getElem? (i := 61) rfl
theorem qn9_234 : (Cond.castable "TrustChain$Slice" "java/lang/Object") ∈ nwords := List.mem_of_getElem? (i := 62) rfl
