/-! Small methods of TrustChain, Sha256 and the reference that change nothing. -/
def y_Trust_isFed : MethodName := ⟨"TrustChain", "isFed", "(I)Z"⟩
abbrev b_Trust_isFed : ByteArray := prog_1_method_17_code
def w_Trust_isFed : List Cond := Cond.code y_Trust_isFed b_Trust_isFed 2 ((some FieldType.boolean)) :: tb
theorem d_Trust_isFed_0 : decode b_Trust_isFed 0 = .ok (.iload_n 1, 1) := by decide +kernel
theorem d_Trust_isFed_1 : decode b_Trust_isFed 1 = .ok (.ifCond .lt 22, 3) := by decide +kernel
theorem d_Trust_isFed_4 : decode b_Trust_isFed 4 = .ok (.iload_n 1, 1) := by decide +kernel
theorem d_Trust_isFed_5 : decode b_Trust_isFed 5 = .ok (.sipush 2048, 3) := by decide +kernel
theorem d_Trust_isFed_8 : decode b_Trust_isFed 8 = .ok (.if_icmp .gt 15, 3) := by decide +kernel
theorem d_Trust_isFed_11 : decode b_Trust_isFed 11 = .ok (.iload_n 1, 1) := by decide +kernel
theorem d_Trust_isFed_12 : decode b_Trust_isFed 12 = .ok (.aload_n 0, 1) := by decide +kernel
theorem d_Trust_isFed_13 : decode b_Trust_isFed 13 = .ok (.getfield 68, 3) := by decide +kernel
theorem d_Trust_isFed_16 : decode b_Trust_isFed 16 = .ok (.if_icmp .gt 7, 3) := by decide +kernel
theorem d_Trust_isFed_19 : decode b_Trust_isFed 19 = .ok (.iconst 1, 1) := by decide +kernel
theorem d_Trust_isFed_20 : decode b_Trust_isFed 20 = .ok (.goto 4, 3) := by decide +kernel
theorem d_Trust_isFed_23 : decode b_Trust_isFed 23 = .ok (.iconst 0, 1) := by decide +kernel
theorem d_Trust_isFed_24 : decode b_Trust_isFed 24 = .ok (.ireturn, 1) := by decide +kernel
def y_Trust_isStored : MethodName := ⟨"TrustChain", "isStored", "(I)Z"⟩
abbrev b_Trust_isStored : ByteArray := prog_1_method_19_code
def w_Trust_isStored : List Cond := Cond.code y_Trust_isStored b_Trust_isStored 2 ((some FieldType.boolean)) :: tb
theorem d_Trust_isStored_0 : decode b_Trust_isStored 0 = .ok (.iload_n 1, 1) := by decide +kernel
theorem d_Trust_isStored_1 : decode b_Trust_isStored 1 = .ok (.ifCond .lt 18, 3) := by decide +kernel
theorem d_Trust_isStored_4 : decode b_Trust_isStored 4 = .ok (.iload_n 1, 1) := by decide +kernel
theorem d_Trust_isStored_5 : decode b_Trust_isStored 5 = .ok (.aload_n 0, 1) := by decide +kernel
theorem d_Trust_isStored_6 : decode b_Trust_isStored 6 = .ok (.getfield 19, 3) := by decide +kernel
theorem d_Trust_isStored_9 : decode b_Trust_isStored 9 = .ok (.invokevirtual 89, 3) := by decide +kernel
theorem d_Trust_isStored_12 : decode b_Trust_isStored 12 = .ok (.if_icmp .ge 7, 3) := by decide +kernel
theorem d_Trust_isStored_15 : decode b_Trust_isStored 15 = .ok (.iconst 1, 1) := by decide +kernel
theorem d_Trust_isStored_16 : decode b_Trust_isStored 16 = .ok (.goto 4, 3) := by decide +kernel
theorem d_Trust_isStored_19 : decode b_Trust_isStored 19 = .ok (.iconst 0, 1) := by decide +kernel
theorem d_Trust_isStored_20 : decode b_Trust_isStored 20 = .ok (.ireturn, 1) := by decide +kernel
def y_Trust_isListed : MethodName := ⟨"TrustChain", "isListed", "(I)Z"⟩
abbrev b_Trust_isListed : ByteArray := prog_1_method_20_code
def w_Trust_isListed : List Cond := Cond.code y_Trust_isListed b_Trust_isListed 2 ((some FieldType.boolean)) :: tb
theorem d_Trust_isListed_0 : decode b_Trust_isListed 0 = .ok (.iload_n 1, 1) := by decide +kernel
theorem d_Trust_isListed_1 : decode b_Trust_isListed 1 = .ok (.ifCond .lt 18, 3) := by decide +kernel
theorem d_Trust_isListed_4 : decode b_Trust_isListed 4 = .ok (.iload_n 1, 1) := by decide +kernel
theorem d_Trust_isListed_5 : decode b_Trust_isListed 5 = .ok (.aload_n 0, 1) := by decide +kernel
theorem d_Trust_isListed_6 : decode b_Trust_isListed 6 = .ok (.getfield 23, 3) := by decide +kernel
theorem d_Trust_isListed_9 : decode b_Trust_isListed 9 = .ok (.invokevirtual 89, 3) := by decide +kernel
theorem d_Trust_isListed_12 : decode b_Trust_isListed 12 = .ok (.if_icmp .ge 7, 3) := by decide +kernel
theorem d_Trust_isListed_15 : decode b_Trust_isListed 15 = .ok (.iconst 1, 1) := by decide +kernel
theorem d_Trust_isListed_16 : decode b_Trust_isListed 16 = .ok (.goto 4, 3) := by decide +kernel
theorem d_Trust_isListed_19 : decode b_Trust_isListed 19 = .ok (.iconst 0, 1) := by decide +kernel
theorem d_Trust_isListed_20 : decode b_Trust_isListed 20 = .ok (.ireturn, 1) := by decide +kernel
def y_Trust_wrong : MethodName := ⟨"TrustChain", "wrong", "()I"⟩
abbrev b_Trust_wrong : ByteArray := prog_1_method_5_code
def w_Trust_wrong : List Cond := Cond.code y_Trust_wrong b_Trust_wrong 1 ((some FieldType.int)) :: tb
theorem d_Trust_wrong_0 : decode b_Trust_wrong 0 = .ok (.aload_n 0, 1) := by decide +kernel
theorem d_Trust_wrong_1 : decode b_Trust_wrong 1 = .ok (.getfield 71, 3) := by decide +kernel
theorem d_Trust_wrong_4 : decode b_Trust_wrong 4 = .ok (.ireturn, 1) := by decide +kernel
def y_Sha256_turn : MethodName := ⟨"TrustChain$Sha256", "turn", "(II)I"⟩
abbrev b_Sha256_turn : ByteArray := prog_11_method_6_code
def w_Sha256_turn : List Cond := Cond.code y_Sha256_turn b_Sha256_turn 2 ((some FieldType.int)) :: tb
theorem d_Sha256_turn_0 : decode b_Sha256_turn 0 = .ok (.iload_n 0, 1) := by decide +kernel
theorem d_Sha256_turn_1 : decode b_Sha256_turn 1 = .ok (.iload_n 1, 1) := by decide +kernel
theorem d_Sha256_turn_2 : decode b_Sha256_turn 2 = .ok (.iushr, 1) := by decide +kernel
theorem d_Sha256_turn_3 : decode b_Sha256_turn 3 = .ok (.iload_n 0, 1) := by decide +kernel
theorem d_Sha256_turn_4 : decode b_Sha256_turn 4 = .ok (.bipush 32, 2) := by decide +kernel
theorem d_Sha256_turn_6 : decode b_Sha256_turn 6 = .ok (.iload_n 1, 1) := by decide +kernel
theorem d_Sha256_turn_7 : decode b_Sha256_turn 7 = .ok (.isub, 1) := by decide +kernel
theorem d_Sha256_turn_8 : decode b_Sha256_turn 8 = .ok (.ishl, 1) := by decide +kernel
theorem d_Sha256_turn_9 : decode b_Sha256_turn 9 = .ok (.ior, 1) := by decide +kernel
theorem d_Sha256_turn_10 : decode b_Sha256_turn 10 = .ok (.ireturn, 1) := by decide +kernel
def y_Sha256_padded : MethodName := ⟨"TrustChain$Sha256", "padded", "(LTrustChain$Slice;II)I"⟩
abbrev b_Sha256_padded : ByteArray := prog_11_method_4_code
def w_Sha256_padded : List Cond := Cond.code y_Sha256_padded b_Sha256_padded 3 ((some FieldType.int)) :: tb
theorem d_Sha256_padded_0 : decode b_Sha256_padded 0 = .ok (.iload_n 1, 1) := by decide +kernel
theorem d_Sha256_padded_1 : decode b_Sha256_padded 1 = .ok (.aload_n 0, 1) := by decide +kernel
theorem d_Sha256_padded_2 : decode b_Sha256_padded 2 = .ok (.invokevirtual 24, 3) := by decide +kernel
theorem d_Sha256_padded_5 : decode b_Sha256_padded 5 = .ok (.if_icmp .ge 9, 3) := by decide +kernel
theorem d_Sha256_padded_8 : decode b_Sha256_padded 8 = .ok (.aload_n 0, 1) := by decide +kernel
theorem d_Sha256_padded_9 : decode b_Sha256_padded 9 = .ok (.iload_n 1, 1) := by decide +kernel
theorem d_Sha256_padded_10 : decode b_Sha256_padded 10 = .ok (.invokevirtual 46, 3) := by decide +kernel
theorem d_Sha256_padded_13 : decode b_Sha256_padded 13 = .ok (.ireturn, 1) := by decide +kernel
theorem d_Sha256_padded_14 : decode b_Sha256_padded 14 = .ok (.iload_n 1, 1) := by decide +kernel
theorem d_Sha256_padded_15 : decode b_Sha256_padded 15 = .ok (.aload_n 0, 1) := by decide +kernel
theorem d_Sha256_padded_16 : decode b_Sha256_padded 16 = .ok (.invokevirtual 24, 3) := by decide +kernel
theorem d_Sha256_padded_19 : decode b_Sha256_padded 19 = .ok (.if_icmp .ne 7, 3) := by decide +kernel
theorem d_Sha256_padded_22 : decode b_Sha256_padded 22 = .ok (.sipush 128, 3) := by decide +kernel
theorem d_Sha256_padded_25 : decode b_Sha256_padded 25 = .ok (.ireturn, 1) := by decide +kernel
theorem d_Sha256_padded_26 : decode b_Sha256_padded 26 = .ok (.iload_n 1, 1) := by decide +kernel
theorem d_Sha256_padded_27 : decode b_Sha256_padded 27 = .ok (.iload_n 2, 1) := by decide +kernel
theorem d_Sha256_padded_28 : decode b_Sha256_padded 28 = .ok (.iconst 4, 1) := by decide +kernel
theorem d_Sha256_padded_29 : decode b_Sha256_padded 29 = .ok (.isub, 1) := by decide +kernel
theorem d_Sha256_padded_30 : decode b_Sha256_padded 30 = .ok (.if_icmp .ge 7, 3) := by decide +kernel
theorem d_Sha256_padded_33 : decode b_Sha256_padded 33 = .ok (.iconst 0, 1) := by decide +kernel
theorem d_Sha256_padded_34 : decode b_Sha256_padded 34 = .ok (.goto 23, 3) := by decide +kernel
theorem d_Sha256_padded_37 : decode b_Sha256_padded 37 = .ok (.aload_n 0, 1) := by decide +kernel
theorem d_Sha256_padded_38 : decode b_Sha256_padded 38 = .ok (.invokevirtual 24, 3) := by decide +kernel
theorem d_Sha256_padded_41 : decode b_Sha256_padded 41 = .ok (.bipush 8, 2) := by decide +kernel
theorem d_Sha256_padded_43 : decode b_Sha256_padded 43 = .ok (.imul, 1) := by decide +kernel
theorem d_Sha256_padded_44 : decode b_Sha256_padded 44 = .ok (.bipush 8, 2) := by decide +kernel
theorem d_Sha256_padded_46 : decode b_Sha256_padded 46 = .ok (.iload_n 2, 1) := by decide +kernel
theorem d_Sha256_padded_47 : decode b_Sha256_padded 47 = .ok (.iconst 1, 1) := by decide +kernel
theorem d_Sha256_padded_48 : decode b_Sha256_padded 48 = .ok (.isub, 1) := by decide +kernel
theorem d_Sha256_padded_49 : decode b_Sha256_padded 49 = .ok (.iload_n 1, 1) := by decide +kernel
theorem d_Sha256_padded_50 : decode b_Sha256_padded 50 = .ok (.isub, 1) := by decide +kernel
theorem d_Sha256_padded_51 : decode b_Sha256_padded 51 = .ok (.imul, 1) := by decide +kernel
theorem d_Sha256_padded_52 : decode b_Sha256_padded 52 = .ok (.iushr, 1) := by decide +kernel
theorem d_Sha256_padded_53 : decode b_Sha256_padded 53 = .ok (.sipush 255, 3) := by decide +kernel
theorem d_Sha256_padded_56 : decode b_Sha256_padded 56 = .ok (.iand, 1) := by decide +kernel
theorem d_Sha256_padded_57 : decode b_Sha256_padded 57 = .ok (.ireturn, 1) := by decide +kernel
def y_Certificate_mayUse : MethodName := ⟨"TrustChain$Certificate", "mayUse", "(I)Z"⟩
abbrev b_Certificate_mayUse : ByteArray := prog_2_method_3_code
def w_Certificate_mayUse : List Cond := Cond.code y_Certificate_mayUse b_Certificate_mayUse 2 ((some FieldType.boolean)) :: tb
theorem d_Certificate_mayUse_0 : decode b_Certificate_mayUse 0 = .ok (.aload_n 0, 1) := by decide +kernel
theorem d_Certificate_mayUse_1 : decode b_Certificate_mayUse 1 = .ok (.getfield 43, 3) := by decide +kernel
theorem d_Certificate_mayUse_4 : decode b_Certificate_mayUse 4 = .ok (.ifCond .lt 15, 3) := by decide +kernel
theorem d_Certificate_mayUse_7 : decode b_Certificate_mayUse 7 = .ok (.aload_n 0, 1) := by decide +kernel
theorem d_Certificate_mayUse_8 : decode b_Certificate_mayUse 8 = .ok (.getfield 43, 3) := by decide +kernel
theorem d_Certificate_mayUse_11 : decode b_Certificate_mayUse 11 = .ok (.iload_n 1, 1) := by decide +kernel
theorem d_Certificate_mayUse_12 : decode b_Certificate_mayUse 12 = .ok (.ishr, 1) := by decide +kernel
theorem d_Certificate_mayUse_13 : decode b_Certificate_mayUse 13 = .ok (.iconst 1, 1) := by decide +kernel
theorem d_Certificate_mayUse_14 : decode b_Certificate_mayUse 14 = .ok (.iand, 1) := by decide +kernel
theorem d_Certificate_mayUse_15 : decode b_Certificate_mayUse 15 = .ok (.iconst 1, 1) := by decide +kernel
theorem d_Certificate_mayUse_16 : decode b_Certificate_mayUse 16 = .ok (.if_icmp .ne 7, 3) := by decide +kernel
theorem d_Certificate_mayUse_19 : decode b_Certificate_mayUse 19 = .ok (.iconst 1, 1) := by decide +kernel
theorem d_Certificate_mayUse_20 : decode b_Certificate_mayUse 20 = .ok (.goto 4, 3) := by decide +kernel
theorem d_Certificate_mayUse_23 : decode b_Certificate_mayUse 23 = .ok (.iconst 0, 1) := by decide +kernel
theorem d_Certificate_mayUse_24 : decode b_Certificate_mayUse 24 = .ok (.ireturn, 1) := by decide +kernel
def y_Model_in : MethodName := ⟨"TrustChainModel", "in", "(III)Z"⟩
abbrev b_Model_in : ByteArray := prog_14_method_12_code
def w_Model_in : List Cond := Cond.code y_Model_in b_Model_in 3 ((some FieldType.boolean)) :: tb
theorem d_Model_in_0 : decode b_Model_in 0 = .ok (.iload_n 0, 1) := by decide +kernel
theorem d_Model_in_1 : decode b_Model_in 1 = .ok (.iload_n 1, 1) := by decide +kernel
theorem d_Model_in_2 : decode b_Model_in 2 = .ok (.if_icmp .lt 12, 3) := by decide +kernel
theorem d_Model_in_5 : decode b_Model_in 5 = .ok (.iload_n 0, 1) := by decide +kernel
theorem d_Model_in_6 : decode b_Model_in 6 = .ok (.iload_n 2, 1) := by decide +kernel
theorem d_Model_in_7 : decode b_Model_in 7 = .ok (.if_icmp .gt 7, 3) := by decide +kernel
theorem d_Model_in_10 : decode b_Model_in 10 = .ok (.iconst 1, 1) := by decide +kernel
theorem d_Model_in_11 : decode b_Model_in 11 = .ok (.goto 4, 3) := by decide +kernel
theorem d_Model_in_14 : decode b_Model_in 14 = .ok (.iconst 0, 1) := by decide +kernel
theorem d_Model_in_15 : decode b_Model_in 15 = .ok (.ireturn, 1) := by decide +kernel
def y_Model_small : MethodName := ⟨"TrustChainModel", "small", "(I)I"⟩
abbrev b_Model_small : ByteArray := prog_14_method_40_code
def w_Model_small : List Cond := Cond.code y_Model_small b_Model_small 1 ((some FieldType.int)) :: tb
theorem d_Model_small_0 : decode b_Model_small 0 = .ok (.iload_n 0, 1) := by decide +kernel
theorem d_Model_small_1 : decode b_Model_small 1 = .ok (.bipush 65, 2) := by decide +kernel
theorem d_Model_small_3 : decode b_Model_small 3 = .ok (.bipush 90, 2) := by decide +kernel
theorem d_Model_small_5 : decode b_Model_small 5 = .ok (.invokestatic 205, 3) := by decide +kernel
theorem d_Model_small_8 : decode b_Model_small 8 = .ok (.ifCond .eq 10, 3) := by decide +kernel
theorem d_Model_small_11 : decode b_Model_small 11 = .ok (.iload_n 0, 1) := by decide +kernel
theorem d_Model_small_12 : decode b_Model_small 12 = .ok (.bipush 32, 2) := by decide +kernel
theorem d_Model_small_14 : decode b_Model_small 14 = .ok (.iadd, 1) := by decide +kernel
theorem d_Model_small_15 : decode b_Model_small 15 = .ok (.goto 4, 3) := by decide +kernel
theorem d_Model_small_18 : decode b_Model_small 18 = .ok (.iload_n 0, 1) := by decide +kernel
theorem d_Model_small_19 : decode b_Model_small 19 = .ok (.ireturn, 1) := by decide +kernel
def y_Model_turn : MethodName := ⟨"TrustChainModel", "turn", "(II)I"⟩
abbrev b_Model_turn : ByteArray := prog_14_method_24_code
def w_Model_turn : List Cond := Cond.code y_Model_turn b_Model_turn 2 ((some FieldType.int)) :: tb
theorem d_Model_turn_0 : decode b_Model_turn 0 = .ok (.iload_n 0, 1) := by decide +kernel
theorem d_Model_turn_1 : decode b_Model_turn 1 = .ok (.iload_n 1, 1) := by decide +kernel
theorem d_Model_turn_2 : decode b_Model_turn 2 = .ok (.iushr, 1) := by decide +kernel
theorem d_Model_turn_3 : decode b_Model_turn 3 = .ok (.iload_n 0, 1) := by decide +kernel
theorem d_Model_turn_4 : decode b_Model_turn 4 = .ok (.bipush 32, 2) := by decide +kernel
theorem d_Model_turn_6 : decode b_Model_turn 6 = .ok (.iload_n 1, 1) := by decide +kernel
theorem d_Model_turn_7 : decode b_Model_turn 7 = .ok (.isub, 1) := by decide +kernel
theorem d_Model_turn_8 : decode b_Model_turn 8 = .ok (.ishl, 1) := by decide +kernel
theorem d_Model_turn_9 : decode b_Model_turn 9 = .ok (.ior, 1) := by decide +kernel
theorem d_Model_turn_10 : decode b_Model_turn 10 = .ok (.ireturn, 1) := by decide +kernel
def y_Model_hexOf : MethodName := ⟨"TrustChainModel", "hexOf", "(I)I"⟩
abbrev b_Model_hexOf : ByteArray := prog_14_method_10_code
def w_Model_hexOf : List Cond := Cond.code y_Model_hexOf b_Model_hexOf 1 ((some FieldType.int)) :: tb
theorem d_Model_hexOf_0 : decode b_Model_hexOf 0 = .ok (.iload_n 0, 1) := by decide +kernel
theorem d_Model_hexOf_1 : decode b_Model_hexOf 1 = .ok (.bipush 57, 2) := by decide +kernel
theorem d_Model_hexOf_3 : decode b_Model_hexOf 3 = .ok (.if_icmp .gt 10, 3) := by decide +kernel
theorem d_Model_hexOf_6 : decode b_Model_hexOf 6 = .ok (.iload_n 0, 1) := by decide +kernel
theorem d_Model_hexOf_7 : decode b_Model_hexOf 7 = .ok (.bipush 48, 2) := by decide +kernel
theorem d_Model_hexOf_9 : decode b_Model_hexOf 9 = .ok (.isub, 1) := by decide +kernel
theorem d_Model_hexOf_10 : decode b_Model_hexOf 10 = .ok (.goto 13, 3) := by decide +kernel
theorem d_Model_hexOf_13 : decode b_Model_hexOf 13 = .ok (.iload_n 0, 1) := by decide +kernel
theorem d_Model_hexOf_14 : decode b_Model_hexOf 14 = .ok (.bipush 32, 2) := by decide +kernel
theorem d_Model_hexOf_16 : decode b_Model_hexOf 16 = .ok (.ior, 1) := by decide +kernel
theorem d_Model_hexOf_17 : decode b_Model_hexOf 17 = .ok (.bipush 97, 2) := by decide +kernel
theorem d_Model_hexOf_19 : decode b_Model_hexOf 19 = .ok (.isub, 1) := by decide +kernel
theorem d_Model_hexOf_20 : decode b_Model_hexOf 20 = .ok (.bipush 10, 2) := by decide +kernel
theorem d_Model_hexOf_22 : decode b_Model_hexOf 22 = .ok (.iadd, 1) := by decide +kernel
theorem d_Model_hexOf_23 : decode b_Model_hexOf 23 = .ok (.ireturn, 1) := by decide +kernel
set_option maxHeartbeats 4000000 in
set_option maxRecDepth 100000 in
theorem c_Trust_wrong (l : Launch) (dC : Nat → ClassId) (dI : Nat → Nat → Nat) (sb : sB) (q0 fe ho ce li sh rs se ch fo : Nat) (foS chS faP feS wrP : Int32) : Met l y_Trust_wrong w_Trust_wrong ({ frames := 0, cells := 0, slots := 0, locals := 0 }) (pu_P [.ref q0] (dC, dI) sb [(q0, .inr (10, [.ref fe, .ref ho, .ref ce, .ref li, .ref sh, .ref rs, .ref se, .ref ch, .ref fo, .int foS, .int chS, .int faP, .int feS, .int wrP]))] []) (vp_Si (fun r => r = wrP)) 0 0 (fun _ => False) := by
  refine Met.ofW (cc := b_Trust_wrong) (maxL := 1) (ret := (some FieldType.int)) (by decide) rfl ?_
  intro p e s m args below meth c s₁ B hml hv
  obtain ⟨rfl, hP, hK, hN, hT0⟩ := hv
  have hx := B.exec
  have hb := B.bytes
  have hr := B.returns
  have hts := atoms_spec (ws := w_Trust_wrong) B.pre
  have tbin : ∀ w ∈ tb, w ∈ w_Trust_wrong := fun w h => List.mem_cons_of_mem _ h
  have htb : ∀ w ∈ tb, w.before _ s = true := fun w h => hts w (tbin w h)
  have hown : s.vm.findClass "TrustChain" = some m.cls := findClass_of_methodNamed B.named
  have hlocks := B.notSynchronized
  have hcs : 0 ≤ (headSpec w_Trust_wrong ({ frames := 0, cells := 0, slots := 0, locals := 0 })).room.cells ∧ 0 ≤ (headSpec w_Trust_wrong ({ frames := 0, cells := 0, slots := 0, locals := 0 })).room.slots := ⟨Nat.zero_le _, Nat.zero_le _⟩
  have hP : va_P (dC, dI) classes [(q0, .inr (10, [.ref fe, .ref ho, .ref ce, .ref li, .ref sh, .ref rs, .ref se, .ref ch, .ref fo, .int foS, .int chS, .int faP, .int feS, .int wrP]))] s.heap := hP
  have hl := lv_entry ([.ref q0]) (n := 1) (Nat.le_of_ble_eq_true rfl)
  rw [lg_entry_eq]
  generalize (lg_sl ([.ref q0]) ++ List.replicate (1 - (lg_sl ([.ref q0])).length) Slot.unset).toArray = ls at hl ⊢
  have hl : lv_has ls 1 [(0, .ref q0)] := hl
  refine lv_aload_n hx hb d_Trust_wrong_0 rfl (lv_at hl 0 rfl) ?_
  refine va_get (v := .int wrP) hx hb htb i_Trust hown hK hP 0 rfl rfl 13 (by decide) (htb _ q1_169) (fun _ h9 => h9) rfl d_Trust_wrong_1 ?_
  exact W.iret (v := wrP) hx hb hr (fun t ht hW => ⟨_, rfl, rfl, ht⟩) (fun q h => by cases h) d_Trust_wrong_4
set_option maxHeartbeats 4000000 in
set_option maxRecDepth 100000 in
theorem c_Trust_isFed (l : Launch) (dC : Nat → ClassId) (dI : Nat → Nat → Nat) (sb : sB) (q0 fe ho ce li sh rs se ch fo : Nat) (foS chS faP feS wrP : Int32) (i : Int32) : Met l y_Trust_isFed w_Trust_isFed ({ frames := 0, cells := 0, slots := 0, locals := 0 }) (pu_P [.ref q0, .int i] (dC, dI) sb [(q0, .inr (10, [.ref fe, .ref ho, .ref ce, .ref li, .ref sh, .ref rs, .ref se, .ref ch, .ref fo, .int foS, .int chS, .int faP, .int feS, .int wrP]))] []) (vp_Si (fun r => bz r (¬ i < 0 ∧ i ≤ 2048 ∧ i ≤ feS))) 0 0 (fun _ => False) := by
  refine Met.ofW (cc := b_Trust_isFed) (maxL := 2) (ret := (some FieldType.boolean)) (by decide) rfl ?_
  intro p e s m args below meth c s₁ B hml hv
  obtain ⟨rfl, hP, hK, hN, hT0⟩ := hv
  have hx := B.exec
  have hb := B.bytes
  have hr := B.returns
  have hts := atoms_spec (ws := w_Trust_isFed) B.pre
  have tbin : ∀ w ∈ tb, w ∈ w_Trust_isFed := fun w h => List.mem_cons_of_mem _ h
  have htb : ∀ w ∈ tb, w.before _ s = true := fun w h => hts w (tbin w h)
  have hown : s.vm.findClass "TrustChain" = some m.cls := findClass_of_methodNamed B.named
  have hlocks := B.notSynchronized
  have hcs : 0 ≤ (headSpec w_Trust_isFed ({ frames := 0, cells := 0, slots := 0, locals := 0 })).room.cells ∧ 0 ≤ (headSpec w_Trust_isFed ({ frames := 0, cells := 0, slots := 0, locals := 0 })).room.slots := ⟨Nat.zero_le _, Nat.zero_le _⟩
  have hP : va_P (dC, dI) classes [(q0, .inr (10, [.ref fe, .ref ho, .ref ce, .ref li, .ref sh, .ref rs, .ref se, .ref ch, .ref fo, .int foS, .int chS, .int faP, .int feS, .int wrP]))] s.heap := hP
  have hl := lv_entry ([.ref q0, .int i]) (n := 2) (Nat.le_of_ble_eq_true rfl)
  rw [lg_entry_eq]
  generalize (lg_sl ([.ref q0, .int i]) ++ List.replicate (2 - (lg_sl ([.ref q0, .int i])).length) Slot.unset).toArray = ls at hl ⊢
  have hl : lv_has ls 2 [(0, .ref q0), (1, .int i)] := hl
  refine w_join (J := fun v => bz v (¬ i < 0 ∧ i ≤ 2048 ∧ i ≤ feS)) (pc := 24) (ls := ls) (rest := []) (fun v hv => ?_) (fun k24 => ?_)
  · skip
    exact W.zret (v := v) hx hb hr (bz_n hv) (fun t ht hW => ⟨_, rfl, hv, ht⟩) (fun q h => by cases h) d_Trust_isFed_24
  · skip
    refine lv_iload_n hx hb d_Trust_isFed_0 rfl (lv_at hl 1 rfl) ?_
    refine lv_if_lt (tgt := 23) hx hb d_Trust_isFed_1 (by decide) (fun c1 => ?_) (fun c1 => ?_)
    · refine lv_iconst (v := 0) hx hb d_Trust_isFed_23 (by decide) ?_
      exact k24 _ (bz_f (fun q => q.1 c1))
    · refine lv_iload_n hx hb d_Trust_isFed_4 rfl (lv_at hl 1 rfl) ?_
      refine lv_sipush (v := 2048) hx hb d_Trust_isFed_5 (by decide) ?_
      refine lv_icmp_gt (tgt := 23) hx hb d_Trust_isFed_8 (by decide) (fun c8 => ?_) (fun c8 => ?_)
      · refine lv_iconst (v := 0) hx hb d_Trust_isFed_23 (by decide) ?_
        exact k24 _ (bz_f (fun q => Int32.not_lt.mpr q.2.1 c8))
      · refine lv_iload_n hx hb d_Trust_isFed_11 rfl (lv_at hl 1 rfl) ?_
        refine lv_aload_n hx hb d_Trust_isFed_12 rfl (lv_at hl 0 rfl) ?_
        refine va_get (v := .int feS) hx hb htb i_Trust hown hK hP 0 rfl rfl 12 (by decide) (htb _ q1_168) (fun _ h9 => h9) rfl d_Trust_isFed_13 ?_
        refine lv_icmp_gt (tgt := 23) hx hb d_Trust_isFed_16 (by decide) (fun c16 => ?_) (fun c16 => ?_)
        · refine lv_iconst (v := 0) hx hb d_Trust_isFed_23 (by decide) ?_
          exact k24 _ (bz_f (fun q => Int32.not_lt.mpr q.2.2 c16))
        · refine lv_iconst (v := 1) hx hb d_Trust_isFed_19 (by decide) ?_
          refine lv_goto (tgt := 24) hx hb d_Trust_isFed_20 (by decide) ?_
          exact k24 _ (bz_t ⟨c1, Int32.not_lt.mp c8, Int32.not_lt.mp c16⟩)
set_option maxHeartbeats 4000000 in
set_option maxRecDepth 100000 in
theorem c_Trust_isStored (l : Launch) (dC : Nat → ClassId) (dI : Nat → Nat → Nat) (sb : sB) (q0 fe ho ce li sh rs se ch fo : Nat) (foS chS faP feS wrP : Int32) (e0 z : Nat) (mo i : Int32) : Met l y_Trust_isStored w_Trust_isStored ({ frames := 1, cells := 0, slots := 0, locals := 20 }) (pu_P [.ref q0, .int i] (dC, dI) sb [(q0, .inr (10, [.ref fe, .ref ho, .ref ce, .ref li, .ref sh, .ref rs, .ref se, .ref ch, .ref fo, .int foS, .int chS, .int faP, .int feS, .int wrP])), (ce, .inr (11, [.ref e0, .int (nI z), .int mo]))] []) (vp_Si (fun r => bz r (¬ i < 0 ∧ i < nI z))) 0 0 (fun _ => False) := by
  refine Met.ofW (cc := b_Trust_isStored) (maxL := 2) (ret := (some FieldType.boolean)) (by decide) rfl ?_
  intro p e s m args below meth c s₁ B hml hv
  obtain ⟨rfl, hP, hK, hN, hT0⟩ := hv
  have hx := B.exec
  have hb := B.bytes
  have hr := B.returns
  have hts := atoms_spec (ws := w_Trust_isStored) B.pre
  have tbin : ∀ w ∈ tb, w ∈ w_Trust_isStored := fun w h => List.mem_cons_of_mem _ h
  have htb : ∀ w ∈ tb, w.before _ s = true := fun w h => hts w (tbin w h)
  have hown : s.vm.findClass "TrustChain" = some m.cls := findClass_of_methodNamed B.named
  have hlocks := B.notSynchronized
  have hcs : 0 ≤ (headSpec w_Trust_isStored ({ frames := 1, cells := 0, slots := 0, locals := 20 })).room.cells ∧ 0 ≤ (headSpec w_Trust_isStored ({ frames := 1, cells := 0, slots := 0, locals := 20 })).room.slots := ⟨Nat.zero_le _, Nat.zero_le _⟩
  have hP : va_P (dC, dI) classes [(q0, .inr (10, [.ref fe, .ref ho, .ref ce, .ref li, .ref sh, .ref rs, .ref se, .ref ch, .ref fo, .int foS, .int chS, .int faP, .int feS, .int wrP])), (ce, .inr (11, [.ref e0, .int (nI z), .int mo]))] s.heap := hP
  have hl := lv_entry ([.ref q0, .int i]) (n := 2) (Nat.le_of_ble_eq_true rfl)
  rw [lg_entry_eq]
  generalize (lg_sl ([.ref q0, .int i]) ++ List.replicate (2 - (lg_sl ([.ref q0, .int i])).length) Slot.unset).toArray = ls at hl ⊢
  have hl : lv_has ls 2 [(0, .ref q0), (1, .int i)] := hl
  refine w_join (J := fun v => bz v (¬ i < 0 ∧ i < nI z)) (pc := 20) (ls := ls) (rest := []) (fun v hv => ?_) (fun k20 => ?_)
  · skip
    exact W.zret (v := v) hx hb hr (bz_n hv) (fun t ht hW => ⟨_, rfl, hv, ht⟩) (fun q h => by cases h) d_Trust_isStored_20
  · skip
    refine lv_iload_n hx hb d_Trust_isStored_0 rfl (lv_at hl 1 rfl) ?_
    refine lv_if_lt (tgt := 19) hx hb d_Trust_isStored_1 (by decide) (fun c1 => ?_) (fun c1 => ?_)
    · refine lv_iconst (v := 0) hx hb d_Trust_isStored_19 (by decide) ?_
      exact k20 _ (bz_f (fun q => q.1 c1))
    · refine lv_iload_n hx hb d_Trust_isStored_4 rfl (lv_at hl 1 rfl) ?_
      refine lv_aload_n hx hb d_Trust_isStored_5 rfl (lv_at hl 0 rfl) ?_
      refine va_get (v := .ref ce) hx hb htb i_Trust hown hK hP 0 rfl rfl 2 (by decide) (htb _ q1_158) (fun _ h9 => h9) rfl d_Trust_isStored_6 ?_
      refine vp_callSi (pu_callV (As := []) (rest := [.int i]) ⟨hx, hb, hml, hown, hts⟩ tbin (c_AL_size l dC dI sb ce e0 z mo) q2_53 q2_54 q2_55 q1_4 q2_56 (n := 0) (by decide +kernel) rfl ⟨rfl, rfl⟩ ⟨Nat.le_of_ble_eq_true rfl, Nat.le_of_ble_eq_true rfl⟩ ⟨Nat.le_of_ble_eq_true rfl, Nat.le_of_ble_eq_true rfl⟩ hN hT0 hK hP [1] rfl [] rfl 1 11 rfl rfl rfl hl.1 rfl (Nat.le_of_ble_eq_true rfl) d_Trust_isStored_9) (fun r9 hr9 => ?_)
      refine lv_icmp_ge (tgt := 19) hx hb d_Trust_isStored_12 (by decide) (fun c12 => ?_) (fun c12 => ?_)
      · refine lv_iconst (v := 0) hx hb d_Trust_isStored_19 (by decide) ?_
        exact k20 _ (bz_f (fun q => Int32.not_lt.mpr c12 (by rw [hr9]; exact q.2)))
      · refine lv_iconst (v := 1) hx hb d_Trust_isStored_15 (by decide) ?_
        refine lv_goto (tgt := 20) hx hb d_Trust_isStored_16 (by decide) ?_
        exact k20 _ (bz_t ⟨c1, by rw [← hr9]; exact Int32.not_le.mp c12⟩)
set_option maxHeartbeats 4000000 in
set_option maxRecDepth 100000 in
theorem c_Trust_isListed (l : Launch) (dC : Nat → ClassId) (dI : Nat → Nat → Nat) (sb : sB) (q0 fe ho ce li sh rs se ch fo : Nat) (foS chS faP feS wrP : Int32) (e0 z : Nat) (mo i : Int32) : Met l y_Trust_isListed w_Trust_isListed ({ frames := 1, cells := 0, slots := 0, locals := 20 }) (pu_P [.ref q0, .int i] (dC, dI) sb [(q0, .inr (10, [.ref fe, .ref ho, .ref ce, .ref li, .ref sh, .ref rs, .ref se, .ref ch, .ref fo, .int foS, .int chS, .int faP, .int feS, .int wrP])), (li, .inr (11, [.ref e0, .int (nI z), .int mo]))] []) (vp_Si (fun r => bz r (¬ i < 0 ∧ i < nI z))) 0 0 (fun _ => False) := by
  refine Met.ofW (cc := b_Trust_isListed) (maxL := 2) (ret := (some FieldType.boolean)) (by decide) rfl ?_
  intro p e s m args below meth c s₁ B hml hv
  obtain ⟨rfl, hP, hK, hN, hT0⟩ := hv
  have hx := B.exec
  have hb := B.bytes
  have hr := B.returns
  have hts := atoms_spec (ws := w_Trust_isListed) B.pre
  have tbin : ∀ w ∈ tb, w ∈ w_Trust_isListed := fun w h => List.mem_cons_of_mem _ h
  have htb : ∀ w ∈ tb, w.before _ s = true := fun w h => hts w (tbin w h)
  have hown : s.vm.findClass "TrustChain" = some m.cls := findClass_of_methodNamed B.named
  have hlocks := B.notSynchronized
  have hcs : 0 ≤ (headSpec w_Trust_isListed ({ frames := 1, cells := 0, slots := 0, locals := 20 })).room.cells ∧ 0 ≤ (headSpec w_Trust_isListed ({ frames := 1, cells := 0, slots := 0, locals := 20 })).room.slots := ⟨Nat.zero_le _, Nat.zero_le _⟩
  have hP : va_P (dC, dI) classes [(q0, .inr (10, [.ref fe, .ref ho, .ref ce, .ref li, .ref sh, .ref rs, .ref se, .ref ch, .ref fo, .int foS, .int chS, .int faP, .int feS, .int wrP])), (li, .inr (11, [.ref e0, .int (nI z), .int mo]))] s.heap := hP
  have hl := lv_entry ([.ref q0, .int i]) (n := 2) (Nat.le_of_ble_eq_true rfl)
  rw [lg_entry_eq]
  generalize (lg_sl ([.ref q0, .int i]) ++ List.replicate (2 - (lg_sl ([.ref q0, .int i])).length) Slot.unset).toArray = ls at hl ⊢
  have hl : lv_has ls 2 [(0, .ref q0), (1, .int i)] := hl
  refine w_join (J := fun v => bz v (¬ i < 0 ∧ i < nI z)) (pc := 20) (ls := ls) (rest := []) (fun v hv => ?_) (fun k20 => ?_)
  · skip
    exact W.zret (v := v) hx hb hr (bz_n hv) (fun t ht hW => ⟨_, rfl, hv, ht⟩) (fun q h => by cases h) d_Trust_isListed_20
  · skip
    refine lv_iload_n hx hb d_Trust_isListed_0 rfl (lv_at hl 1 rfl) ?_
    refine lv_if_lt (tgt := 19) hx hb d_Trust_isListed_1 (by decide) (fun c1 => ?_) (fun c1 => ?_)
    · refine lv_iconst (v := 0) hx hb d_Trust_isListed_19 (by decide) ?_
      exact k20 _ (bz_f (fun q => q.1 c1))
    · refine lv_iload_n hx hb d_Trust_isListed_4 rfl (lv_at hl 1 rfl) ?_
      refine lv_aload_n hx hb d_Trust_isListed_5 rfl (lv_at hl 0 rfl) ?_
      refine va_get (v := .ref li) hx hb htb i_Trust hown hK hP 0 rfl rfl 3 (by decide) (htb _ q1_159) (fun _ h9 => h9) rfl d_Trust_isListed_6 ?_
      refine vp_callSi (pu_callV (As := []) (rest := [.int i]) ⟨hx, hb, hml, hown, hts⟩ tbin (c_AL_size l dC dI sb li e0 z mo) q2_53 q2_54 q2_55 q1_4 q2_56 (n := 0) (by decide +kernel) rfl ⟨rfl, rfl⟩ ⟨Nat.le_of_ble_eq_true rfl, Nat.le_of_ble_eq_true rfl⟩ ⟨Nat.le_of_ble_eq_true rfl, Nat.le_of_ble_eq_true rfl⟩ hN hT0 hK hP [1] rfl [] rfl 1 11 rfl rfl rfl hl.1 rfl (Nat.le_of_ble_eq_true rfl) d_Trust_isListed_9) (fun r9 hr9 => ?_)
      refine lv_icmp_ge (tgt := 19) hx hb d_Trust_isListed_12 (by decide) (fun c12 => ?_) (fun c12 => ?_)
      · refine lv_iconst (v := 0) hx hb d_Trust_isListed_19 (by decide) ?_
        exact k20 _ (bz_f (fun q => Int32.not_lt.mpr c12 (by rw [hr9]; exact q.2)))
      · refine lv_iconst (v := 1) hx hb d_Trust_isListed_15 (by decide) ?_
        refine lv_goto (tgt := 20) hx hb d_Trust_isListed_16 (by decide) ?_
        exact k20 _ (bz_t ⟨c1, by rw [← hr9]; exact Int32.not_le.mp c12⟩)
/-- turned to the right -/
def rotI (x y : Int32) : Int32 := (x.toUInt32 >>> (y.toUInt32 &&& Int32.toUInt32 31)).toInt32 ||| (x <<< ((32 - y) &&& 31))
set_option maxHeartbeats 4000000 in
set_option maxRecDepth 100000 in
theorem c_Sha256_turn (l : Launch) (dC : Nat → ClassId) (dI : Nat → Nat → Nat) (sb : sB) (x y : Int32) : Met l y_Sha256_turn w_Sha256_turn ({ frames := 0, cells := 0, slots := 0, locals := 0 }) (pu_P [.int x, .int y] (dC, dI) sb [] []) (vp_Si (fun r => r = rotI x y)) 0 0 (fun _ => False) := by
  refine Met.ofW (cc := b_Sha256_turn) (maxL := 2) (ret := (some FieldType.int)) (by decide) rfl ?_
  intro p e s m args below meth c s₁ B hml hv
  obtain ⟨rfl, hP, hK, hN, hT0⟩ := hv
  have hx := B.exec
  have hb := B.bytes
  have hr := B.returns
  have hts := atoms_spec (ws := w_Sha256_turn) B.pre
  have tbin : ∀ w ∈ tb, w ∈ w_Sha256_turn := fun w h => List.mem_cons_of_mem _ h
  have htb : ∀ w ∈ tb, w.before _ s = true := fun w h => hts w (tbin w h)
  have hown : s.vm.findClass "TrustChain$Sha256" = some m.cls := findClass_of_methodNamed B.named
  have hlocks := B.notSynchronized
  have hcs : 0 ≤ (headSpec w_Sha256_turn ({ frames := 0, cells := 0, slots := 0, locals := 0 })).room.cells ∧ 0 ≤ (headSpec w_Sha256_turn ({ frames := 0, cells := 0, slots := 0, locals := 0 })).room.slots := ⟨Nat.zero_le _, Nat.zero_le _⟩
  have hP : va_P (dC, dI) classes [] s.heap := hP
  have hl := lv_entry ([.int x, .int y]) (n := 2) (Nat.le_of_ble_eq_true rfl)
  rw [lg_entry_eq]
  generalize (lg_sl ([.int x, .int y]) ++ List.replicate (2 - (lg_sl ([.int x, .int y])).length) Slot.unset).toArray = ls at hl ⊢
  have hl : lv_has ls 2 [(0, .int x), (1, .int y)] := hl
  refine lv_iload_n hx hb d_Sha256_turn_0 rfl (lv_at hl 0 rfl) ?_
  refine lv_iload_n hx hb d_Sha256_turn_1 rfl (lv_at hl 1 rfl) ?_
  refine lv_iushr (v := (x.toUInt32 >>> (y.toUInt32 &&& Int32.toUInt32 31)).toInt32) hx hb d_Sha256_turn_2 rfl ?_
  refine lv_iload_n hx hb d_Sha256_turn_3 rfl (lv_at hl 0 rfl) ?_
  refine lv_bipush (v := 32) hx hb d_Sha256_turn_4 (by decide) ?_
  refine lv_iload_n hx hb d_Sha256_turn_6 rfl (lv_at hl 1 rfl) ?_
  refine lv_isub hx hb d_Sha256_turn_7 ?_
  refine lv_ishl hx hb d_Sha256_turn_8 ?_
  refine lv_ior hx hb d_Sha256_turn_9 ?_
  exact W.iret (v := ((x.toUInt32 >>> (y.toUInt32 &&& Int32.toUInt32 31)).toInt32) ||| (x <<< ((32 - y) &&& 31))) hx hb hr (fun t ht hW => ⟨_, rfl, rfl, ht⟩) (fun q h => by cases h) d_Sha256_turn_10
set_option maxHeartbeats 4000000 in
set_option maxRecDepth 100000 in
theorem c_Model_turn (l : Launch) (dC : Nat → ClassId) (dI : Nat → Nat → Nat) (sb : sB) (x y : Int32) : Met l y_Model_turn w_Model_turn ({ frames := 0, cells := 0, slots := 0, locals := 0 }) (pu_P [.int x, .int y] (dC, dI) sb [] []) (vp_Si (fun r => r = rotI x y)) 0 0 (fun _ => False) := by
  refine Met.ofW (cc := b_Model_turn) (maxL := 2) (ret := (some FieldType.int)) (by decide) rfl ?_
  intro p e s m args below meth c s₁ B hml hv
  obtain ⟨rfl, hP, hK, hN, hT0⟩ := hv
  have hx := B.exec
  have hb := B.bytes
  have hr := B.returns
  have hts := atoms_spec (ws := w_Model_turn) B.pre
  have tbin : ∀ w ∈ tb, w ∈ w_Model_turn := fun w h => List.mem_cons_of_mem _ h
  have htb : ∀ w ∈ tb, w.before _ s = true := fun w h => hts w (tbin w h)
  have hown : s.vm.findClass "TrustChainModel" = some m.cls := findClass_of_methodNamed B.named
  have hlocks := B.notSynchronized
  have hcs : 0 ≤ (headSpec w_Model_turn ({ frames := 0, cells := 0, slots := 0, locals := 0 })).room.cells ∧ 0 ≤ (headSpec w_Model_turn ({ frames := 0, cells := 0, slots := 0, locals := 0 })).room.slots := ⟨Nat.zero_le _, Nat.zero_le _⟩
  have hP : va_P (dC, dI) classes [] s.heap := hP
  have hl := lv_entry ([.int x, .int y]) (n := 2) (Nat.le_of_ble_eq_true rfl)
  rw [lg_entry_eq]
  generalize (lg_sl ([.int x, .int y]) ++ List.replicate (2 - (lg_sl ([.int x, .int y])).length) Slot.unset).toArray = ls at hl ⊢
  have hl : lv_has ls 2 [(0, .int x), (1, .int y)] := hl
  refine lv_iload_n hx hb d_Model_turn_0 rfl (lv_at hl 0 rfl) ?_
  refine lv_iload_n hx hb d_Model_turn_1 rfl (lv_at hl 1 rfl) ?_
  refine lv_iushr (v := (x.toUInt32 >>> (y.toUInt32 &&& Int32.toUInt32 31)).toInt32) hx hb d_Model_turn_2 rfl ?_
  refine lv_iload_n hx hb d_Model_turn_3 rfl (lv_at hl 0 rfl) ?_
  refine lv_bipush (v := 32) hx hb d_Model_turn_4 (by decide) ?_
  refine lv_iload_n hx hb d_Model_turn_6 rfl (lv_at hl 1 rfl) ?_
  refine lv_isub hx hb d_Model_turn_7 ?_
  refine lv_ishl hx hb d_Model_turn_8 ?_
  refine lv_ior hx hb d_Model_turn_9 ?_
  exact W.iret (v := ((x.toUInt32 >>> (y.toUInt32 &&& Int32.toUInt32 31)).toInt32) ||| (x <<< ((32 - y) &&& 31))) hx hb hr (fun t ht hW => ⟨_, rfl, rfl, ht⟩) (fun q h => by cases h) d_Model_turn_10
def padI (u : Nat → Nat) (a b : Nat) (i z : Int32) : Int32 := if nI (b - a) ≤ i then (if i = nI (b - a) then 128 else if i < z - 4 then 0 else ((nI (b - a) * 8).toUInt32 >>> ((8 * (z - 1 - i)).toUInt32 &&& Int32.toUInt32 31)).toInt32 &&& 255) else sl_at u a b i
set_option maxHeartbeats 4000000 in
set_option maxRecDepth 100000 in
theorem c_Sha256_padded (l : Launch) (dC : Nat → ClassId) (dI : Nat → Nat → Nat) (sb : sB) (h t a b n : Nat) (cA : ClassId) (u : Nat → Nat) (i z : Int32) (hu : ∀ j, u j < 256) (hab : a ≤ b) (hbn : b ≤ n) (hn : n < 2 ^ 31) : Met l y_Sha256_padded w_Sha256_padded ({ frames := 1, cells := 0, slots := 0, locals := 22 }) (pu_P [.ref h, .int i, .int z] (dC, dI) sb [(h, .inr (0, [.ref t, .int (nI a), .int (nI b)])), (t, .inl (cA, n, .inl (tx u)))] [(cA, .byte)]) (vp_Si (fun r => r = padI u a b i z)) 0 0 (fun _ => False) := by
  refine Met.ofW (cc := b_Sha256_padded) (maxL := 3) (ret := (some FieldType.int)) (by decide) rfl ?_
  intro p e s m args below meth c s₁ B hml hv
  obtain ⟨rfl, hP, hK, hN, hT0⟩ := hv
  have hx := B.exec
  have hb := B.bytes
  have hr := B.returns
  have hts := atoms_spec (ws := w_Sha256_padded) B.pre
  have tbin : ∀ w ∈ tb, w ∈ w_Sha256_padded := fun w h => List.mem_cons_of_mem _ h
  have htb : ∀ w ∈ tb, w.before _ s = true := fun w h => hts w (tbin w h)
  have hown : s.vm.findClass "TrustChain$Sha256" = some m.cls := findClass_of_methodNamed B.named
  have hlocks := B.notSynchronized
  have hcs : 0 ≤ (headSpec w_Sha256_padded ({ frames := 1, cells := 0, slots := 0, locals := 22 })).room.cells ∧ 0 ≤ (headSpec w_Sha256_padded ({ frames := 1, cells := 0, slots := 0, locals := 22 })).room.slots := ⟨Nat.zero_le _, Nat.zero_le _⟩
  have hP : va_P (dC, dI) classes [(h, .inr (0, [.ref t, .int (nI a), .int (nI b)])), (t, .inl (cA, n, .inl (tx u)))] s.heap := hP
  have hl := lv_entry ([.ref h, .int i, .int z]) (n := 3) (Nat.le_of_ble_eq_true rfl)
  rw [lg_entry_eq]
  generalize (lg_sl ([.ref h, .int i, .int z]) ++ List.replicate (3 - (lg_sl ([.ref h, .int i, .int z])).length) Slot.unset).toArray = ls at hl ⊢
  have hl : lv_has ls 3 [(0, .ref h), (1, .int i), (2, .int z)] := hl
  refine lv_iload_n hx hb d_Sha256_padded_0 rfl (lv_at hl 1 rfl) ?_
  refine lv_aload_n hx hb d_Sha256_padded_1 rfl (lv_at hl 0 rfl) ?_
  refine vp_callSi (pu_callV (As := []) (rest := [.int i]) ⟨hx, hb, hml, hown, hts⟩ tbin (c_Slice_length l dC dI sb h t a b hab) q5_16 q3_144 q3_145 q1_22 q3_146 (n := 0) (by decide +kernel) rfl ⟨rfl, rfl⟩ ⟨Nat.le_of_ble_eq_true rfl, Nat.le_of_ble_eq_true rfl⟩ ⟨Nat.le_of_ble_eq_true rfl, Nat.le_of_ble_eq_true rfl⟩ hN hT0 hK hP [0] rfl [] rfl 0 0 rfl rfl rfl hl.1 rfl (Nat.le_of_ble_eq_true rfl) d_Sha256_padded_2) (fun r2 hr2 => ?_)
  refine lv_icmp_ge (tgt := 14) hx hb d_Sha256_padded_5 (by decide) (fun c5 => ?_) (fun c5 => ?_)
  · refine lv_iload_n hx hb d_Sha256_padded_14 rfl (lv_at hl 1 rfl) ?_
    refine lv_aload_n hx hb d_Sha256_padded_15 rfl (lv_at hl 0 rfl) ?_
    refine vp_callSi (pu_callV (As := []) (rest := [.int i]) ⟨hx, hb, hml, hown, hts⟩ tbin (c_Slice_length l dC dI sb h t a b hab) q5_16 q3_144 q3_145 q1_22 q3_146 (n := 0) (by decide +kernel) rfl ⟨rfl, rfl⟩ ⟨Nat.le_of_ble_eq_true rfl, Nat.le_of_ble_eq_true rfl⟩ ⟨Nat.le_of_ble_eq_true rfl, Nat.le_of_ble_eq_true rfl⟩ hN hT0 hK hP [0] rfl [] rfl 0 0 rfl rfl rfl hl.1 rfl (Nat.le_of_ble_eq_true rfl) d_Sha256_padded_16) (fun r16 hr16 => ?_)
    refine lv_icmp_ne (tgt := 26) hx hb d_Sha256_padded_19 (by decide) (fun c19 => ?_) (fun c19 => ?_)
    · refine w_join (J := fun v => v = padI u a b i z) (pc := 57) (ls := ls) (rest := []) (fun v hv => ?_) (fun k57 => ?_)
      · skip
        exact W.iret (v := v) hx hb hr (fun t ht hW => ⟨_, rfl, hv, ht⟩) (fun q h => by cases h) d_Sha256_padded_57
      · skip
        refine lv_iload_n hx hb d_Sha256_padded_26 rfl (lv_at hl 1 rfl) ?_
        refine lv_iload_n hx hb d_Sha256_padded_27 rfl (lv_at hl 2 rfl) ?_
        refine lv_iconst (v := 4) hx hb d_Sha256_padded_28 (by decide) ?_
        refine lv_isub hx hb d_Sha256_padded_29 ?_
        refine lv_icmp_ge (tgt := 37) hx hb d_Sha256_padded_30 (by decide) (fun c30 => ?_) (fun c30 => ?_)
        · refine lv_aload_n hx hb d_Sha256_padded_37 rfl (lv_at hl 0 rfl) ?_
          refine vp_callSi (pu_callV (As := []) (rest := []) ⟨hx, hb, hml, hown, hts⟩ tbin (c_Slice_length l dC dI sb h t a b hab) q5_16 q3_144 q3_145 q1_22 q3_146 (n := 0) (by decide +kernel) rfl ⟨rfl, rfl⟩ ⟨Nat.le_of_ble_eq_true rfl, Nat.le_of_ble_eq_true rfl⟩ ⟨Nat.le_of_ble_eq_true rfl, Nat.le_of_ble_eq_true rfl⟩ hN hT0 hK hP [0] rfl [] rfl 0 0 rfl rfl rfl hl.1 rfl (Nat.le_of_ble_eq_true rfl) d_Sha256_padded_38) (fun r38 hr38 => ?_)
          refine lv_bipush (v := 8) hx hb d_Sha256_padded_41 (by decide) ?_
          refine lv_imul hx hb d_Sha256_padded_43 ?_
          refine lv_bipush (v := 8) hx hb d_Sha256_padded_44 (by decide) ?_
          refine lv_iload_n hx hb d_Sha256_padded_46 rfl (lv_at hl 2 rfl) ?_
          refine lv_iconst (v := 1) hx hb d_Sha256_padded_47 (by decide) ?_
          refine lv_isub hx hb d_Sha256_padded_48 ?_
          refine lv_iload_n hx hb d_Sha256_padded_49 rfl (lv_at hl 1 rfl) ?_
          refine lv_isub hx hb d_Sha256_padded_50 ?_
          refine lv_imul hx hb d_Sha256_padded_51 ?_
          refine lv_iushr (v := ((r38 * 8).toUInt32 >>> ((8 * ((z - 1) - i)).toUInt32 &&& Int32.toUInt32 31)).toInt32) hx hb d_Sha256_padded_52 rfl ?_
          refine lv_sipush (v := 255) hx hb d_Sha256_padded_53 (by decide) ?_
          refine lv_iand hx hb d_Sha256_padded_56 ?_
          exact k57 _ (by rw [padI, if_pos (by rw [← hr2]; exact c5), if_neg (by rw [← hr16]; exact c19), if_neg (Int32.not_lt.mpr c30), hr38])
        · refine lv_iconst (v := 0) hx hb d_Sha256_padded_33 (by decide) ?_
          refine lv_goto (tgt := 57) hx hb d_Sha256_padded_34 (by decide) ?_
          exact k57 _ (by rw [padI, if_pos (by rw [← hr2]; exact c5), if_neg (by rw [← hr16]; exact c19), if_pos (Int32.not_le.mp c30)])
    · refine lv_sipush (v := 128) hx hb d_Sha256_padded_22 (by decide) ?_
      exact W.iret (v := 128) hx hb hr (fun t ht hW => ⟨_, rfl, by rw [padI, if_pos (by rw [← hr2]; exact c5), if_pos (by rw [← hr16]; exact c19)], ht⟩) (fun q h => by cases h) d_Sha256_padded_25
  · refine lv_aload_n hx hb d_Sha256_padded_8 rfl (lv_at hl 0 rfl) ?_
    refine lv_iload_n hx hb d_Sha256_padded_9 rfl (lv_at hl 1 rfl) ?_
    refine vp_callSi (pu_callV (As := [.int i]) (rest := []) ⟨hx, hb, hml, hown, hts⟩ tbin (c_Slice_at l dC dI sb h t a b n cA u i hu hab hbn hn) q5_24 q3_149 q3_150 q1_22 q3_151 (n := 1) (by decide +kernel) rfl ⟨rfl, rfl⟩ ⟨Nat.le_of_ble_eq_true rfl, Nat.le_of_ble_eq_true rfl⟩ ⟨Nat.le_of_ble_eq_true rfl, Nat.le_of_ble_eq_true rfl⟩ hN hT0 hK hP [0, 1] rfl [0] rfl 0 0 rfl rfl rfl hl.1 rfl (Nat.le_of_ble_eq_true rfl) d_Sha256_padded_10) (fun r10 hr10 => ?_)
    exact W.iret (v := r10) hx hb hr (fun t ht hW => ⟨_, rfl, by rw [padI, if_neg (by rw [← hr2]; exact c5), hr10], ht⟩) (fun q h => by cases h) d_Sha256_padded_13
set_option maxHeartbeats 4000000 in
set_option maxRecDepth 100000 in
theorem c_Model_in (l : Launch) (dC : Nat → ClassId) (dI : Nat → Nat → Nat) (sb : sB) (x y z : Int32) : Met l y_Model_in w_Model_in ({ frames := 0, cells := 0, slots := 0, locals := 0 }) (pu_P [.int x, .int y, .int z] (dC, dI) sb [] []) (vp_Si (fun r => bz r (¬ x < y ∧ ¬ z < x))) 0 0 (fun _ => False) := by
  refine Met.ofW (cc := b_Model_in) (maxL := 3) (ret := (some FieldType.boolean)) (by decide) rfl ?_
  intro p e s m args below meth c s₁ B hml hv
  obtain ⟨rfl, hP, hK, hN, hT0⟩ := hv
  have hx := B.exec
  have hb := B.bytes
  have hr := B.returns
  have hts := atoms_spec (ws := w_Model_in) B.pre
  have tbin : ∀ w ∈ tb, w ∈ w_Model_in := fun w h => List.mem_cons_of_mem _ h
  have htb : ∀ w ∈ tb, w.before _ s = true := fun w h => hts w (tbin w h)
  have hown : s.vm.findClass "TrustChainModel" = some m.cls := findClass_of_methodNamed B.named
  have hlocks := B.notSynchronized
  have hcs : 0 ≤ (headSpec w_Model_in ({ frames := 0, cells := 0, slots := 0, locals := 0 })).room.cells ∧ 0 ≤ (headSpec w_Model_in ({ frames := 0, cells := 0, slots := 0, locals := 0 })).room.slots := ⟨Nat.zero_le _, Nat.zero_le _⟩
  have hP : va_P (dC, dI) classes [] s.heap := hP
  have hl := lv_entry ([.int x, .int y, .int z]) (n := 3) (Nat.le_of_ble_eq_true rfl)
  rw [lg_entry_eq]
  generalize (lg_sl ([.int x, .int y, .int z]) ++ List.replicate (3 - (lg_sl ([.int x, .int y, .int z])).length) Slot.unset).toArray = ls at hl ⊢
  have hl : lv_has ls 3 [(0, .int x), (1, .int y), (2, .int z)] := hl
  refine w_join (J := fun v => bz v (¬ x < y ∧ ¬ z < x)) (pc := 15) (ls := ls) (rest := []) (fun v hv => ?_) (fun k15 => ?_)
  · skip
    exact W.zret (v := v) hx hb hr (bz_n hv) (fun t ht hW => ⟨_, rfl, hv, ht⟩) (fun q h => by cases h) d_Model_in_15
  · skip
    refine lv_iload_n hx hb d_Model_in_0 rfl (lv_at hl 0 rfl) ?_
    refine lv_iload_n hx hb d_Model_in_1 rfl (lv_at hl 1 rfl) ?_
    refine lv_icmp_lt (tgt := 14) hx hb d_Model_in_2 (by decide) (fun c2 => ?_) (fun c2 => ?_)
    · refine lv_iconst (v := 0) hx hb d_Model_in_14 (by decide) ?_
      exact k15 _ (bz_f (fun q => q.1 c2))
    · refine lv_iload_n hx hb d_Model_in_5 rfl (lv_at hl 0 rfl) ?_
      refine lv_iload_n hx hb d_Model_in_6 rfl (lv_at hl 2 rfl) ?_
      refine lv_icmp_gt (tgt := 14) hx hb d_Model_in_7 (by decide) (fun c7 => ?_) (fun c7 => ?_)
      · refine lv_iconst (v := 0) hx hb d_Model_in_14 (by decide) ?_
        exact k15 _ (bz_f (fun q => q.2 c7))
      · refine lv_iconst (v := 1) hx hb d_Model_in_10 (by decide) ?_
        refine lv_goto (tgt := 15) hx hb d_Model_in_11 (by decide) ?_
        exact k15 _ (bz_t ⟨c2, c7⟩)
set_option maxHeartbeats 4000000 in
set_option maxRecDepth 100000 in
theorem c_Model_small (l : Launch) (dC : Nat → ClassId) (dI : Nat → Nat → Nat) (sb : sB) (x : Int32) : Met l y_Model_small w_Model_small ({ frames := 1, cells := 0, slots := 0, locals := 22 }) (pu_P [.int x] (dC, dI) sb [] []) (vp_Si (fun r => r = sl_low x)) 0 0 (fun _ => False) := by
  refine Met.ofW (cc := b_Model_small) (maxL := 1) (ret := (some FieldType.int)) (by decide) rfl ?_
  intro p e s m args below meth c s₁ B hml hv
  obtain ⟨rfl, hP, hK, hN, hT0⟩ := hv
  have hx := B.exec
  have hb := B.bytes
  have hr := B.returns
  have hts := atoms_spec (ws := w_Model_small) B.pre
  have tbin : ∀ w ∈ tb, w ∈ w_Model_small := fun w h => List.mem_cons_of_mem _ h
  have htb : ∀ w ∈ tb, w.before _ s = true := fun w h => hts w (tbin w h)
  have hown : s.vm.findClass "TrustChainModel" = some m.cls := findClass_of_methodNamed B.named
  have hlocks := B.notSynchronized
  have hcs : 0 ≤ (headSpec w_Model_small ({ frames := 1, cells := 0, slots := 0, locals := 22 })).room.cells ∧ 0 ≤ (headSpec w_Model_small ({ frames := 1, cells := 0, slots := 0, locals := 22 })).room.slots := ⟨Nat.zero_le _, Nat.zero_le _⟩
  have hP : va_P (dC, dI) classes [] s.heap := hP
  have hl := lv_entry ([.int x]) (n := 1) (Nat.le_of_ble_eq_true rfl)
  rw [lg_entry_eq]
  generalize (lg_sl ([.int x]) ++ List.replicate (1 - (lg_sl ([.int x])).length) Slot.unset).toArray = ls at hl ⊢
  have hl : lv_has ls 1 [(0, .int x)] := hl
  refine w_join (J := fun v => v = sl_low x) (pc := 19) (ls := ls) (rest := []) (fun v hv => ?_) (fun k19 => ?_)
  · skip
    exact W.iret (v := v) hx hb hr (fun t ht hW => ⟨_, rfl, hv, ht⟩) (fun q h => by cases h) d_Model_small_19
  · skip
    refine lv_iload_n hx hb d_Model_small_0 rfl (lv_at hl 0 rfl) ?_
    refine lv_bipush (v := 65) hx hb d_Model_small_1 (by decide) ?_
    refine lv_bipush (v := 90) hx hb d_Model_small_3 (by decide) ?_
    refine vp_callSi (pu_callS (As := [.int x, .int 65, .int 90]) (rest := []) ⟨hx, hb, hml, hown, hts⟩ tbin (c_Model_in l dC dI sb x 65 90) q9_68 q8_116 q1_9 q8_117 (n := 3) (by decide +kernel) rfl ⟨rfl, rfl⟩ ⟨Nat.le_of_ble_eq_true rfl, Nat.le_of_ble_eq_true rfl⟩ ⟨Nat.le_of_ble_eq_true rfl, Nat.le_of_ble_eq_true rfl⟩ hN hT0 hK hP [] rfl [] rfl hl.1 rfl (Nat.le_of_ble_eq_true rfl) d_Model_small_5) (fun r5 hr5 => ?_)
    refine lv_if_eq (tgt := 18) hx hb d_Model_small_8 (by decide) (fun c8 => ?_) (fun c8 => ?_)
    · refine lv_iload_n hx hb d_Model_small_18 rfl (lv_at hl 0 rfl) ?_
      exact k19 _ (by rw [sl_low, if_pos (by have h := bz_0 hr5 c8; by_cases q : x < 65; exact Or.inl q; exact Or.inr (Classical.byContradiction (fun z => h ⟨q, z⟩)))])
    · refine lv_iload_n hx hb d_Model_small_11 rfl (lv_at hl 0 rfl) ?_
      refine lv_bipush (v := 32) hx hb d_Model_small_12 (by decide) ?_
      refine lv_iadd hx hb d_Model_small_14 ?_
      refine lv_goto (tgt := 19) hx hb d_Model_small_15 (by decide) ?_
      exact k19 _ (by rw [sl_low, if_neg (fun q => q.elim (bz_1 hr5 c8).1 (bz_1 hr5 c8).2)])
def hexI (x : Int32) : Int32 := if 57 < x then (x ||| 32) - 97 + 10 else x - 48
set_option maxHeartbeats 4000000 in
set_option maxRecDepth 100000 in
theorem c_Model_hexOf (l : Launch) (dC : Nat → ClassId) (dI : Nat → Nat → Nat) (sb : sB) (x : Int32) : Met l y_Model_hexOf w_Model_hexOf ({ frames := 0, cells := 0, slots := 0, locals := 0 }) (pu_P [.int x] (dC, dI) sb [] []) (vp_Si (fun r => r = hexI x)) 0 0 (fun _ => False) := by
  refine Met.ofW (cc := b_Model_hexOf) (maxL := 1) (ret := (some FieldType.int)) (by decide) rfl ?_
  intro p e s m args below meth c s₁ B hml hv
  obtain ⟨rfl, hP, hK, hN, hT0⟩ := hv
  have hx := B.exec
  have hb := B.bytes
  have hr := B.returns
  have hts := atoms_spec (ws := w_Model_hexOf) B.pre
  have tbin : ∀ w ∈ tb, w ∈ w_Model_hexOf := fun w h => List.mem_cons_of_mem _ h
  have htb : ∀ w ∈ tb, w.before _ s = true := fun w h => hts w (tbin w h)
  have hown : s.vm.findClass "TrustChainModel" = some m.cls := findClass_of_methodNamed B.named
  have hlocks := B.notSynchronized
  have hcs : 0 ≤ (headSpec w_Model_hexOf ({ frames := 0, cells := 0, slots := 0, locals := 0 })).room.cells ∧ 0 ≤ (headSpec w_Model_hexOf ({ frames := 0, cells := 0, slots := 0, locals := 0 })).room.slots := ⟨Nat.zero_le _, Nat.zero_le _⟩
  have hP : va_P (dC, dI) classes [] s.heap := hP
  have hl := lv_entry ([.int x]) (n := 1) (Nat.le_of_ble_eq_true rfl)
  rw [lg_entry_eq]
  generalize (lg_sl ([.int x]) ++ List.replicate (1 - (lg_sl ([.int x])).length) Slot.unset).toArray = ls at hl ⊢
  have hl : lv_has ls 1 [(0, .int x)] := hl
  refine w_join (J := fun v => v = hexI x) (pc := 23) (ls := ls) (rest := []) (fun v hv => ?_) (fun k23 => ?_)
  · skip
    exact W.iret (v := v) hx hb hr (fun t ht hW => ⟨_, rfl, hv, ht⟩) (fun q h => by cases h) d_Model_hexOf_23
  · skip
    refine lv_iload_n hx hb d_Model_hexOf_0 rfl (lv_at hl 0 rfl) ?_
    refine lv_bipush (v := 57) hx hb d_Model_hexOf_1 (by decide) ?_
    refine lv_icmp_gt (tgt := 13) hx hb d_Model_hexOf_3 (by decide) (fun c3 => ?_) (fun c3 => ?_)
    · refine lv_iload_n hx hb d_Model_hexOf_13 rfl (lv_at hl 0 rfl) ?_
      refine lv_bipush (v := 32) hx hb d_Model_hexOf_14 (by decide) ?_
      refine lv_ior hx hb d_Model_hexOf_16 ?_
      refine lv_bipush (v := 97) hx hb d_Model_hexOf_17 (by decide) ?_
      refine lv_isub hx hb d_Model_hexOf_19 ?_
      refine lv_bipush (v := 10) hx hb d_Model_hexOf_20 (by decide) ?_
      refine lv_iadd hx hb d_Model_hexOf_22 ?_
      exact k23 _ (by rw [hexI, if_pos c3])
    · refine lv_iload_n hx hb d_Model_hexOf_6 rfl (lv_at hl 0 rfl) ?_
      refine lv_bipush (v := 48) hx hb d_Model_hexOf_7 (by decide) ?_
      refine lv_isub hx hb d_Model_hexOf_9 ?_
      refine lv_goto (tgt := 23) hx hb d_Model_hexOf_10 (by decide) ?_
      exact k23 _ (by rw [hexI, if_neg c3])
