/-! String.charAt on a constant; isIn, is. -/
theorem ks_c : ∀ z ∈ kstr, ∀ c ∈ z.2.2.2, ((c &&& 255).toUInt32 % 65536).toInt32 = c := by decide +kernel
theorem ks_ch {k : Nat} {z : String × Nat × String × List Int32} (hz : kstr[k]? = some z) {j : Nat} (hj : j < z.2.2.2.length) : ((z.2.2.2.getD j 0 &&& 255).toUInt32 % 65536).toInt32 = z.2.2.2.getD j 0 := by
  refine ks_c z (List.mem_of_getElem? hz) _ ?_
  rw [List.getD_eq_getElem?_getD, List.getElem?_eq_getElem hj]
  exact List.getElem_mem hj
theorem ks_n : ∀ z ∈ kstr, ∀ c ∈ z.2.2.2, narrow .char (.int c) = .int c := by decide +kernel
theorem ks_nar {k : Nat} {z : String × Nat × String × List Int32} (hz : kstr[k]? = some z) {j : Nat} (hj : j < z.2.2.2.length) : narrow .char (.int (z.2.2.2.getD j 0)) = .int (z.2.2.2.getD j 0) := by
  refine ks_n z (List.mem_of_getElem? hz) _ ?_
  rw [List.getD_eq_getElem?_getD, List.getElem?_eq_getElem hj]
  exact List.getElem_mem hj
def kz1 : String × Nat × String × List Int32 := ("TrustChainModel$Text", 264, "2A864886F70D01010B", [50, 65, 56, 54, 52, 56, 56, 54, 70, 55, 48, 68, 48, 49, 48, 49, 48, 66])
def kz2 : String × Nat × String × List Int32 := ("TrustChainModel$Text", 307, "2A864886F70D010101", [50, 65, 56, 54, 52, 56, 56, 54, 70, 55, 48, 68, 48, 49, 48, 49, 48, 49])
theorem kz1_at : kstr[1]? = some kz1 := rfl
theorem kz2_at : kstr[2]? = some kz2 := rfl
def k0s : List Int32 := [32, 39, 40, 41, 43, 44, 45, 46, 47, 58, 61, 63]
theorem ks_len : ∀ z ∈ kstr, z.2.2.2.length < 64 := by decide +kernel
def isInP (bs : List Int32) (c : Int32) : Prop := ∃ j, j < bs.length ∧ bs.getD j 0 = c
def isP (u : Nat → Nat) (a b : Nat) (bs : List Int32) : Prop := b - a = bs.length / 2 ∧ ∀ k, k < b - a → nI (u (a + k)) = 16 * hexI (bs.getD (2 * k) 0) + hexI (bs.getD (2 * k + 1) 0)
set_option maxHeartbeats 4000000 in
set_option maxRecDepth 100000 in
theorem c_preCheckR (l : Launch) (dC : Nat → ClassId) (dI : Nat → Nat → Nat) (sb : sB) (k n q : Nat) (hk : k < n) (hn : n < 2 ^ 31) : Met l y_Preconditions_checkIndex w_Preconditions_checkIndex ({ frames := 0, cells := 0, slots := 0, locals := 0 }) (pu_P [.int (nI k), .int (nI n), .ref q] (dC, dI) sb [] []) (vp_Si (fun r => r = nI k)) 0 0 (fun _ => False) := by
  refine Met.ofW (cc := b_Preconditions_checkIndex) (maxL := 3) (ret := (some FieldType.int)) (by decide) rfl ?_
  intro p e s m args below meth c s₁ B hml hv
  obtain ⟨rfl, hP, hK, hN, hT0⟩ := hv
  have hx := B.exec
  have hb := B.bytes
  have hr := B.returns
  have hts := atoms_spec (ws := w_Preconditions_checkIndex) B.pre
  have tbin : ∀ w ∈ tb, w ∈ w_Preconditions_checkIndex := fun w h => List.mem_cons_of_mem _ h
  have htb : ∀ w ∈ tb, w.before _ s = true := fun w h => hts w (tbin w h)
  have hown : s.vm.findClass "jdk/internal/util/Preconditions" = some m.cls := findClass_of_methodNamed B.named
  have hlocks := B.notSynchronized
  have hcs : 0 ≤ (headSpec w_Preconditions_checkIndex ({ frames := 0, cells := 0, slots := 0, locals := 0 })).room.cells ∧ 0 ≤ (headSpec w_Preconditions_checkIndex ({ frames := 0, cells := 0, slots := 0, locals := 0 })).room.slots := ⟨Nat.zero_le _, Nat.zero_le _⟩
  have hP : va_P (dC, dI) classes [] s.heap := hP
  have hl := lv_entry ([.int (nI k), .int (nI n), .ref q]) (n := 3) (Nat.le_of_ble_eq_true rfl)
  rw [lg_entry_eq]
  generalize (lg_sl ([.int (nI k), .int (nI n), .ref q]) ++ List.replicate (3 - (lg_sl ([.int (nI k), .int (nI n), .ref q])).length) Slot.unset).toArray = ls at hl ⊢
  have hl : lv_has ls 3 [(0, .int (nI k)), (1, .int (nI n)), (2, .ref q)] := hl
  refine lv_iload_n hx hb d_Preconditions_checkIndex_0 rfl (lv_at hl 0 rfl) ?_
  refine lv_if_lt (tgt := 9) hx hb d_Preconditions_checkIndex_1 (by decide) (fun c1 => ?_) (fun c1 => ?_)
  · exact absurd c1 (nI_pos (by omega))
  refine lv_iload_n hx hb d_Preconditions_checkIndex_4 rfl (lv_at hl 0 rfl) ?_
  refine lv_iload_n hx hb d_Preconditions_checkIndex_5 rfl (lv_at hl 1 rfl) ?_
  refine lv_icmp_lt (tgt := 16) hx hb d_Preconditions_checkIndex_6 (by decide) (fun c6 => ?_) (fun c6 => ?_)
  rotate_left
  · exact absurd (nI_lt hk hn) c6
  refine lv_iload_n hx hb d_Preconditions_checkIndex_16 rfl (lv_at hl 0 rfl) ?_
  exact W.iret (v := nI k) hx hb hr (fun t ht hW => ⟨_, rfl, rfl, ht⟩) (fun q h => by cases h) d_Preconditions_checkIndex_17
def y_String_checkIndex : MethodName := ⟨"java/lang/String", "checkIndex", "(II)V"⟩
abbrev b_String_checkIndex : ByteArray := prog_25_method_155_code
def w_String_checkIndex : List Cond := Cond.code y_String_checkIndex b_String_checkIndex 2 (none) :: tb
theorem d_String_checkIndex_0 : decode b_String_checkIndex 0 = .ok (.iload_n 0, 1) := by decide +kernel
theorem d_String_checkIndex_1 : decode b_String_checkIndex 1 = .ok (.iload_n 1, 1) := by decide +kernel
theorem d_String_checkIndex_2 : decode b_String_checkIndex 2 = .ok (.getstatic 1053, 3) := by decide +kernel
theorem d_String_checkIndex_5 : decode b_String_checkIndex 5 = .ok (.invokestatic 1059, 3) := by decide +kernel
theorem d_String_checkIndex_8 : decode b_String_checkIndex 8 = .ok (.pop, 1) := by decide +kernel
theorem d_String_checkIndex_9 : decode b_String_checkIndex 9 = .ok (.return_, 1) := by decide +kernel
set_option maxHeartbeats 4000000 in
set_option maxRecDepth 100000 in
theorem c_Str_checkIndex (l : Launch) (dC : Nat → ClassId) (dI : Nat → Nat → Nat) (sb : sB) (k n : Nat) (hk : k < n) (hn : n < 2 ^ 31) : Met l y_String_checkIndex w_String_checkIndex ({ frames := 1, cells := 0, slots := 0, locals := 22 }) (pu_P [.int (nI k), .int (nI n)] (dC, dI) sb [] []) (va_Sv (fun _ => True)) 0 0 (fun _ => False) := by
  refine Met.ofW (cc := b_String_checkIndex) (maxL := 2) (ret := none) (by decide) rfl ?_
  intro p e s m args below meth c s₁ B hml hv
  obtain ⟨rfl, hP, hK, hN, hT0⟩ := hv
  have hx := B.exec
  have hb := B.bytes
  have hr := B.returns
  have hts := atoms_spec (ws := w_String_checkIndex) B.pre
  have tbin : ∀ w ∈ tb, w ∈ w_String_checkIndex := fun w h => List.mem_cons_of_mem _ h
  have htb : ∀ w ∈ tb, w.before _ s = true := fun w h => hts w (tbin w h)
  have hown : s.vm.findClass "java/lang/String" = some m.cls := findClass_of_methodNamed B.named
  have hlocks := B.notSynchronized
  have hcs : 0 ≤ (headSpec w_String_checkIndex ({ frames := 1, cells := 0, slots := 0, locals := 22 })).room.cells ∧ 0 ≤ (headSpec w_String_checkIndex ({ frames := 1, cells := 0, slots := 0, locals := 22 })).room.slots := ⟨Nat.zero_le _, Nat.zero_le _⟩
  have hP : va_P (dC, dI) classes [] s.heap := hP
  have hl := lv_entry ([.int (nI k), .int (nI n)]) (n := 2) (Nat.le_of_ble_eq_true rfl)
  rw [lg_entry_eq]
  generalize (lg_sl ([.int (nI k), .int (nI n)]) ++ List.replicate (2 - (lg_sl ([.int (nI k), .int (nI n)])).length) Slot.unset).toArray = ls at hl ⊢
  have hl : lv_has ls 2 [(0, .int (nI k)), (1, .int (nI n))] := hl
  refine lv_iload_n hx hb d_String_checkIndex_0 rfl (lv_at hl 0 rfl) ?_
  refine lv_iload_n hx hb d_String_checkIndex_1 rfl (lv_at hl 1 rfl) ?_
  rcases hT0.2.2.2.2.2.2.2.2 with hZ9 | ⟨t9, hZ9⟩
  · refine va_gets hx hb hZ9 va_S.rf hown (htb _ q8_155) (fun _ h9 => h9) d_String_checkIndex_2 ?_
    refine vp_callSi (pu_callS (As := [.int (nI k), .int (nI n), .null]) (rest := []) ⟨hx, hb, hml, hown, hts⟩ tbin (c_preCheck l dC dI sb k n hk hn) q8_157 q4_217 q1_26 q4_218 (n := 3) (by decide +kernel) rfl ⟨rfl, rfl⟩ ⟨Nat.le_of_ble_eq_true rfl, Nat.le_of_ble_eq_true rfl⟩ ⟨Nat.le_of_ble_eq_true rfl, Nat.le_of_ble_eq_true rfl⟩ hN hT0 hK hP [] rfl [] rfl hl.1 rfl (Nat.le_of_ble_eq_true rfl) d_String_checkIndex_5) (fun r5 hr5 => ?_)
    refine lv_pop hx hb d_String_checkIndex_8 rfl ?_
    exact W.vret hx hb hr (fun t ht hW => ⟨rfl, trivial, ht⟩) (fun q h => by cases h) d_String_checkIndex_9
  · refine va_gets hx hb hZ9 va_S.rf hown (htb _ q8_155) (fun _ h9 => h9) d_String_checkIndex_2 ?_
    refine vp_callSi (pu_callS (As := [.int (nI k), .int (nI n), .ref t9]) (rest := []) ⟨hx, hb, hml, hown, hts⟩ tbin (c_preCheckR l dC dI sb k n t9 hk hn) q8_157 q4_217 q1_26 q4_218 (n := 3) (by decide +kernel) rfl ⟨rfl, rfl⟩ ⟨Nat.le_of_ble_eq_true rfl, Nat.le_of_ble_eq_true rfl⟩ ⟨Nat.le_of_ble_eq_true rfl, Nat.le_of_ble_eq_true rfl⟩ hN hT0 hK hP [] rfl [] rfl hl.1 rfl (Nat.le_of_ble_eq_true rfl) d_String_checkIndex_5) (fun r5 hr5 => ?_)
    refine lv_pop hx hb d_String_checkIndex_8 rfl ?_
    exact W.vret hx hb hr (fun t ht hW => ⟨rfl, trivial, ht⟩) (fun q h => by cases h) d_String_checkIndex_9
def y_StringLatin1_charAt : MethodName := ⟨"java/lang/StringLatin1", "charAt", "([BI)C"⟩
abbrev b_StringLatin1_charAt : ByteArray := prog_26_method_2_code
def w_StringLatin1_charAt : List Cond := Cond.code y_StringLatin1_charAt b_StringLatin1_charAt 2 ((some FieldType.char)) :: tb
theorem d_StringLatin1_charAt_0 : decode b_StringLatin1_charAt 0 = .ok (.iload_n 1, 1) := by decide +kernel
theorem d_StringLatin1_charAt_1 : decode b_StringLatin1_charAt 1 = .ok (.aload_n 0, 1) := by decide +kernel
theorem d_StringLatin1_charAt_2 : decode b_StringLatin1_charAt 2 = .ok (.arraylength, 1) := by decide +kernel
theorem d_StringLatin1_charAt_3 : decode b_StringLatin1_charAt 3 = .ok (.invokestatic 9, 3) := by decide +kernel
theorem d_StringLatin1_charAt_6 : decode b_StringLatin1_charAt 6 = .ok (.aload_n 0, 1) := by decide +kernel
theorem d_StringLatin1_charAt_7 : decode b_StringLatin1_charAt 7 = .ok (.iload_n 1, 1) := by decide +kernel
theorem d_StringLatin1_charAt_8 : decode b_StringLatin1_charAt 8 = .ok (.baload, 1) := by decide +kernel
theorem d_StringLatin1_charAt_9 : decode b_StringLatin1_charAt 9 = .ok (.sipush 255, 3) := by decide +kernel
theorem d_StringLatin1_charAt_12 : decode b_StringLatin1_charAt 12 = .ok (.iand, 1) := by decide +kernel
theorem d_StringLatin1_charAt_13 : decode b_StringLatin1_charAt 13 = .ok (.i2c, 1) := by decide +kernel
theorem d_StringLatin1_charAt_14 : decode b_StringLatin1_charAt 14 = .ok (.ireturn, 1) := by decide +kernel
set_option maxHeartbeats 4000000 in
set_option maxRecDepth 100000 in
theorem c_L1_charAt (l : Launch) (dC : Nat → ClassId) (dI : Nat → Nat → Nat) (sb : sB) (k : Nat) (z : String × Nat × String × List Int32) (j : Nat) (hz : kstr[k]? = some z) (hj : j < z.2.2.2.length) : Met l y_StringLatin1_charAt w_StringLatin1_charAt ({ frames := 2, cells := 0, slots := 0, locals := 45 }) (pu_P [.ref (sb.2 (20 + k)), .int (nI j)] (dC, dI) sb [] []) (vp_Si (fun r => r = z.2.2.2.getD j 0)) 0 0 (fun _ => False) := by
  refine Met.ofW (cc := b_StringLatin1_charAt) (maxL := 2) (ret := (some FieldType.char)) (by decide) rfl ?_
  intro p e s m args below meth c s₁ B hml hv
  obtain ⟨rfl, hP, hK, hN, hT0⟩ := hv
  have hx := B.exec
  have hb := B.bytes
  have hr := B.returns
  have hts := atoms_spec (ws := w_StringLatin1_charAt) B.pre
  have tbin : ∀ w ∈ tb, w ∈ w_StringLatin1_charAt := fun w h => List.mem_cons_of_mem _ h
  have htb : ∀ w ∈ tb, w.before _ s = true := fun w h => hts w (tbin w h)
  have hown : s.vm.findClass "java/lang/StringLatin1" = some m.cls := findClass_of_methodNamed B.named
  have hlocks := B.notSynchronized
  have hcs : 0 ≤ (headSpec w_StringLatin1_charAt ({ frames := 2, cells := 0, slots := 0, locals := 45 })).room.cells ∧ 0 ≤ (headSpec w_StringLatin1_charAt ({ frames := 2, cells := 0, slots := 0, locals := 45 })).room.slots := ⟨Nat.zero_le _, Nat.zero_le _⟩
  have hP : va_P (dC, dI) classes [] s.heap := hP
  have hl := lv_entry ([.ref (sb.2 (20 + k)), .int (nI j)]) (n := 2) (Nat.le_of_ble_eq_true rfl)
  rw [lg_entry_eq]
  generalize (lg_sl ([.ref (sb.2 (20 + k)), .int (nI j)]) ++ List.replicate (2 - (lg_sl ([.ref (sb.2 (20 + k)), .int (nI j)])).length) Slot.unset).toArray = ls at hl ⊢
  have hl : lv_has ls 2 [(0, .ref (sb.2 (20 + k))), (1, .int (nI j))] := hl
  have hks := hT0.2.2.2.2.2.2.1 k z hz
  have hzl := ks_len z (List.mem_of_getElem? hz)
  refine lv_iload_n hx hb d_StringLatin1_charAt_0 rfl (lv_at hl 1 rfl) ?_
  refine lv_aload_n hx hb d_StringLatin1_charAt_1 rfl (lv_at hl 0 rfl) ?_
  refine va_tlen (v := nI z.2.2.2.length) hx hb hks.2.2.2 va_S.rf rfl d_StringLatin1_charAt_2 ?_
  refine va_csv (pu_callS (As := [.int (nI j), .int (nI z.2.2.2.length)]) (rest := []) ⟨hx, hb, hml, hown, hts⟩ tbin (c_Str_checkIndex l dC dI sb j z.2.2.2.length hj (by omega)) q8_152 q8_153 q1_28 q8_154 (n := 2) (by decide +kernel) rfl ⟨rfl, rfl⟩ ⟨Nat.le_of_ble_eq_true rfl, Nat.le_of_ble_eq_true rfl⟩ ⟨Nat.le_of_ble_eq_true rfl, Nat.le_of_ble_eq_true rfl⟩ hN hT0 hK hP [] rfl [] rfl hl.1 rfl (Nat.le_of_ble_eq_true rfl) d_StringLatin1_charAt_3) (fun hr3 => ?_)
  refine lv_aload_n hx hb d_StringLatin1_charAt_6 rfl (lv_at hl 0 rfl) ?_
  refine lv_iload_n hx hb d_StringLatin1_charAt_7 rfl (lv_at hl 1 rfl) ?_
  have h8 : vp_in (nI j) z.2.2.2.length := vp_in_nI hj (by omega)
  refine va_tb (v := .int (z.2.2.2.getD (nI j).toNatClampNeg 0)) hx hb hks.2.2.2 va_S.rf h8 rfl d_StringLatin1_charAt_8 ?_
  rw [show (z.2.2.2.getD (nI j).toNatClampNeg 0 : Int32) = z.2.2.2.getD j 0 from congrArg (fun q => z.2.2.2.getD q 0) (nI_clamp (by omega))]
  refine lv_sipush (v := 255) hx hb d_StringLatin1_charAt_9 (by decide) ?_
  refine lv_iand hx hb d_StringLatin1_charAt_12 ?_
  refine lv_i2c (v := (((z.2.2.2.getD j 0) &&& 255).toUInt32 % 65536).toInt32) hx hb d_StringLatin1_charAt_13 rfl ?_
  have hc9 := ks_ch hz hj
  exact W.zret (v := (((z.2.2.2.getD j 0) &&& 255).toUInt32 % 65536).toInt32) hx hb hr (by rw [hc9]; exact ks_nar hz hj) (fun t ht hW => ⟨_, rfl, hc9, ht⟩) (fun q h => by cases h) d_StringLatin1_charAt_14
def y_String_charAt : MethodName := ⟨"java/lang/String", "charAt", "(I)C"⟩
abbrev b_String_charAt : ByteArray := prog_25_method_56_code
def w_String_charAt : List Cond := Cond.code y_String_charAt b_String_charAt 2 ((some FieldType.char)) :: tb
theorem d_String_charAt_0 : decode b_String_charAt 0 = .ok (.aload_n 0, 1) := by decide +kernel
theorem d_String_charAt_1 : decode b_String_charAt 1 = .ok (.invokevirtual 492, 3) := by decide +kernel
theorem d_String_charAt_4 : decode b_String_charAt 4 = .ok (.ifCond .eq 12, 3) := by decide +kernel
theorem d_String_charAt_7 : decode b_String_charAt 7 = .ok (.aload_n 0, 1) := by decide +kernel
theorem d_String_charAt_8 : decode b_String_charAt 8 = .ok (.getfield 9, 3) := by decide +kernel
theorem d_String_charAt_11 : decode b_String_charAt 11 = .ok (.iload_n 1, 1) := by decide +kernel
theorem d_String_charAt_12 : decode b_String_charAt 12 = .ok (.invokestatic 495, 3) := by decide +kernel
theorem d_String_charAt_15 : decode b_String_charAt 15 = .ok (.ireturn, 1) := by decide +kernel
set_option maxHeartbeats 4000000 in
set_option maxRecDepth 100000 in
theorem c_Str_charAt (l : Launch) (dC : Nat → ClassId) (dI : Nat → Nat → Nat) (sb : sB) (k : Nat) (z : String × Nat × String × List Int32) (j : Nat) (hz : kstr[k]? = some z) (hj : j < z.2.2.2.length) : Met l y_String_charAt w_String_charAt ({ frames := 3, cells := 0, slots := 0, locals := 66 }) (pu_P [.ref (sb.2 (10 + k)), .int (nI j)] (dC, dI) sb [] []) (vp_Si (fun r => r = z.2.2.2.getD j 0)) 0 0 (fun _ => False) := by
  refine Met.ofW (cc := b_String_charAt) (maxL := 2) (ret := (some FieldType.char)) (by decide) rfl ?_
  intro p e s m args below meth c s₁ B hml hv
  obtain ⟨rfl, hP, hK, hN, hT0⟩ := hv
  have hx := B.exec
  have hb := B.bytes
  have hr := B.returns
  have hts := atoms_spec (ws := w_String_charAt) B.pre
  have tbin : ∀ w ∈ tb, w ∈ w_String_charAt := fun w h => List.mem_cons_of_mem _ h
  have htb : ∀ w ∈ tb, w.before _ s = true := fun w h => hts w (tbin w h)
  have hown : s.vm.findClass "java/lang/String" = some m.cls := findClass_of_methodNamed B.named
  have hlocks := B.notSynchronized
  have hcs : 0 ≤ (headSpec w_String_charAt ({ frames := 3, cells := 0, slots := 0, locals := 66 })).room.cells ∧ 0 ≤ (headSpec w_String_charAt ({ frames := 3, cells := 0, slots := 0, locals := 66 })).room.slots := ⟨Nat.zero_le _, Nat.zero_le _⟩
  have hP : va_P (dC, dI) classes [] s.heap := hP
  have hl := lv_entry ([.ref (sb.2 (10 + k)), .int (nI j)]) (n := 2) (Nat.le_of_ble_eq_true rfl)
  rw [lg_entry_eq]
  generalize (lg_sl ([.ref (sb.2 (10 + k)), .int (nI j)]) ++ List.replicate (2 - (lg_sl ([.ref (sb.2 (10 + k)), .int (nI j)])).length) Slot.unset).toArray = ls at hl ⊢
  have hl : lv_has ls 2 [(0, .ref (sb.2 (10 + k))), (1, .int (nI j))] := hl
  have hks := hT0.2.2.2.2.2.2.1 k z hz
  have hzl := ks_len z (List.mem_of_getElem? hz)
  refine lv_aload_n hx hb d_String_charAt_0 rfl (lv_at hl 0 rfl) ?_
  refine vp_callSi (pu_callK (As := []) (rest := []) ⟨hx, hb, hml, hown, hts⟩ tbin (c_Str_isLatin1 l dC dI sb k z hz) q8_145 q8_146 q8_147 q1_28 q8_148 (n := 0) (by decide +kernel) rfl ⟨rfl, rfl⟩ ⟨Nat.le_of_ble_eq_true rfl, Nat.le_of_ble_eq_true rfl⟩ ⟨Nat.le_of_ble_eq_true rfl, Nat.le_of_ble_eq_true rfl⟩ hN hT0 hK hP [] rfl [] rfl (sk_recv hks) hl.1 rfl (Nat.le_of_ble_eq_true rfl) d_String_charAt_1) (fun r1 hr1 => ?_)
  subst hr1
  refine lv_if_eq (tgt := 16) hx hb d_String_charAt_4 (by decide) (fun c4 => ?_) (fun c4 => ?_)
  · exact absurd c4 (by decide)
  refine lv_aload_n hx hb d_String_charAt_7 rfl (lv_at hl 0 rfl) ?_
  refine vk_getf (v := .ref (sb.2 (20 + k))) hx hb hks.2.2.1 va_S.rf hown (htb _ q10_3) (fun _ h9 => h9) d_String_charAt_8 ?_
  refine lv_iload_n hx hb d_String_charAt_11 rfl (lv_at hl 1 rfl) ?_
  refine vp_callSi (pu_callS (As := [.ref (sb.2 (20 + k)), .int (nI j)]) (rest := []) ⟨hx, hb, hml, hown, hts⟩ tbin (c_L1_charAt l dC dI sb k z j hz hj) q8_149 q8_150 q1_29 q8_151 (n := 2) (by decide +kernel) rfl ⟨rfl, rfl⟩ ⟨Nat.le_of_ble_eq_true rfl, Nat.le_of_ble_eq_true rfl⟩ ⟨Nat.le_of_ble_eq_true rfl, Nat.le_of_ble_eq_true rfl⟩ hN hT0 hK hP [] rfl [] rfl hl.1 rfl (Nat.le_of_ble_eq_true rfl) d_String_charAt_12) (fun r12 hr12 => ?_)
  subst hr12
  exact W.zret (v := z.2.2.2.getD j 0) hx hb hr (ks_nar hz hj) (fun t ht hW => ⟨_, rfl, rfl, ht⟩) (fun q h => by cases h) d_String_charAt_15
def y_Model_isIn : MethodName := ⟨"TrustChainModel", "isIn", "(ILjava/lang/String;)Z"⟩
abbrev b_Model_isIn : ByteArray := prog_14_method_11_code
def w_Model_isIn : List Cond := Cond.code y_Model_isIn b_Model_isIn 3 ((some FieldType.boolean)) :: tb
theorem d_Model_isIn_0 : decode b_Model_isIn 0 = .ok (.iconst 0, 1) := by decide +kernel
theorem d_Model_isIn_1 : decode b_Model_isIn 1 = .ok (.istore_n 2, 1) := by decide +kernel
theorem d_Model_isIn_2 : decode b_Model_isIn 2 = .ok (.iload_n 2, 1) := by decide +kernel
theorem d_Model_isIn_3 : decode b_Model_isIn 3 = .ok (.aload_n 1, 1) := by decide +kernel
theorem d_Model_isIn_4 : decode b_Model_isIn 4 = .ok (.invokevirtual 163, 3) := by decide +kernel
theorem d_Model_isIn_7 : decode b_Model_isIn 7 = .ok (.if_icmp .ge 20, 3) := by decide +kernel
theorem d_Model_isIn_10 : decode b_Model_isIn 10 = .ok (.aload_n 1, 1) := by decide +kernel
theorem d_Model_isIn_11 : decode b_Model_isIn 11 = .ok (.iload_n 2, 1) := by decide +kernel
theorem d_Model_isIn_12 : decode b_Model_isIn 12 = .ok (.invokevirtual 169, 3) := by decide +kernel
theorem d_Model_isIn_15 : decode b_Model_isIn 15 = .ok (.iload_n 0, 1) := by decide +kernel
theorem d_Model_isIn_16 : decode b_Model_isIn 16 = .ok (.if_icmp .ne 5, 3) := by decide +kernel
theorem d_Model_isIn_19 : decode b_Model_isIn 19 = .ok (.iconst 1, 1) := by decide +kernel
theorem d_Model_isIn_20 : decode b_Model_isIn 20 = .ok (.ireturn, 1) := by decide +kernel
theorem d_Model_isIn_21 : decode b_Model_isIn 21 = .ok (.iinc 2 1, 3) := by decide +kernel
theorem d_Model_isIn_24 : decode b_Model_isIn 24 = .ok (.goto (-22), 3) := by decide +kernel
theorem d_Model_isIn_27 : decode b_Model_isIn 27 = .ok (.iconst 0, 1) := by decide +kernel
theorem d_Model_isIn_28 : decode b_Model_isIn 28 = .ok (.ireturn, 1) := by decide +kernel
set_option maxHeartbeats 4000000 in
set_option maxRecDepth 100000 in
theorem c_Model_isIn (l : Launch) (dC : Nat → ClassId) (dI : Nat → Nat → Nat) (sb : sB) (k : Nat) (z : String × Nat × String × List Int32) (c0 : Int32) (hz : kstr[k]? = some z) : Met l y_Model_isIn w_Model_isIn ({ frames := 4, cells := 0, slots := 0, locals := 90 }) (pu_P [.int c0, .ref (sb.2 (10 + k))] (dC, dI) sb [] []) (vp_Si (fun r => bz r (isInP z.2.2.2 c0))) 0 0 (fun _ => False) := by
  refine Met.ofW (cc := b_Model_isIn) (maxL := 3) (ret := (some FieldType.boolean)) (by decide) rfl ?_
  intro p e s m args below meth c s₁ B hml hv
  obtain ⟨rfl, hP, hK, hN, hT0⟩ := hv
  have hx := B.exec
  have hb := B.bytes
  have hr := B.returns
  have hts := atoms_spec (ws := w_Model_isIn) B.pre
  have tbin : ∀ w ∈ tb, w ∈ w_Model_isIn := fun w h => List.mem_cons_of_mem _ h
  have htb : ∀ w ∈ tb, w.before _ s = true := fun w h => hts w (tbin w h)
  have hown : s.vm.findClass "TrustChainModel" = some m.cls := findClass_of_methodNamed B.named
  have hlocks := B.notSynchronized
  have hcs : 0 ≤ (headSpec w_Model_isIn ({ frames := 4, cells := 0, slots := 0, locals := 90 })).room.cells ∧ 0 ≤ (headSpec w_Model_isIn ({ frames := 4, cells := 0, slots := 0, locals := 90 })).room.slots := ⟨Nat.zero_le _, Nat.zero_le _⟩
  have hP : va_P (dC, dI) classes [] s.heap := hP
  have hl := lv_entry ([.int c0, .ref (sb.2 (10 + k))]) (n := 3) (Nat.le_of_ble_eq_true rfl)
  rw [lg_entry_eq]
  generalize (lg_sl ([.int c0, .ref (sb.2 (10 + k))]) ++ List.replicate (3 - (lg_sl ([.int c0, .ref (sb.2 (10 + k))])).length) Slot.unset).toArray = ls at hl ⊢
  have hl : lv_has ls 3 [(0, .int c0), (1, .ref (sb.2 (10 + k)))] := hl
  have hks := hT0.2.2.2.2.2.2.1 k z hz
  have hzl := ks_len z (List.mem_of_getElem? hz)
  refine lv_iconst (v := 0) hx hb d_Model_isIn_0 (by decide) ?_
  refine lv_istore_n (lv' := [(2, .int 0), (0, .int c0), (1, .ref (sb.2 (10 + k)))]) hx hb d_Model_isIn_1 rfl hl (by decide) rfl (fun ls hl => ?_)
  refine w_loop (α := Nat) (fun j => j ≤ z.2.2.2.length ∧ ∀ i, i < j → ¬ z.2.2.2.getD i 0 = c0) (fun j => z.2.2.2.length - j) (fun j => [(0, .int c0), (1, .ref (sb.2 (10 + k))), (2, .int (nI j))]) (fun _ => []) 3 2 (fun j ls hJ hl ih => ?_) 0 ls (⟨Nat.zero_le _, fun i hi => absurd hi (Nat.not_lt_zero i)⟩) (lv_sub hl [1, 2, 0] rfl)
  have hjl := hJ.1
  refine lv_iload_n hx hb d_Model_isIn_2 rfl (lv_at hl 2 rfl) ?_
  refine lv_aload_n hx hb d_Model_isIn_3 rfl (lv_at hl 1 rfl) ?_
  refine vp_callSi (pu_callK (As := []) (rest := [.int (nI j)]) ⟨hx, hb, hml, hown, hts⟩ tbin (c_Str_length l dC dI sb k z hz) q8_208 q8_132 q8_133 q1_28 q8_134 (n := 0) (by decide +kernel) rfl ⟨rfl, rfl⟩ ⟨Nat.le_of_ble_eq_true rfl, Nat.le_of_ble_eq_true rfl⟩ ⟨Nat.le_of_ble_eq_true rfl, Nat.le_of_ble_eq_true rfl⟩ hN hT0 hK hP [] rfl [] rfl (sk_recv hks) hl.1 rfl (Nat.le_of_ble_eq_true rfl) d_Model_isIn_4) (fun r4 hr4 => ?_)
  subst hr4
  refine lv_icmp_ge (tgt := 27) hx hb d_Model_isIn_7 (by decide) (fun c7 => ?_) (fun c7 => ?_)
  · refine lv_iconst (v := 0) hx hb d_Model_isIn_27 (by decide) ?_
    exact W.zret (v := 0) hx hb hr (by decide) (fun t ht hW => ⟨_, rfl, bz_f (fun ⟨i9, h8, h9⟩ => hJ.2 i9 (by rw [nI_leI (by omega) (by omega)] at c7; omega) h9), ht⟩) (fun q h => by cases h) d_Model_isIn_28
  · have hlt : j < z.2.2.2.length := by rw [nI_leI (by omega) (by omega)] at c7; omega
    refine lv_aload_n hx hb d_Model_isIn_10 rfl (lv_at hl 1 rfl) ?_
    refine lv_iload_n hx hb d_Model_isIn_11 rfl (lv_at hl 2 rfl) ?_
    refine vp_callSi (pu_callK (As := [.int (nI j)]) (rest := []) ⟨hx, hb, hml, hown, hts⟩ tbin (c_Str_charAt l dC dI sb k z j hz (by omega)) q8_209 q8_142 q8_143 q1_28 q8_144 (n := 1) (by decide +kernel) rfl ⟨rfl, rfl⟩ ⟨Nat.le_of_ble_eq_true rfl, Nat.le_of_ble_eq_true rfl⟩ ⟨Nat.le_of_ble_eq_true rfl, Nat.le_of_ble_eq_true rfl⟩ hN hT0 hK hP [] rfl [] rfl (sk_recv hks) hl.1 rfl (Nat.le_of_ble_eq_true rfl) d_Model_isIn_12) (fun r12 hr12 => ?_)
    subst hr12
    refine lv_iload_n hx hb d_Model_isIn_15 rfl (lv_at hl 0 rfl) ?_
    refine lv_icmp_ne (tgt := 21) hx hb d_Model_isIn_16 (by decide) (fun c16 => ?_) (fun c16 => ?_)
    · refine lv_iinc (v := nI (j + 1)) (lv' := [(2, .int (nI (j + 1))), (0, .int c0), (1, .ref (sb.2 (10 + k)))]) hx hb d_Model_isIn_21 hl (k := 2) rfl (nI_1 _) (by decide) rfl (fun ls hl => ?_)
      refine lv_goto (tgt := 2) hx hb d_Model_isIn_24 (by decide) ?_
      exact ih (j + 1) ls (by omega) (⟨by omega, fun i hi => (Nat.lt_succ_iff_lt_or_eq.mp hi).elim (hJ.2 i) (fun e9 => by rw [e9]; exact c16)⟩) (lv_sub hl [1, 2, 0] rfl)
    · refine lv_iconst (v := 1) hx hb d_Model_isIn_19 (by decide) ?_
      exact W.zret (v := 1) hx hb hr (by decide) (fun t ht hW => ⟨_, rfl, bz_t ⟨j, hlt, (by first | exact c16 | exact Classical.not_not.mp c16)⟩, ht⟩) (fun q h => by cases h) d_Model_isIn_20
def y_Text_is : MethodName := ⟨"TrustChainModel$Text", "is", "(Ljava/lang/String;)Z"⟩
abbrev b_Text_is : ByteArray := prog_15_method_9_code
def w_Text_is : List Cond := Cond.code y_Text_is b_Text_is 3 ((some FieldType.boolean)) :: tb
theorem d_Text_is_0 : decode b_Text_is 0 = .ok (.aload_n 0, 1) := by decide +kernel
theorem d_Text_is_1 : decode b_Text_is 1 = .ok (.getfield 65, 3) := by decide +kernel
theorem d_Text_is_4 : decode b_Text_is 4 = .ok (.aload_n 0, 1) := by decide +kernel
theorem d_Text_is_5 : decode b_Text_is 5 = .ok (.getfield 62, 3) := by decide +kernel
theorem d_Text_is_8 : decode b_Text_is 8 = .ok (.isub, 1) := by decide +kernel
theorem d_Text_is_9 : decode b_Text_is 9 = .ok (.aload_n 1, 1) := by decide +kernel
theorem d_Text_is_10 : decode b_Text_is 10 = .ok (.invokevirtual 83, 3) := by decide +kernel
theorem d_Text_is_13 : decode b_Text_is 13 = .ok (.iconst 2, 1) := by decide +kernel
theorem d_Text_is_14 : decode b_Text_is 14 = .ok (.idiv, 1) := by decide +kernel
theorem d_Text_is_15 : decode b_Text_is 15 = .ok (.if_icmp .eq 5, 3) := by decide +kernel
theorem d_Text_is_18 : decode b_Text_is 18 = .ok (.iconst 0, 1) := by decide +kernel
theorem d_Text_is_19 : decode b_Text_is 19 = .ok (.ireturn, 1) := by decide +kernel
theorem d_Text_is_20 : decode b_Text_is 20 = .ok (.iconst 0, 1) := by decide +kernel
theorem d_Text_is_21 : decode b_Text_is 21 = .ok (.istore_n 2, 1) := by decide +kernel
theorem d_Text_is_22 : decode b_Text_is 22 = .ok (.iload_n 2, 1) := by decide +kernel
theorem d_Text_is_23 : decode b_Text_is 23 = .ok (.aload_n 0, 1) := by decide +kernel
theorem d_Text_is_24 : decode b_Text_is 24 = .ok (.getfield 65, 3) := by decide +kernel
theorem d_Text_is_27 : decode b_Text_is 27 = .ok (.aload_n 0, 1) := by decide +kernel
theorem d_Text_is_28 : decode b_Text_is 28 = .ok (.getfield 62, 3) := by decide +kernel
theorem d_Text_is_31 : decode b_Text_is 31 = .ok (.isub, 1) := by decide +kernel
theorem d_Text_is_32 : decode b_Text_is 32 = .ok (.if_icmp .ge 51, 3) := by decide +kernel
theorem d_Text_is_35 : decode b_Text_is 35 = .ok (.aload_n 0, 1) := by decide +kernel
theorem d_Text_is_36 : decode b_Text_is 36 = .ok (.getfield 9, 3) := by decide +kernel
theorem d_Text_is_39 : decode b_Text_is 39 = .ok (.aload_n 0, 1) := by decide +kernel
theorem d_Text_is_40 : decode b_Text_is 40 = .ok (.getfield 62, 3) := by decide +kernel
theorem d_Text_is_43 : decode b_Text_is 43 = .ok (.iload_n 2, 1) := by decide +kernel
theorem d_Text_is_44 : decode b_Text_is 44 = .ok (.iadd, 1) := by decide +kernel
theorem d_Text_is_45 : decode b_Text_is 45 = .ok (.iaload, 1) := by decide +kernel
theorem d_Text_is_46 : decode b_Text_is 46 = .ok (.bipush 16, 2) := by decide +kernel
theorem d_Text_is_48 : decode b_Text_is 48 = .ok (.aload_n 1, 1) := by decide +kernel
theorem d_Text_is_49 : decode b_Text_is 49 = .ok (.iconst 2, 1) := by decide +kernel
theorem d_Text_is_50 : decode b_Text_is 50 = .ok (.iload_n 2, 1) := by decide +kernel
theorem d_Text_is_51 : decode b_Text_is 51 = .ok (.imul, 1) := by decide +kernel
theorem d_Text_is_52 : decode b_Text_is 52 = .ok (.invokevirtual 89, 3) := by decide +kernel
theorem d_Text_is_55 : decode b_Text_is 55 = .ok (.invokestatic 93, 3) := by decide +kernel
theorem d_Text_is_58 : decode b_Text_is 58 = .ok (.imul, 1) := by decide +kernel
theorem d_Text_is_59 : decode b_Text_is 59 = .ok (.aload_n 1, 1) := by decide +kernel
theorem d_Text_is_60 : decode b_Text_is 60 = .ok (.iconst 2, 1) := by decide +kernel
theorem d_Text_is_61 : decode b_Text_is 61 = .ok (.iload_n 2, 1) := by decide +kernel
theorem d_Text_is_62 : decode b_Text_is 62 = .ok (.imul, 1) := by decide +kernel
theorem d_Text_is_63 : decode b_Text_is 63 = .ok (.iconst 1, 1) := by decide +kernel
theorem d_Text_is_64 : decode b_Text_is 64 = .ok (.iadd, 1) := by decide +kernel
theorem d_Text_is_65 : decode b_Text_is 65 = .ok (.invokevirtual 89, 3) := by decide +kernel
theorem d_Text_is_68 : decode b_Text_is 68 = .ok (.invokestatic 93, 3) := by decide +kernel
theorem d_Text_is_71 : decode b_Text_is 71 = .ok (.iadd, 1) := by decide +kernel
theorem d_Text_is_72 : decode b_Text_is 72 = .ok (.if_icmp .eq 5, 3) := by decide +kernel
theorem d_Text_is_75 : decode b_Text_is 75 = .ok (.iconst 0, 1) := by decide +kernel
theorem d_Text_is_76 : decode b_Text_is 76 = .ok (.ireturn, 1) := by decide +kernel
theorem d_Text_is_77 : decode b_Text_is 77 = .ok (.iinc 2 1, 3) := by decide +kernel
theorem d_Text_is_80 : decode b_Text_is 80 = .ok (.goto (-58), 3) := by decide +kernel
theorem d_Text_is_83 : decode b_Text_is 83 = .ok (.iconst 1, 1) := by decide +kernel
theorem d_Text_is_84 : decode b_Text_is 84 = .ok (.ireturn, 1) := by decide +kernel
set_option maxHeartbeats 4000000 in
set_option maxRecDepth 100000 in
theorem t_is (l : Launch) (dC : Nat → ClassId) (dI : Nat → Nat → Nat) (sb : sB) (q d0 r_dnsAt r_dnsEnd r_dirAt r_dirEnd r_treeAt r_treeEnd r_treeKind r_entryAt r_entryEnd r_oidAt r_oidEnd : Nat) (f_p f_place f_serial f_serialEnd f_issuer f_issuerEnd f_subject f_subjectEnd f_subjectParts f_parts f_modulus f_modulusEnd f_exponent f_tbs f_tbsEnd f_signature f_signatureEnd f_length f_usage f_dns f_dirs f_extensions f_matters f_ownKey f_ownKeyEnd f_issuerKey f_issuerKeyEnd f_trees f_entries f_oids f_nameAt f_nameEnd f_ca f_basic f_trusted : Int32) (f_time0 f_time1 f_latest : Int64) (n fa fb : Nat) (cI : ClassId) (u : Nat → Nat) (k : Nat)  (z : String × Nat × String × List Int32) (hz : kstr[k]? = some z) (hu : ∀ j, u j < 256) (hn : n ≤ 2048) (h_0 : fa ≤ fb) (h_1 : fb ≤ n) : Met l y_Text_is w_Text_is ({ frames := 4, cells := 0, slots := 0, locals := 90 }) (pu_P [.ref q, .ref (sb.2 (10 + k))] (dC, dI) sb [(q, .inr (13, (.ref d0 :: .int (nI n) :: .int f_p :: .int (-1) :: .int (nI fa) :: .int (nI fb) :: .int f_place :: .long f_time0 :: .long f_time1 :: .long f_latest :: .int f_serial :: .int f_serialEnd :: .int f_issuer :: .int f_issuerEnd :: .int f_subject :: .int f_subjectEnd :: .int f_subjectParts :: .int f_parts :: .int f_modulus :: .int f_modulusEnd :: .int f_exponent :: .int f_tbs :: .int f_tbsEnd :: .int f_signature :: .int f_signatureEnd :: .int f_length :: .int f_usage :: .int f_dns :: .int f_dirs :: .int f_extensions :: .int f_matters :: .int f_ownKey :: .int f_ownKeyEnd :: .int f_issuerKey :: .int f_issuerKeyEnd :: .int f_trees :: .int f_entries :: .int f_oids :: .int f_nameAt :: .int f_nameEnd :: .int f_ca :: .int f_basic :: .int f_trusted :: .ref r_dnsAt :: .ref r_dnsEnd :: .ref r_dirAt :: .ref r_dirEnd :: .ref r_treeAt :: .ref r_treeEnd :: .ref r_treeKind :: .ref r_entryAt :: .ref r_entryEnd :: .ref r_oidAt :: .ref r_oidEnd :: []))), (d0, .inl (cI, 2048, .inl (tI u)))] [(cI, .int)]) (vp_Si (fun r => bz r (isP u fa fb z.2.2.2))) 0 0 (fun _ => False) := by
  refine Met.ofW (cc := b_Text_is) (maxL := 3) (ret := (some FieldType.boolean)) (by decide) rfl ?_
  intro p e s m args below meth c s₁ B hml hv
  obtain ⟨rfl, hP, hK, hN, hT0⟩ := hv
  have hx := B.exec
  have hb := B.bytes
  have hr := B.returns
  have hts := atoms_spec (ws := w_Text_is) B.pre
  have tbin : ∀ w ∈ tb, w ∈ w_Text_is := fun w h => List.mem_cons_of_mem _ h
  have htb : ∀ w ∈ tb, w.before _ s = true := fun w h => hts w (tbin w h)
  have hown : s.vm.findClass "TrustChainModel$Text" = some m.cls := findClass_of_methodNamed B.named
  have hlocks := B.notSynchronized
  have hcs : 0 ≤ (headSpec w_Text_is ({ frames := 4, cells := 0, slots := 0, locals := 90 })).room.cells ∧ 0 ≤ (headSpec w_Text_is ({ frames := 4, cells := 0, slots := 0, locals := 90 })).room.slots := ⟨Nat.zero_le _, Nat.zero_le _⟩
  have hP : va_P (dC, dI) classes [(q, .inr (13, (.ref d0 :: .int (nI n) :: .int f_p :: .int (-1) :: .int (nI fa) :: .int (nI fb) :: .int f_place :: .long f_time0 :: .long f_time1 :: .long f_latest :: .int f_serial :: .int f_serialEnd :: .int f_issuer :: .int f_issuerEnd :: .int f_subject :: .int f_subjectEnd :: .int f_subjectParts :: .int f_parts :: .int f_modulus :: .int f_modulusEnd :: .int f_exponent :: .int f_tbs :: .int f_tbsEnd :: .int f_signature :: .int f_signatureEnd :: .int f_length :: .int f_usage :: .int f_dns :: .int f_dirs :: .int f_extensions :: .int f_matters :: .int f_ownKey :: .int f_ownKeyEnd :: .int f_issuerKey :: .int f_issuerKeyEnd :: .int f_trees :: .int f_entries :: .int f_oids :: .int f_nameAt :: .int f_nameEnd :: .int f_ca :: .int f_basic :: .int f_trusted :: .ref r_dnsAt :: .ref r_dnsEnd :: .ref r_dirAt :: .ref r_dirEnd :: .ref r_treeAt :: .ref r_treeEnd :: .ref r_treeKind :: .ref r_entryAt :: .ref r_entryEnd :: .ref r_oidAt :: .ref r_oidEnd :: []))), (d0, .inl (cI, 2048, .inl (tI u)))] s.heap := hP
  have hl := lv_entry ([.ref q, .ref (sb.2 (10 + k))]) (n := 3) (Nat.le_of_ble_eq_true rfl)
  rw [lg_entry_eq]
  generalize (lg_sl ([.ref q, .ref (sb.2 (10 + k))]) ++ List.replicate (3 - (lg_sl ([.ref q, .ref (sb.2 (10 + k))])).length) Slot.unset).toArray = ls at hl ⊢
  have hl : lv_has ls 3 [(0, .ref q), (1, .ref (sb.2 (10 + k)))] := hl
  have hks := hT0.2.2.2.2.2.2.1 k z hz
  have hzl := ks_len z (List.mem_of_getElem? hz)
  refine lv_aload_n hx hb d_Text_is_0 rfl (lv_at hl 0 rfl) ?_
  refine va_get (v := .int (nI fb)) hx hb htb i_Text hown hK hP 0 rfl rfl 5 (by decide) (htb _ q6_186) (fun _ h9 => h9) rfl d_Text_is_1 ?_
  refine lv_aload_n hx hb d_Text_is_4 rfl (lv_at hl 0 rfl) ?_
  refine va_get (v := .int (nI fa)) hx hb htb i_Text hown hK hP 0 rfl rfl 4 (by decide) (htb _ q6_185) (fun _ h9 => h9) rfl d_Text_is_5 ?_
  refine lv_isub hx hb d_Text_is_8 ?_
  rw [show ((nI fb) - (nI fa) : Int32) = nI (fb - fa) from pk_sub (a := fb) (b := fa) (by omega)]
  refine lv_aload_n hx hb d_Text_is_9 rfl (lv_at hl 1 rfl) ?_
  refine vp_callSi (pu_callK (As := []) (rest := [.int (nI (fb - fa))]) ⟨hx, hb, hml, hown, hts⟩ tbin (c_Str_length l dC dI sb k z hz) q8_131 q8_132 q8_133 q1_28 q8_134 (n := 0) (by decide +kernel) rfl ⟨rfl, rfl⟩ ⟨Nat.le_of_ble_eq_true rfl, Nat.le_of_ble_eq_true rfl⟩ ⟨Nat.le_of_ble_eq_true rfl, Nat.le_of_ble_eq_true rfl⟩ hN hT0 hK hP [] rfl [] rfl (sk_recv hks) hl.1 rfl (Nat.le_of_ble_eq_true rfl) d_Text_is_10) (fun r10 hr10 => ?_)
  subst hr10
  refine lv_iconst (v := 2) hx hb d_Text_is_13 (by decide) ?_
  refine lv_idiv hx hb d_Text_is_14 (by decide) ?_
  rw [show ((nI z.2.2.2.length) / 2 : Int32) = nI (z.2.2.2.length / 2) from nI_idiv (a := z.2.2.2.length) (b := 2) (by omega) (by omega) (by omega)]
  refine lv_icmp_eq (tgt := 20) hx hb d_Text_is_15 (by decide) (fun c15 => ?_) (fun c15 => ?_)
  · have p15 : (fb - fa) = (z.2.2.2.length / 2) := ((nI_eq (a := (fb - fa)) (b := (z.2.2.2.length / 2)) (by omega) (by omega)).mp c15)
    refine lv_iconst (v := 0) hx hb d_Text_is_20 (by decide) ?_
    refine lv_istore_n (lv' := [(2, .int 0), (0, .ref q), (1, .ref (sb.2 (10 + k)))]) hx hb d_Text_is_21 rfl hl (by decide) rfl (fun ls hl => ?_)
    refine w_loop (α := Nat) (fun k9 => k9 ≤ fb - fa ∧ ∀ i, i < k9 → nI (u (fa + i)) = 16 * hexI (z.2.2.2.getD (2 * i) 0) + hexI (z.2.2.2.getD (2 * i + 1) 0)) (fun k9 => fb - fa - k9) (fun k9 => [(0, .ref q), (1, .ref (sb.2 (10 + k))), (2, .int (nI k9))]) (fun _ => []) 3 22 (fun k9 ls hJ hl ih => ?_) 0 ls (⟨Nat.zero_le _, fun i hi => absurd hi (Nat.not_lt_zero i)⟩) (lv_sub hl [1, 2, 0] rfl)
    have hjl := hJ.1
    refine lv_iload_n hx hb d_Text_is_22 rfl (lv_at hl 2 rfl) ?_
    refine lv_aload_n hx hb d_Text_is_23 rfl (lv_at hl 0 rfl) ?_
    refine va_get (v := .int (nI fb)) hx hb htb i_Text hown hK hP 0 rfl rfl 5 (by decide) (htb _ q6_186) (fun _ h9 => h9) rfl d_Text_is_24 ?_
    refine lv_aload_n hx hb d_Text_is_27 rfl (lv_at hl 0 rfl) ?_
    refine va_get (v := .int (nI fa)) hx hb htb i_Text hown hK hP 0 rfl rfl 4 (by decide) (htb _ q6_185) (fun _ h9 => h9) rfl d_Text_is_28 ?_
    refine lv_isub hx hb d_Text_is_31 ?_
    rw [show ((nI fb) - (nI fa) : Int32) = nI (fb - fa) from pk_sub (a := fb) (b := fa) (by omega)]
    refine lv_icmp_ge (tgt := 83) hx hb d_Text_is_32 (by decide) (fun c32 => ?_) (fun c32 => ?_)
    · have p32 : (fb - fa) ≤ k9 := ((nI_leI (a := (fb - fa)) (b := k9) (by omega) (by omega)).mp c32)
      refine lv_iconst (v := 1) hx hb d_Text_is_83 (by decide) ?_
      exact W.zret (v := 1) hx hb hr (by decide) (fun t ht hW => ⟨_, rfl, bz_t ⟨p15, fun i hi => hJ.2 i (by omega)⟩, ht⟩) (fun q h => by cases h) d_Text_is_84
    · have p32 : ¬ ((fb - fa) ≤ k9) := (fun q9 => c32 ((nI_leI (a := (fb - fa)) (b := k9) (by omega) (by omega)).mpr q9))
      have hlt : k9 < fb - fa := by omega
      refine lv_aload_n hx hb d_Text_is_35 rfl (lv_at hl 0 rfl) ?_
      refine va_get (v := .ref d0) hx hb htb i_Text hown hK hP 0 rfl rfl 0 (by decide) (htb _ q6_178) (fun _ h9 => h9) rfl d_Text_is_36 ?_
      refine lv_aload_n hx hb d_Text_is_39 rfl (lv_at hl 0 rfl) ?_
      refine va_get (v := .int (nI fa)) hx hb htb i_Text hown hK hP 0 rfl rfl 4 (by decide) (htb _ q6_185) (fun _ h9 => h9) rfl d_Text_is_40 ?_
      refine lv_iload_n hx hb d_Text_is_43 rfl (lv_at hl 2 rfl) ?_
      refine lv_iadd hx hb d_Text_is_44 ?_
      rw [show ((nI fa) + (nI k9) : Int32) = nI (fa + k9) from nI_add fa k9]
      have h45 : vp_in (nI (fa + k9)) 2048 := vp_in_nI (by omega) (by omega)
      refine va_iald hx hb hK hP 1 0 rfl rfl h45 d_Text_is_45 ?_
      rw [show tI u (nI (fa + k9)).toNatClampNeg = nI (u (fa + k9)) from tI_at (by omega)]
      have hu45 := hu (fa + k9)
      refine lv_bipush (v := 16) hx hb d_Text_is_46 (by decide) ?_
      refine lv_aload_n hx hb d_Text_is_48 rfl (lv_at hl 1 rfl) ?_
      refine lv_iconst (v := 2) hx hb d_Text_is_49 (by decide) ?_
      refine lv_iload_n hx hb d_Text_is_50 rfl (lv_at hl 2 rfl) ?_
      refine lv_imul hx hb d_Text_is_51 ?_
      rw [show (2 * (nI k9) : Int32) = nI (2 * k9) from nI_mul 2 k9]
      refine vp_callSi (pu_callK (As := [.int (nI (2 * k9))]) (rest := [.int 16, .int (nI (u (fa + k9)))]) ⟨hx, hb, hml, hown, hts⟩ tbin (c_Str_charAt l dC dI sb k z (2 * k9) hz (by omega)) q8_141 q8_142 q8_143 q1_28 q8_144 (n := 1) (by decide +kernel) rfl ⟨rfl, rfl⟩ ⟨Nat.le_of_ble_eq_true rfl, Nat.le_of_ble_eq_true rfl⟩ ⟨Nat.le_of_ble_eq_true rfl, Nat.le_of_ble_eq_true rfl⟩ hN hT0 hK hP [] rfl [] rfl (sk_recv hks) hl.1 rfl (Nat.le_of_ble_eq_true rfl) d_Text_is_52) (fun r52 hr52 => ?_)
      subst hr52
      refine vp_callSi (pu_callSN (As := [.int (z.2.2.2.getD (2 * k9) 0)]) (rest := [.int 16, .int (nI (u (fa + k9)))]) ⟨hx, hb, hml, hown, hts⟩ tbin (c_Model_hexOf l dC dI sb (z.2.2.2.getD (2 * k9) 0)) qn8_177 q8_178 q1_9 q8_179 (n := 1) (by decide +kernel) rfl ⟨rfl, rfl⟩ ⟨Nat.le_of_ble_eq_true rfl, Nat.le_of_ble_eq_true rfl⟩ ⟨Nat.le_of_ble_eq_true rfl, Nat.le_of_ble_eq_true rfl⟩ hN hT0 hK hP [] rfl [] rfl hl.1 rfl (Nat.le_of_ble_eq_true rfl) d_Text_is_55) (fun r55 hr55 => ?_)
      subst hr55
      refine lv_imul hx hb d_Text_is_58 ?_
      refine lv_aload_n hx hb d_Text_is_59 rfl (lv_at hl 1 rfl) ?_
      refine lv_iconst (v := 2) hx hb d_Text_is_60 (by decide) ?_
      refine lv_iload_n hx hb d_Text_is_61 rfl (lv_at hl 2 rfl) ?_
      refine lv_imul hx hb d_Text_is_62 ?_
      rw [show (2 * (nI k9) : Int32) = nI (2 * k9) from nI_mul 2 k9]
      refine lv_iconst (v := 1) hx hb d_Text_is_63 (by decide) ?_
      refine lv_iadd hx hb d_Text_is_64 ?_
      rw [show ((nI (2 * k9)) + 1 : Int32) = nI ((2 * k9) + 1) from nI_add (2 * k9) 1]
      refine vp_callSi (pu_callK (As := [.int (nI ((2 * k9) + 1))]) (rest := [.int (16 * (hexI (z.2.2.2.getD (2 * k9) 0))), .int (nI (u (fa + k9)))]) ⟨hx, hb, hml, hown, hts⟩ tbin (c_Str_charAt l dC dI sb k z ((2 * k9) + 1) hz (by omega)) q8_141 q8_142 q8_143 q1_28 q8_144 (n := 1) (by decide +kernel) rfl ⟨rfl, rfl⟩ ⟨Nat.le_of_ble_eq_true rfl, Nat.le_of_ble_eq_true rfl⟩ ⟨Nat.le_of_ble_eq_true rfl, Nat.le_of_ble_eq_true rfl⟩ hN hT0 hK hP [] rfl [] rfl (sk_recv hks) hl.1 rfl (Nat.le_of_ble_eq_true rfl) d_Text_is_65) (fun r65 hr65 => ?_)
      subst hr65
      refine vp_callSi (pu_callSN (As := [.int (z.2.2.2.getD ((2 * k9) + 1) 0)]) (rest := [.int (16 * (hexI (z.2.2.2.getD (2 * k9) 0))), .int (nI (u (fa + k9)))]) ⟨hx, hb, hml, hown, hts⟩ tbin (c_Model_hexOf l dC dI sb (z.2.2.2.getD ((2 * k9) + 1) 0)) qn8_177 q8_178 q1_9 q8_179 (n := 1) (by decide +kernel) rfl ⟨rfl, rfl⟩ ⟨Nat.le_of_ble_eq_true rfl, Nat.le_of_ble_eq_true rfl⟩ ⟨Nat.le_of_ble_eq_true rfl, Nat.le_of_ble_eq_true rfl⟩ hN hT0 hK hP [] rfl [] rfl hl.1 rfl (Nat.le_of_ble_eq_true rfl) d_Text_is_68) (fun r68 hr68 => ?_)
      subst hr68
      refine lv_iadd hx hb d_Text_is_71 ?_
      refine lv_icmp_eq (tgt := 77) hx hb d_Text_is_72 (by decide) (fun c72 => ?_) (fun c72 => ?_)
      · have p72 : (nI (u (fa + k9))) = ((16 * (hexI (z.2.2.2.getD (2 * k9) 0))) + (hexI (z.2.2.2.getD ((2 * k9) + 1) 0))) := c72
        refine lv_iinc (v := nI (k9 + 1)) (lv' := [(2, .int (nI (k9 + 1))), (0, .ref q), (1, .ref (sb.2 (10 + k)))]) hx hb d_Text_is_77 hl (k := 2) rfl (nI_1 _) (by decide) rfl (fun ls hl => ?_)
        refine lv_goto (tgt := 22) hx hb d_Text_is_80 (by decide) ?_
        exact ih (k9 + 1) ls (by omega) (⟨by omega, fun i hi => (Nat.lt_succ_iff_lt_or_eq.mp hi).elim (hJ.2 i) (fun e9 => by rw [e9]; exact p72)⟩) (lv_sub hl [1, 2, 0] rfl)
      · have p72 : ¬ ((nI (u (fa + k9))) = ((16 * (hexI (z.2.2.2.getD (2 * k9) 0))) + (hexI (z.2.2.2.getD ((2 * k9) + 1) 0)))) := c72
        refine lv_iconst (v := 0) hx hb d_Text_is_75 (by decide) ?_
        exact W.zret (v := 0) hx hb hr (by decide) (fun t ht hW => ⟨_, rfl, bz_f (fun h9 => p72 (h9.2 k9 hlt)), ht⟩) (fun q h => by cases h) d_Text_is_76
  · have p15 : ¬ ((fb - fa) = (z.2.2.2.length / 2)) := (fun q9 => c15 ((nI_eq (a := (fb - fa)) (b := (z.2.2.2.length / 2)) (by omega) (by omega)).mpr q9))
    refine lv_iconst (v := 0) hx hb d_Text_is_18 (by decide) ?_
    exact W.zret (v := 0) hx hb hr (by decide) (fun t ht hW => ⟨_, rfl, bz_f (fun h9 => p15 h9.1), ht⟩) (fun q h => by cases h) d_Text_is_19
