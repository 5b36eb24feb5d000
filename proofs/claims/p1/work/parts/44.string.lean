/-! String constants (kstr): String's methods on them. -/
theorem sk_recv {sb : sB} {k : Nat} {bs : List Int32} {s : State} {H : Heap} (h : sk1 sb k bs s H) : ∃ cell : Cell, H[sb.2 (10 + k)]? = some cell ∧ cell.vm.isStatics = false ∧ s.vm.findClass "java/lang/String" = some cell.cls := by
  obtain ⟨cell, h1, h2, h3, -⟩ := h.1
  exact ⟨cell, h1, h2, h3⟩
theorem ish0 (x : Int32) : x >>> ((0 : Int32) &&& 31) = x := by
  rw [show ((0 : Int32) &&& 31) = 0 from by decide]
  simp
/-- where an octet stands in a row of octets, -1 if nowhere -/
def idxP (bs : List Int32) (c r : Int32) : Prop := (r = -1 ∧ ∀ j, j < bs.length → bs.getD j 0 ≠ c) ∨ ∃ j, j < bs.length ∧ r = nI j ∧ bs.getD j 0 = c
section PUK
variable {p : Program} {l : Launch} {e : Env} {R : Room} {s : State} {m : MethodId} {args : Array Value} {below : List Frame} {meth : Method} {c : Code} {H : Heap} {locs : List Loc} {cells slots : Nat} {Q : State → Prop}
variable {pc : Nat} {ls : Array Slot} {rest st0 : List Value} {cc bytes : ByteArray} {nL maxL index : Nat} {Ts : List Cond} {own C : String} {y : MethodName} {ret : Option FieldType} {rm : Room} {D : va_G} {ws wsB : va_W} {tys tysB : List (ClassId × FieldType)} {As : List Value} {b : Nat} {n : Nat} {sb : sB}
/-- a call on an object that is no cell of the world (a String constant) -/
theorem pu_callK {Qc : Array Value → State → Outcome → State → Prop} (S : CallFix p m c cc nL s args Ts own) (hin : ∀ w ∈ tb, w ∈ Ts) (hM : Met l y (Cond.code y bytes maxL ret :: tb) rm (pu_P (.ref b :: As) D sb ws tys) Qc 0 0 (fun _ => False))
    (h1 : Cond.methodLink own index y ∈ tb) (h2 : Cond.instanceMethod y ∈ tb) (h3 : Cond.selects C y y ∈ tb) (h4 : Cond.initialized C ∈ tb) (h5 : Cond.code y bytes maxL ret ∈ tb)
    (hd : y.cls = C ∧ y.cls ≠ "java/lang/invoke/MethodHandle" ∧ y.cls ≠ "java/lang/invoke/VarHandle" ∧ (parseMethodDescriptor y.desc).map (fun d => d.parameters.length) = some n) (hn : As.length = n)
    (hz : rm.cells = 0 ∧ rm.slots = 0) (hR : rm.frames + 1 ≤ R.frames ∧ 8 + (maxL + 11) + rm.locals ≤ R.locals) (hf : cells ≤ R.cells ∧ slots ≤ R.slots)
    (hN : nwOK sb s) (hT : stOK sb s H) (hK : va_K D classes tysB s) (hP : va_P D classes wsB H) (is : List Nat) (hs : is.filterMap (fun i => wsB[i]?) = ws) (ts : List Nat) (ht : ts.filterMap (fun i => tysB[i]?) = tys)
    (hrc : ∃ cell : Cell, H[b]? = some cell ∧ cell.vm.isStatics = false ∧ s.vm.findClass C = some cell.cls)
    (hsize : ls.size = nL) (hstack : st0 = As.reverse ++ .ref b :: rest) (hW : (rest.map fun v => v.category).sum ≤ 8) (hdg : decode cc pc = .ok (.invokevirtual index, 3)) :
    CallRun p l e R s m args below meth c H locs cells slots 0 0 (F0 m pc ls st0) rest (Qc (Value.ref b :: As).toArray) (fun _ => False) := by
  subst hstack
  subst hn
  exact W.runV (As := As) (rest := rest) S hM (cwV As.length S.2.2.2.2 (gd_V hin h1 h2 h3 h4 h5) rfl hz.1 hz.2 hd hR) ⟨pu_blind, hrc, pu_pre hN hT hK hP is hs ts ht⟩ rfl rfl hsize rfl (lv_room hW) hdg ⟨hf.1, hf.2⟩
end PUK
def y_String_coder : MethodName := ⟨"java/lang/String", "coder", "()B"⟩
abbrev b_String_coder : ByteArray := prog_26_method_152_code
def w_String_coder : List Cond := Cond.code y_String_coder b_String_coder 1 ((some FieldType.byte)) :: tb
theorem d_String_coder_0 : decode b_String_coder 0 = .ok (.getstatic 38, 3) := by decide +kernel
theorem d_String_coder_3 : decode b_String_coder 3 = .ok (.ifCond .eq 10, 3) := by decide +kernel
theorem d_String_coder_6 : decode b_String_coder 6 = .ok (.aload_n 0, 1) := by decide +kernel
theorem d_String_coder_7 : decode b_String_coder 7 = .ok (.getfield 15, 3) := by decide +kernel
theorem d_String_coder_10 : decode b_String_coder 10 = .ok (.goto 4, 3) := by decide +kernel
theorem d_String_coder_14 : decode b_String_coder 14 = .ok (.ireturn, 1) := by decide +kernel
set_option maxHeartbeats 4000000 in
set_option maxRecDepth 100000 in
theorem c_Str_coder (l : Launch) (dC : Nat → ClassId) (dI : Nat → Nat → Nat) (sb : sB) (k : Nat) (z : String × Nat × String × List Int32) (hz : kstr[k]? = some z) : Met l y_String_coder w_String_coder ({ frames := 0, cells := 0, slots := 0, locals := 0 }) (pu_P [.ref (sb.2 (10 + k))] (dC, dI) sb [] []) (vp_Si (fun r => r = 0)) 0 0 (fun _ => False) := by
  refine Met.ofW (cc := b_String_coder) (maxL := 1) (ret := (some FieldType.byte)) (by decide) rfl ?_
  intro p e s m args below meth c s₁ B hml hv
  obtain ⟨rfl, hP, hK, hN, hT0⟩ := hv
  have hx := B.exec
  have hb := B.bytes
  have hr := B.returns
  have hts := atoms_spec (ws := w_String_coder) B.pre
  have tbin : ∀ w ∈ tb, w ∈ w_String_coder := fun w h => List.mem_cons_of_mem _ h
  have htb : ∀ w ∈ tb, w.before _ s = true := fun w h => hts w (tbin w h)
  have hown : s.vm.findClass "java/lang/String" = some m.cls := findClass_of_methodNamed B.named
  have hlocks := B.notSynchronized
  have hcs : 0 ≤ (headSpec w_String_coder ({ frames := 0, cells := 0, slots := 0, locals := 0 })).room.cells ∧ 0 ≤ (headSpec w_String_coder ({ frames := 0, cells := 0, slots := 0, locals := 0 })).room.slots := ⟨Nat.zero_le _, Nat.zero_le _⟩
  have hP : va_P (dC, dI) classes [] s.heap := hP
  have hl := lv_entry ([.ref (sb.2 (10 + k))]) (n := 1) (Nat.le_of_ble_eq_true rfl)
  rw [lg_entry_eq]
  generalize (lg_sl ([.ref (sb.2 (10 + k))]) ++ List.replicate (1 - (lg_sl ([.ref (sb.2 (10 + k))])).length) Slot.unset).toArray = ls at hl ⊢
  have hl : lv_has ls 1 [(0, .ref (sb.2 (10 + k)))] := hl
  have hks := hT0.2.2.2.2.2.2.1 k z hz
  refine va_gets hx hb hT0.2.2.2.2.2.2.2.1 va_S.rf hown (htb _ q4_6) (fun _ h9 => h9) d_String_coder_0 ?_
  refine lv_if_eq (tgt := 13) hx hb d_String_coder_3 (by decide) (fun c3 => ?_) (fun c3 => ?_)
  · exact absurd c3 (by decide)
  refine lv_aload_n hx hb d_String_coder_6 rfl (lv_at hl 0 rfl) ?_
  refine vk_getf (v := .int 0) hx hb hks.2.1 va_S.rf hown (htb _ q10_68) (fun _ h9 => h9) d_String_coder_7 ?_
  refine lv_goto (tgt := 14) hx hb d_String_coder_10 (by decide) ?_
  exact W.zret (v := 0) hx hb hr rfl (fun t ht hW => ⟨_, rfl, rfl, ht⟩) (fun q h => by cases h) d_String_coder_14
def y_String_isLatin1 : MethodName := ⟨"java/lang/String", "isLatin1", "()Z"⟩
abbrev b_String_isLatin1 : ByteArray := prog_26_method_154_code
def w_String_isLatin1 : List Cond := Cond.code y_String_isLatin1 b_String_isLatin1 1 ((some FieldType.boolean)) :: tb
theorem d_String_isLatin1_0 : decode b_String_isLatin1 0 = .ok (.getstatic 38, 3) := by decide +kernel
theorem d_String_isLatin1_3 : decode b_String_isLatin1 3 = .ok (.ifCond .eq 14, 3) := by decide +kernel
theorem d_String_isLatin1_6 : decode b_String_isLatin1 6 = .ok (.aload_n 0, 1) := by decide +kernel
theorem d_String_isLatin1_7 : decode b_String_isLatin1 7 = .ok (.getfield 15, 3) := by decide +kernel
theorem d_String_isLatin1_10 : decode b_String_isLatin1 10 = .ok (.ifCond .ne 7, 3) := by decide +kernel
theorem d_String_isLatin1_13 : decode b_String_isLatin1 13 = .ok (.iconst 1, 1) := by decide +kernel
theorem d_String_isLatin1_14 : decode b_String_isLatin1 14 = .ok (.goto 4, 3) := by decide +kernel
theorem d_String_isLatin1_18 : decode b_String_isLatin1 18 = .ok (.ireturn, 1) := by decide +kernel
set_option maxHeartbeats 4000000 in
set_option maxRecDepth 100000 in
theorem c_Str_isLatin1 (l : Launch) (dC : Nat → ClassId) (dI : Nat → Nat → Nat) (sb : sB) (k : Nat) (z : String × Nat × String × List Int32) (hz : kstr[k]? = some z) : Met l y_String_isLatin1 w_String_isLatin1 ({ frames := 0, cells := 0, slots := 0, locals := 0 }) (pu_P [.ref (sb.2 (10 + k))] (dC, dI) sb [] []) (vp_Si (fun r => r = 1)) 0 0 (fun _ => False) := by
  refine Met.ofW (cc := b_String_isLatin1) (maxL := 1) (ret := (some FieldType.boolean)) (by decide) rfl ?_
  intro p e s m args below meth c s₁ B hml hv
  obtain ⟨rfl, hP, hK, hN, hT0⟩ := hv
  have hx := B.exec
  have hb := B.bytes
  have hr := B.returns
  have hts := atoms_spec (ws := w_String_isLatin1) B.pre
  have tbin : ∀ w ∈ tb, w ∈ w_String_isLatin1 := fun w h => List.mem_cons_of_mem _ h
  have htb : ∀ w ∈ tb, w.before _ s = true := fun w h => hts w (tbin w h)
  have hown : s.vm.findClass "java/lang/String" = some m.cls := findClass_of_methodNamed B.named
  have hlocks := B.notSynchronized
  have hcs : 0 ≤ (headSpec w_String_isLatin1 ({ frames := 0, cells := 0, slots := 0, locals := 0 })).room.cells ∧ 0 ≤ (headSpec w_String_isLatin1 ({ frames := 0, cells := 0, slots := 0, locals := 0 })).room.slots := ⟨Nat.zero_le _, Nat.zero_le _⟩
  have hP : va_P (dC, dI) classes [] s.heap := hP
  have hl := lv_entry ([.ref (sb.2 (10 + k))]) (n := 1) (Nat.le_of_ble_eq_true rfl)
  rw [lg_entry_eq]
  generalize (lg_sl ([.ref (sb.2 (10 + k))]) ++ List.replicate (1 - (lg_sl ([.ref (sb.2 (10 + k))])).length) Slot.unset).toArray = ls at hl ⊢
  have hl : lv_has ls 1 [(0, .ref (sb.2 (10 + k)))] := hl
  have hks := hT0.2.2.2.2.2.2.1 k z hz
  refine va_gets hx hb hT0.2.2.2.2.2.2.2.1 va_S.rf hown (htb _ q4_6) (fun _ h9 => h9) d_String_isLatin1_0 ?_
  refine lv_if_eq (tgt := 17) hx hb d_String_isLatin1_3 (by decide) (fun c3 => ?_) (fun c3 => ?_)
  · exact absurd c3 (by decide)
  refine lv_aload_n hx hb d_String_isLatin1_6 rfl (lv_at hl 0 rfl) ?_
  refine vk_getf (v := .int 0) hx hb hks.2.1 va_S.rf hown (htb _ q10_68) (fun _ h9 => h9) d_String_isLatin1_7 ?_
  refine lv_if_ne (tgt := 17) hx hb d_String_isLatin1_10 (by decide) (fun c10 => ?_) (fun c10 => ?_)
  · exact absurd c10 (by decide)
  refine lv_iconst (v := 1) hx hb d_String_isLatin1_13 (by decide) ?_
  refine lv_goto (tgt := 18) hx hb d_String_isLatin1_14 (by decide) ?_
  exact W.zret (v := 1) hx hb hr (bz_n (bz_t trivial)) (fun t ht hW => ⟨_, rfl, rfl, ht⟩) (fun q h => by cases h) d_String_isLatin1_18
def y_String_length : MethodName := ⟨"java/lang/String", "length", "()I"⟩
abbrev b_String_length : ByteArray := prog_26_method_54_code
def w_String_length : List Cond := Cond.code y_String_length b_String_length 1 ((some FieldType.int)) :: tb
theorem d_String_length_0 : decode b_String_length 0 = .ok (.aload_n 0, 1) := by decide +kernel
theorem d_String_length_1 : decode b_String_length 1 = .ok (.getfield 9, 3) := by decide +kernel
theorem d_String_length_4 : decode b_String_length 4 = .ok (.arraylength, 1) := by decide +kernel
theorem d_String_length_5 : decode b_String_length 5 = .ok (.aload_n 0, 1) := by decide +kernel
theorem d_String_length_6 : decode b_String_length 6 = .ok (.invokevirtual 335, 3) := by decide +kernel
theorem d_String_length_9 : decode b_String_length 9 = .ok (.ishr, 1) := by decide +kernel
theorem d_String_length_10 : decode b_String_length 10 = .ok (.ireturn, 1) := by decide +kernel
set_option maxHeartbeats 4000000 in
set_option maxRecDepth 100000 in
theorem c_Str_length (l : Launch) (dC : Nat → ClassId) (dI : Nat → Nat → Nat) (sb : sB) (k : Nat) (z : String × Nat × String × List Int32) (hz : kstr[k]? = some z) : Met l y_String_length w_String_length ({ frames := 1, cells := 0, slots := 0, locals := 20 }) (pu_P [.ref (sb.2 (10 + k))] (dC, dI) sb [] []) (vp_Si (fun r => r = nI z.2.2.2.length)) 0 0 (fun _ => False) := by
  refine Met.ofW (cc := b_String_length) (maxL := 1) (ret := (some FieldType.int)) (by decide) rfl ?_
  intro p e s m args below meth c s₁ B hml hv
  obtain ⟨rfl, hP, hK, hN, hT0⟩ := hv
  have hx := B.exec
  have hb := B.bytes
  have hr := B.returns
  have hts := atoms_spec (ws := w_String_length) B.pre
  have tbin : ∀ w ∈ tb, w ∈ w_String_length := fun w h => List.mem_cons_of_mem _ h
  have htb : ∀ w ∈ tb, w.before _ s = true := fun w h => hts w (tbin w h)
  have hown : s.vm.findClass "java/lang/String" = some m.cls := findClass_of_methodNamed B.named
  have hlocks := B.notSynchronized
  have hcs : 0 ≤ (headSpec w_String_length ({ frames := 1, cells := 0, slots := 0, locals := 20 })).room.cells ∧ 0 ≤ (headSpec w_String_length ({ frames := 1, cells := 0, slots := 0, locals := 20 })).room.slots := ⟨Nat.zero_le _, Nat.zero_le _⟩
  have hP : va_P (dC, dI) classes [] s.heap := hP
  have hl := lv_entry ([.ref (sb.2 (10 + k))]) (n := 1) (Nat.le_of_ble_eq_true rfl)
  rw [lg_entry_eq]
  generalize (lg_sl ([.ref (sb.2 (10 + k))]) ++ List.replicate (1 - (lg_sl ([.ref (sb.2 (10 + k))])).length) Slot.unset).toArray = ls at hl ⊢
  have hl : lv_has ls 1 [(0, .ref (sb.2 (10 + k)))] := hl
  have hks := hT0.2.2.2.2.2.2.1 k z hz
  refine lv_aload_n hx hb d_String_length_0 rfl (lv_at hl 0 rfl) ?_
  refine vk_getf (v := .ref (sb.2 (20 + k))) hx hb hks.2.2.1 va_S.rf hown (htb _ q10_69) (fun _ h9 => h9) d_String_length_1 ?_
  refine va_tlen (v := nI z.2.2.2.length) hx hb hks.2.2.2 va_S.rf rfl d_String_length_4 ?_
  refine lv_aload_n hx hb d_String_length_5 rfl (lv_at hl 0 rfl) ?_
  refine vp_callSi (pu_callK (As := []) (rest := [.int (nI z.2.2.2.length)]) ⟨hx, hb, hml, hown, hts⟩ tbin (c_Str_coder l dC dI sb k z hz) q4_12 q4_13 q4_14 q1_24 q4_15 (n := 0) (by decide +kernel) rfl ⟨rfl, rfl⟩ ⟨Nat.le_of_ble_eq_true rfl, Nat.le_of_ble_eq_true rfl⟩ ⟨Nat.le_of_ble_eq_true rfl, Nat.le_of_ble_eq_true rfl⟩ hN hT0 hK hP [] rfl [] rfl (sk_recv hks) hl.1 rfl (Nat.le_of_ble_eq_true rfl) d_String_length_6) (fun r6 hr6 => ?_)
  subst hr6
  refine lv_ishr hx hb d_String_length_9 ?_
  exact W.iret (v := (nI z.2.2.2.length) >>> (0 &&& 31)) hx hb hr (fun t ht hW => ⟨_, rfl, ish0 _, ht⟩) (fun q h => by cases h) d_String_length_10
def y_StringLatin1_canEncode : MethodName := ⟨"java/lang/StringLatin1", "canEncode", "(I)Z"⟩
abbrev b_StringLatin1_canEncode : ByteArray := prog_27_method_4_code
def w_StringLatin1_canEncode : List Cond := Cond.code y_StringLatin1_canEncode b_StringLatin1_canEncode 1 ((some FieldType.boolean)) :: tb
theorem d_StringLatin1_canEncode_0 : decode b_StringLatin1_canEncode 0 = .ok (.iload_n 0, 1) := by decide +kernel
theorem d_StringLatin1_canEncode_1 : decode b_StringLatin1_canEncode 1 = .ok (.ifCond .lt 14, 3) := by decide +kernel
theorem d_StringLatin1_canEncode_4 : decode b_StringLatin1_canEncode 4 = .ok (.iload_n 0, 1) := by decide +kernel
theorem d_StringLatin1_canEncode_5 : decode b_StringLatin1_canEncode 5 = .ok (.sipush 255, 3) := by decide +kernel
theorem d_StringLatin1_canEncode_8 : decode b_StringLatin1_canEncode 8 = .ok (.if_icmp .gt 7, 3) := by decide +kernel
theorem d_StringLatin1_canEncode_11 : decode b_StringLatin1_canEncode 11 = .ok (.iconst 1, 1) := by decide +kernel
theorem d_StringLatin1_canEncode_12 : decode b_StringLatin1_canEncode 12 = .ok (.goto 4, 3) := by decide +kernel
theorem d_StringLatin1_canEncode_15 : decode b_StringLatin1_canEncode 15 = .ok (.iconst 0, 1) := by decide +kernel
theorem d_StringLatin1_canEncode_16 : decode b_StringLatin1_canEncode 16 = .ok (.ireturn, 1) := by decide +kernel
set_option maxHeartbeats 4000000 in
set_option maxRecDepth 100000 in
theorem c_L1_canEncode (l : Launch) (dC : Nat → ClassId) (dI : Nat → Nat → Nat) (sb : sB) (c0 : Int32) : Met l y_StringLatin1_canEncode w_StringLatin1_canEncode ({ frames := 0, cells := 0, slots := 0, locals := 0 }) (pu_P [.int c0] (dC, dI) sb [] []) (vp_Si (fun r => bz r (¬ c0 < 0 ∧ ¬ 255 < c0))) 0 0 (fun _ => False) := by
  refine Met.ofW (cc := b_StringLatin1_canEncode) (maxL := 1) (ret := (some FieldType.boolean)) (by decide) rfl ?_
  intro p e s m args below meth c s₁ B hml hv
  obtain ⟨rfl, hP, hK, hN, hT0⟩ := hv
  have hx := B.exec
  have hb := B.bytes
  have hr := B.returns
  have hts := atoms_spec (ws := w_StringLatin1_canEncode) B.pre
  have tbin : ∀ w ∈ tb, w ∈ w_StringLatin1_canEncode := fun w h => List.mem_cons_of_mem _ h
  have htb : ∀ w ∈ tb, w.before _ s = true := fun w h => hts w (tbin w h)
  have hown : s.vm.findClass "java/lang/StringLatin1" = some m.cls := findClass_of_methodNamed B.named
  have hlocks := B.notSynchronized
  have hcs : 0 ≤ (headSpec w_StringLatin1_canEncode ({ frames := 0, cells := 0, slots := 0, locals := 0 })).room.cells ∧ 0 ≤ (headSpec w_StringLatin1_canEncode ({ frames := 0, cells := 0, slots := 0, locals := 0 })).room.slots := ⟨Nat.zero_le _, Nat.zero_le _⟩
  have hP : va_P (dC, dI) classes [] s.heap := hP
  have hl := lv_entry ([.int c0]) (n := 1) (Nat.le_of_ble_eq_true rfl)
  rw [lg_entry_eq]
  generalize (lg_sl ([.int c0]) ++ List.replicate (1 - (lg_sl ([.int c0])).length) Slot.unset).toArray = ls at hl ⊢
  have hl : lv_has ls 1 [(0, .int c0)] := hl
  refine w_join (J := fun v => bz v (¬ c0 < 0 ∧ ¬ 255 < c0)) (pc := 16) (ls := ls) (rest := []) (fun v hv => ?_) (fun k16 => ?_)
  · skip
    exact W.zret (v := v) hx hb hr (bz_n hv) (fun t ht hW => ⟨_, rfl, hv, ht⟩) (fun q h => by cases h) d_StringLatin1_canEncode_16
  · skip
    refine lv_iload_n hx hb d_StringLatin1_canEncode_0 rfl (lv_at hl 0 rfl) ?_
    refine lv_if_lt (tgt := 15) hx hb d_StringLatin1_canEncode_1 (by decide) (fun c1 => ?_) (fun c1 => ?_)
    · refine lv_iconst (v := 0) hx hb d_StringLatin1_canEncode_15 (by decide) ?_
      exact k16 _ (bz_f (fun q => q.1 c1))
    · refine lv_iload_n hx hb d_StringLatin1_canEncode_4 rfl (lv_at hl 0 rfl) ?_
      refine lv_sipush (v := 255) hx hb d_StringLatin1_canEncode_5 (by decide) ?_
      refine lv_icmp_gt (tgt := 15) hx hb d_StringLatin1_canEncode_8 (by decide) (fun c8 => ?_) (fun c8 => ?_)
      · refine lv_iconst (v := 0) hx hb d_StringLatin1_canEncode_15 (by decide) ?_
        exact k16 _ (bz_f (fun q => q.2 (by first | exact c8 | exact Int32.not_le.mp c8)))
      · refine lv_iconst (v := 1) hx hb d_StringLatin1_canEncode_11 (by decide) ?_
        refine lv_goto (tgt := 16) hx hb d_StringLatin1_canEncode_12 (by decide) ?_
        exact k16 _ (bz_t ⟨c1, by first | exact c8 | exact Int32.not_lt.mpr c8⟩)
def y_StringLatin1_indexOfChar : MethodName := ⟨"java/lang/StringLatin1", "indexOfChar", "([BIII)I"⟩
abbrev b_StringLatin1_indexOfChar : ByteArray := prog_27_method_23_code
def w_StringLatin1_indexOfChar : List Cond := Cond.code y_StringLatin1_indexOfChar b_StringLatin1_indexOfChar 6 ((some FieldType.int)) :: tb
theorem d_StringLatin1_indexOfChar_0 : decode b_StringLatin1_indexOfChar 0 = .ok (.iload_n 1, 1) := by decide +kernel
theorem d_StringLatin1_indexOfChar_1 : decode b_StringLatin1_indexOfChar 1 = .ok (.i2b, 1) := by decide +kernel
theorem d_StringLatin1_indexOfChar_2 : decode b_StringLatin1_indexOfChar 2 = .ok (.istore 4, 2) := by decide +kernel
theorem d_StringLatin1_indexOfChar_4 : decode b_StringLatin1_indexOfChar 4 = .ok (.iload_n 2, 1) := by decide +kernel
theorem d_StringLatin1_indexOfChar_5 : decode b_StringLatin1_indexOfChar 5 = .ok (.istore 5, 2) := by decide +kernel
theorem d_StringLatin1_indexOfChar_7 : decode b_StringLatin1_indexOfChar 7 = .ok (.iload 5, 2) := by decide +kernel
theorem d_StringLatin1_indexOfChar_9 : decode b_StringLatin1_indexOfChar 9 = .ok (.iload_n 3, 1) := by decide +kernel
theorem d_StringLatin1_indexOfChar_10 : decode b_StringLatin1_indexOfChar 10 = .ok (.if_icmp .ge 21, 3) := by decide +kernel
theorem d_StringLatin1_indexOfChar_13 : decode b_StringLatin1_indexOfChar 13 = .ok (.aload_n 0, 1) := by decide +kernel
theorem d_StringLatin1_indexOfChar_14 : decode b_StringLatin1_indexOfChar 14 = .ok (.iload 5, 2) := by decide +kernel
theorem d_StringLatin1_indexOfChar_16 : decode b_StringLatin1_indexOfChar 16 = .ok (.baload, 1) := by decide +kernel
theorem d_StringLatin1_indexOfChar_17 : decode b_StringLatin1_indexOfChar 17 = .ok (.iload 4, 2) := by decide +kernel
theorem d_StringLatin1_indexOfChar_19 : decode b_StringLatin1_indexOfChar 19 = .ok (.if_icmp .ne 6, 3) := by decide +kernel
theorem d_StringLatin1_indexOfChar_22 : decode b_StringLatin1_indexOfChar 22 = .ok (.iload 5, 2) := by decide +kernel
theorem d_StringLatin1_indexOfChar_24 : decode b_StringLatin1_indexOfChar 24 = .ok (.ireturn, 1) := by decide +kernel
theorem d_StringLatin1_indexOfChar_25 : decode b_StringLatin1_indexOfChar 25 = .ok (.iinc 5 1, 3) := by decide +kernel
theorem d_StringLatin1_indexOfChar_28 : decode b_StringLatin1_indexOfChar 28 = .ok (.goto (-21), 3) := by decide +kernel
theorem d_StringLatin1_indexOfChar_31 : decode b_StringLatin1_indexOfChar 31 = .ok (.iconst (-1), 1) := by decide +kernel
theorem d_StringLatin1_indexOfChar_32 : decode b_StringLatin1_indexOfChar 32 = .ok (.ireturn, 1) := by decide +kernel
set_option maxHeartbeats 4000000 in
set_option maxRecDepth 100000 in
theorem c_L1_indexOfChar (l : Launch) (dC : Nat → ClassId) (dI : Nat → Nat → Nat) (sb : sB) (k : Nat) (z : String × Nat × String × List Int32) (c0 : Int32) (hz : kstr[k]? = some z) (hn : z.2.2.2.length < 2 ^ 30) : Met l y_StringLatin1_indexOfChar w_StringLatin1_indexOfChar ({ frames := 0, cells := 0, slots := 0, locals := 0 }) (pu_P [.ref (sb.2 (20 + k)), .int c0, .int 0, .int (nI z.2.2.2.length)] (dC, dI) sb [] []) (vp_Si (fun r => idxP z.2.2.2 c0.toInt8.toInt32 r)) 0 0 (fun _ => False) := by
  refine Met.ofW (cc := b_StringLatin1_indexOfChar) (maxL := 6) (ret := (some FieldType.int)) (by decide) rfl ?_
  intro p e s m args below meth c s₁ B hml hv
  obtain ⟨rfl, hP, hK, hN, hT0⟩ := hv
  have hx := B.exec
  have hb := B.bytes
  have hr := B.returns
  have hts := atoms_spec (ws := w_StringLatin1_indexOfChar) B.pre
  have tbin : ∀ w ∈ tb, w ∈ w_StringLatin1_indexOfChar := fun w h => List.mem_cons_of_mem _ h
  have htb : ∀ w ∈ tb, w.before _ s = true := fun w h => hts w (tbin w h)
  have hown : s.vm.findClass "java/lang/StringLatin1" = some m.cls := findClass_of_methodNamed B.named
  have hlocks := B.notSynchronized
  have hcs : 0 ≤ (headSpec w_StringLatin1_indexOfChar ({ frames := 0, cells := 0, slots := 0, locals := 0 })).room.cells ∧ 0 ≤ (headSpec w_StringLatin1_indexOfChar ({ frames := 0, cells := 0, slots := 0, locals := 0 })).room.slots := ⟨Nat.zero_le _, Nat.zero_le _⟩
  have hP : va_P (dC, dI) classes [] s.heap := hP
  have hl := lv_entry ([.ref (sb.2 (20 + k)), .int c0, .int 0, .int (nI z.2.2.2.length)]) (n := 6) (Nat.le_of_ble_eq_true rfl)
  rw [lg_entry_eq]
  generalize (lg_sl ([.ref (sb.2 (20 + k)), .int c0, .int 0, .int (nI z.2.2.2.length)]) ++ List.replicate (6 - (lg_sl ([.ref (sb.2 (20 + k)), .int c0, .int 0, .int (nI z.2.2.2.length)])).length) Slot.unset).toArray = ls at hl ⊢
  have hl : lv_has ls 6 [(0, .ref (sb.2 (20 + k))), (1, .int c0), (2, .int 0), (3, .int (nI z.2.2.2.length))] := hl
  have hks := hT0.2.2.2.2.2.2.1 k z hz
  refine lv_iload_n hx hb d_StringLatin1_indexOfChar_0 rfl (lv_at hl 1 rfl) ?_
  refine lv_i2b (v := c0.toInt8.toInt32) hx hb d_StringLatin1_indexOfChar_1 rfl ?_
  refine lv_istore (lv' := [(4, .int c0.toInt8.toInt32), (0, .ref (sb.2 (20 + k))), (1, .int c0), (2, .int 0), (3, .int (nI z.2.2.2.length))]) hx hb d_StringLatin1_indexOfChar_2 hl (by decide) rfl (fun ls hl => ?_)
  refine lv_iload_n hx hb d_StringLatin1_indexOfChar_4 rfl (lv_at hl 3 rfl) ?_
  refine lv_istore (lv' := [(5, .int 0), (4, .int c0.toInt8.toInt32), (0, .ref (sb.2 (20 + k))), (1, .int c0), (2, .int 0), (3, .int (nI z.2.2.2.length))]) hx hb d_StringLatin1_indexOfChar_5 hl (by decide) rfl (fun ls hl => ?_)
  refine w_loop (α := Nat) (fun j => j ≤ z.2.2.2.length ∧ ∀ i, i < j → z.2.2.2.getD i 0 ≠ c0.toInt8.toInt32) (fun j => z.2.2.2.length - j) (fun j => [(0, .ref (sb.2 (20 + k))), (1, .int c0), (3, .int (nI z.2.2.2.length)), (4, .int c0.toInt8.toInt32), (5, .int (nI j))]) (fun _ => []) 6 7 (fun j ls hJ hl ih => ?_) 0 ls (⟨Nat.zero_le _, fun i hi => absurd hi (Nat.not_lt_zero i)⟩) (lv_sub hl [2, 3, 5, 1, 0] rfl)
  have hjl := hJ.1
  refine lv_iload hx hb d_StringLatin1_indexOfChar_7 (lv_at hl 4 rfl) ?_
  refine lv_iload_n hx hb d_StringLatin1_indexOfChar_9 rfl (lv_at hl 2 rfl) ?_
  refine lv_icmp_ge (tgt := 31) hx hb d_StringLatin1_indexOfChar_10 (by decide) (fun c10 => ?_) (fun c10 => ?_)
  · refine lv_iconst (v := -1) hx hb d_StringLatin1_indexOfChar_31 (by decide) ?_
    exact W.iret (v := -1) hx hb hr (fun t ht hW => ⟨_, rfl, Or.inl ⟨rfl, fun i hi => hJ.2 i (by rw [nI_leI (by omega) (by omega)] at c10; omega)⟩, ht⟩) (fun q h => by cases h) d_StringLatin1_indexOfChar_32
  · have hlt : j < z.2.2.2.length := by rw [nI_leI (by omega) (by omega)] at c10; omega
    refine lv_aload_n hx hb d_StringLatin1_indexOfChar_13 rfl (lv_at hl 0 rfl) ?_
    refine lv_iload hx hb d_StringLatin1_indexOfChar_14 (lv_at hl 4 rfl) ?_
    have h16 : vp_in (nI j) z.2.2.2.length := vp_in_nI hlt (by omega)
    refine va_tb (v := .int (z.2.2.2.getD (nI j).toNatClampNeg 0)) hx hb hks.2.2.2 va_S.rf h16 rfl d_StringLatin1_indexOfChar_16 ?_
    refine lv_iload hx hb d_StringLatin1_indexOfChar_17 (lv_at hl 3 rfl) ?_
    refine lv_icmp_ne (tgt := 25) hx hb d_StringLatin1_indexOfChar_19 (by decide) (fun c19 => ?_) (fun c19 => ?_)
    · refine lv_iinc (v := nI (j + 1)) (lv' := [(5, .int (nI (j + 1))), (0, .ref (sb.2 (20 + k))), (1, .int c0), (3, .int (nI z.2.2.2.length)), (4, .int c0.toInt8.toInt32)]) hx hb d_StringLatin1_indexOfChar_25 hl (k := 4) rfl (nI_1 _) (by decide) rfl (fun ls hl => ?_)
      refine lv_goto (tgt := 7) hx hb d_StringLatin1_indexOfChar_28 (by decide) ?_
      exact ih (j + 1) ls (by omega) (⟨by omega, fun i hi => (Nat.lt_succ_iff_lt_or_eq.mp hi).elim (hJ.2 i) (fun q => by rw [q]; intro q9; exact c19 (by rw [nI_clamp (by omega)]; exact q9))⟩) (lv_sub hl [1, 2, 3, 4, 0] rfl)
    · refine lv_iload hx hb d_StringLatin1_indexOfChar_22 (lv_at hl 4 rfl) ?_
      exact W.iret (v := nI j) hx hb hr (fun t ht hW => ⟨_, rfl, Or.inr ⟨j, hlt, rfl, by have h9 := (show _ = _ from by first | exact c19 | exact Classical.not_not.mp c19); rw [nI_clamp (by omega)] at h9; exact h9⟩, ht⟩) (fun q h => by cases h) d_StringLatin1_indexOfChar_24
def y_StringLatin1_indexOf : MethodName := ⟨"java/lang/StringLatin1", "indexOf", "([BIII)I"⟩
abbrev b_StringLatin1_indexOf : ByteArray := prog_27_method_22_code
def w_StringLatin1_indexOf : List Cond := Cond.code y_StringLatin1_indexOf b_StringLatin1_indexOf 4 ((some FieldType.int)) :: tb
theorem d_StringLatin1_indexOf_0 : decode b_StringLatin1_indexOf 0 = .ok (.iload_n 1, 1) := by decide +kernel
theorem d_StringLatin1_indexOf_1 : decode b_StringLatin1_indexOf 1 = .ok (.invokestatic 88, 3) := by decide +kernel
theorem d_StringLatin1_indexOf_4 : decode b_StringLatin1_indexOf 4 = .ok (.ifCond .ne 5, 3) := by decide +kernel
theorem d_StringLatin1_indexOf_7 : decode b_StringLatin1_indexOf 7 = .ok (.iconst (-1), 1) := by decide +kernel
theorem d_StringLatin1_indexOf_8 : decode b_StringLatin1_indexOf 8 = .ok (.ireturn, 1) := by decide +kernel
theorem d_StringLatin1_indexOf_9 : decode b_StringLatin1_indexOf 9 = .ok (.iload_n 2, 1) := by decide +kernel
theorem d_StringLatin1_indexOf_10 : decode b_StringLatin1_indexOf 10 = .ok (.iconst 0, 1) := by decide +kernel
theorem d_StringLatin1_indexOf_11 : decode b_StringLatin1_indexOf 11 = .ok (.invokestatic 92, 3) := by decide +kernel
theorem d_StringLatin1_indexOf_14 : decode b_StringLatin1_indexOf 14 = .ok (.istore_n 2, 1) := by decide +kernel
theorem d_StringLatin1_indexOf_15 : decode b_StringLatin1_indexOf 15 = .ok (.iload_n 3, 1) := by decide +kernel
theorem d_StringLatin1_indexOf_16 : decode b_StringLatin1_indexOf 16 = .ok (.aload_n 0, 1) := by decide +kernel
theorem d_StringLatin1_indexOf_17 : decode b_StringLatin1_indexOf 17 = .ok (.arraylength, 1) := by decide +kernel
theorem d_StringLatin1_indexOf_18 : decode b_StringLatin1_indexOf 18 = .ok (.invokestatic 38, 3) := by decide +kernel
theorem d_StringLatin1_indexOf_21 : decode b_StringLatin1_indexOf 21 = .ok (.istore_n 3, 1) := by decide +kernel
theorem d_StringLatin1_indexOf_22 : decode b_StringLatin1_indexOf 22 = .ok (.iload_n 2, 1) := by decide +kernel
theorem d_StringLatin1_indexOf_23 : decode b_StringLatin1_indexOf 23 = .ok (.iload_n 3, 1) := by decide +kernel
theorem d_StringLatin1_indexOf_24 : decode b_StringLatin1_indexOf 24 = .ok (.if_icmp .lt 5, 3) := by decide +kernel
theorem d_StringLatin1_indexOf_27 : decode b_StringLatin1_indexOf 27 = .ok (.iconst (-1), 1) := by decide +kernel
theorem d_StringLatin1_indexOf_28 : decode b_StringLatin1_indexOf 28 = .ok (.ireturn, 1) := by decide +kernel
theorem d_StringLatin1_indexOf_29 : decode b_StringLatin1_indexOf 29 = .ok (.aload_n 0, 1) := by decide +kernel
theorem d_StringLatin1_indexOf_30 : decode b_StringLatin1_indexOf 30 = .ok (.iload_n 1, 1) := by decide +kernel
theorem d_StringLatin1_indexOf_31 : decode b_StringLatin1_indexOf 31 = .ok (.iload_n 2, 1) := by decide +kernel
theorem d_StringLatin1_indexOf_32 : decode b_StringLatin1_indexOf 32 = .ok (.iload_n 3, 1) := by decide +kernel
theorem d_StringLatin1_indexOf_33 : decode b_StringLatin1_indexOf 33 = .ok (.invokestatic 95, 3) := by decide +kernel
theorem d_StringLatin1_indexOf_36 : decode b_StringLatin1_indexOf 36 = .ok (.ireturn, 1) := by decide +kernel
set_option maxHeartbeats 4000000 in
set_option maxRecDepth 100000 in
theorem c_L1_indexOf (l : Launch) (dC : Nat → ClassId) (dI : Nat → Nat → Nat) (sb : sB) (k : Nat) (z : String × Nat × String × List Int32) (c0 : Int32) (hz : kstr[k]? = some z) (hn : z.2.2.2.length < 2 ^ 30) (hpos : 0 < z.2.2.2.length) (hc0 : ¬ c0 < 0 ∧ ¬ 255 < c0) : Met l y_StringLatin1_indexOf w_StringLatin1_indexOf ({ frames := 1, cells := 0, slots := 0, locals := 36 }) (pu_P [.ref (sb.2 (20 + k)), .int c0, .int 0, .int (nI z.2.2.2.length)] (dC, dI) sb [] []) (vp_Si (fun r => idxP z.2.2.2 c0.toInt8.toInt32 r)) 0 0 (fun _ => False) := by
  refine Met.ofW (cc := b_StringLatin1_indexOf) (maxL := 4) (ret := (some FieldType.int)) (by decide) rfl ?_
  intro p e s m args below meth c s₁ B hml hv
  obtain ⟨rfl, hP, hK, hN, hT0⟩ := hv
  have hx := B.exec
  have hb := B.bytes
  have hr := B.returns
  have hts := atoms_spec (ws := w_StringLatin1_indexOf) B.pre
  have tbin : ∀ w ∈ tb, w ∈ w_StringLatin1_indexOf := fun w h => List.mem_cons_of_mem _ h
  have htb : ∀ w ∈ tb, w.before _ s = true := fun w h => hts w (tbin w h)
  have hown : s.vm.findClass "java/lang/StringLatin1" = some m.cls := findClass_of_methodNamed B.named
  have hlocks := B.notSynchronized
  have hcs : 0 ≤ (headSpec w_StringLatin1_indexOf ({ frames := 1, cells := 0, slots := 0, locals := 36 })).room.cells ∧ 0 ≤ (headSpec w_StringLatin1_indexOf ({ frames := 1, cells := 0, slots := 0, locals := 36 })).room.slots := ⟨Nat.zero_le _, Nat.zero_le _⟩
  have hP : va_P (dC, dI) classes [] s.heap := hP
  have hl := lv_entry ([.ref (sb.2 (20 + k)), .int c0, .int 0, .int (nI z.2.2.2.length)]) (n := 4) (Nat.le_of_ble_eq_true rfl)
  rw [lg_entry_eq]
  generalize (lg_sl ([.ref (sb.2 (20 + k)), .int c0, .int 0, .int (nI z.2.2.2.length)]) ++ List.replicate (4 - (lg_sl ([.ref (sb.2 (20 + k)), .int c0, .int 0, .int (nI z.2.2.2.length)])).length) Slot.unset).toArray = ls at hl ⊢
  have hl : lv_has ls 4 [(0, .ref (sb.2 (20 + k))), (1, .int c0), (2, .int 0), (3, .int (nI z.2.2.2.length))] := hl
  have hks := hT0.2.2.2.2.2.2.1 k z hz
  refine lv_iload_n hx hb d_StringLatin1_indexOf_0 rfl (lv_at hl 1 rfl) ?_
  refine vp_callSi (pu_callS (As := [.int c0]) (rest := []) ⟨hx, hb, hml, hown, hts⟩ tbin (c_L1_canEncode l dC dI sb c0) q4_19 q4_20 q1_25 q4_21 (n := 1) (by decide +kernel) rfl ⟨rfl, rfl⟩ ⟨Nat.le_of_ble_eq_true rfl, Nat.le_of_ble_eq_true rfl⟩ ⟨Nat.le_of_ble_eq_true rfl, Nat.le_of_ble_eq_true rfl⟩ hN hT0 hK hP [] rfl [] rfl hl.1 rfl (Nat.le_of_ble_eq_true rfl) d_StringLatin1_indexOf_1) (fun r1 hr1 => ?_)
  refine lv_if_ne (tgt := 9) hx hb d_StringLatin1_indexOf_4 (by decide) (fun c4 => ?_) (fun c4 => ?_)
  rotate_left
  · exact absurd (bz_0 hr1 (by first | exact c4 | exact Classical.not_not.mp c4)) (fun q => q hc0)
  refine lv_iload_n hx hb d_StringLatin1_indexOf_9 rfl (lv_at hl 2 rfl) ?_
  refine lv_iconst (v := 0) hx hb d_StringLatin1_indexOf_10 (by decide) ?_
  refine va_mmax hx hb (by rw [hml]; exact hl.1.symm) hown (htb _ q4_22) (htb _ q4_23) (htb _ q1_18) (htb _ q4_24) (Nat.le_of_ble_eq_true rfl) (Nat.le_of_ble_eq_true rfl) (Nat.le_of_ble_eq_true rfl) (Nat.le_of_ble_eq_true rfl) d_StringLatin1_indexOf_11 ?_
  rw [show (if (0 : Int32) < 0 then (0 : Int32) else 0) = 0 from if_neg (by decide)]
  refine lv_istore_n (lv' := [(2, .int 0), (0, .ref (sb.2 (20 + k))), (1, .int c0), (3, .int (nI z.2.2.2.length))]) hx hb d_StringLatin1_indexOf_14 rfl hl (by decide) rfl (fun ls hl => ?_)
  refine lv_iload_n hx hb d_StringLatin1_indexOf_15 rfl (lv_at hl 3 rfl) ?_
  refine lv_aload_n hx hb d_StringLatin1_indexOf_16 rfl (lv_at hl 1 rfl) ?_
  refine va_tlen (v := nI z.2.2.2.length) hx hb hks.2.2.2 va_S.rf rfl d_StringLatin1_indexOf_17 ?_
  refine va_mmin hx hb (by rw [hml]; exact hl.1.symm) hown (htb _ q4_25) (htb _ q2_76) (htb _ q1_18) (htb _ q2_77) (Nat.le_of_ble_eq_true rfl) (Nat.le_of_ble_eq_true rfl) (Nat.le_of_ble_eq_true rfl) (Nat.le_of_ble_eq_true rfl) d_StringLatin1_indexOf_18 ?_
  rw [show (if nI z.2.2.2.length < nI z.2.2.2.length then nI z.2.2.2.length else nI z.2.2.2.length) = nI z.2.2.2.length from ite_self _]
  refine lv_istore_n (lv' := [(3, .int (nI z.2.2.2.length)), (2, .int 0), (0, .ref (sb.2 (20 + k))), (1, .int c0)]) hx hb d_StringLatin1_indexOf_21 rfl hl (by decide) rfl (fun ls hl => ?_)
  refine lv_iload_n hx hb d_StringLatin1_indexOf_22 rfl (lv_at hl 1 rfl) ?_
  refine lv_iload_n hx hb d_StringLatin1_indexOf_23 rfl (lv_at hl 0 rfl) ?_
  refine lv_icmp_lt (tgt := 29) hx hb d_StringLatin1_indexOf_24 (by decide) (fun c24 => ?_) (fun c24 => ?_)
  rotate_left
  · exact absurd hpos (by rw [show (0 : Int32) = nI 0 from rfl, nI_ltI (by omega) (by omega)] at c24; exact c24)
  refine lv_aload_n hx hb d_StringLatin1_indexOf_29 rfl (lv_at hl 2 rfl) ?_
  refine lv_iload_n hx hb d_StringLatin1_indexOf_30 rfl (lv_at hl 3 rfl) ?_
  refine lv_iload_n hx hb d_StringLatin1_indexOf_31 rfl (lv_at hl 1 rfl) ?_
  refine lv_iload_n hx hb d_StringLatin1_indexOf_32 rfl (lv_at hl 0 rfl) ?_
  refine vp_callSi (pu_callS (As := [.ref (sb.2 (20 + k)), .int c0, .int 0, .int (nI z.2.2.2.length)]) (rest := []) ⟨hx, hb, hml, hown, hts⟩ tbin (c_L1_indexOfChar l dC dI sb k z c0 hz hn) q4_26 q4_27 q1_25 q4_28 (n := 4) (by decide +kernel) rfl ⟨rfl, rfl⟩ ⟨Nat.le_of_ble_eq_true rfl, Nat.le_of_ble_eq_true rfl⟩ ⟨Nat.le_of_ble_eq_true rfl, Nat.le_of_ble_eq_true rfl⟩ hN hT0 hK hP [] rfl [] rfl hl.1 rfl (Nat.le_of_ble_eq_true rfl) d_StringLatin1_indexOf_33) (fun r33 hr33 => ?_)
  exact W.iret (v := r33) hx hb hr (fun t ht hW => ⟨_, rfl, hr33, ht⟩) (fun q h => by cases h) d_StringLatin1_indexOf_36
def y_String_indexOf1 : MethodName := ⟨"java/lang/String", "indexOf", "(II)I"⟩
abbrev b_String_indexOf1 : ByteArray := prog_26_method_80_code
def w_String_indexOf1 : List Cond := Cond.code y_String_indexOf1 b_String_indexOf1 3 ((some FieldType.int)) :: tb
theorem d_String_indexOf1_0 : decode b_String_indexOf1 0 = .ok (.aload_n 0, 1) := by decide +kernel
theorem d_String_indexOf1_1 : decode b_String_indexOf1 1 = .ok (.invokevirtual 492, 3) := by decide +kernel
theorem d_String_indexOf1_4 : decode b_String_indexOf1 4 = .ok (.ifCond .eq 19, 3) := by decide +kernel
theorem d_String_indexOf1_7 : decode b_String_indexOf1 7 = .ok (.aload_n 0, 1) := by decide +kernel
theorem d_String_indexOf1_8 : decode b_String_indexOf1 8 = .ok (.getfield 9, 3) := by decide +kernel
theorem d_String_indexOf1_11 : decode b_String_indexOf1 11 = .ok (.iload_n 1, 1) := by decide +kernel
theorem d_String_indexOf1_12 : decode b_String_indexOf1 12 = .ok (.iload_n 2, 1) := by decide +kernel
theorem d_String_indexOf1_13 : decode b_String_indexOf1 13 = .ok (.aload_n 0, 1) := by decide +kernel
theorem d_String_indexOf1_14 : decode b_String_indexOf1 14 = .ok (.invokevirtual 505, 3) := by decide +kernel
theorem d_String_indexOf1_17 : decode b_String_indexOf1 17 = .ok (.invokestatic 637, 3) := by decide +kernel
theorem d_String_indexOf1_20 : decode b_String_indexOf1 20 = .ok (.goto 16, 3) := by decide +kernel
theorem d_String_indexOf1_36 : decode b_String_indexOf1 36 = .ok (.ireturn, 1) := by decide +kernel
set_option maxHeartbeats 4000000 in
set_option maxRecDepth 100000 in
theorem c_Str_indexOf2 (l : Launch) (dC : Nat → ClassId) (dI : Nat → Nat → Nat) (sb : sB) (k : Nat) (z : String × Nat × String × List Int32) (c0 : Int32) (hz : kstr[k]? = some z) (hn : z.2.2.2.length < 2 ^ 30) (hpos : 0 < z.2.2.2.length) (hc0 : ¬ c0 < 0 ∧ ¬ 255 < c0) : Met l y_String_indexOf1 w_String_indexOf1 ({ frames := 2, cells := 0, slots := 0, locals := 63 }) (pu_P [.ref (sb.2 (10 + k)), .int c0, .int 0] (dC, dI) sb [] []) (vp_Si (fun r => idxP z.2.2.2 c0.toInt8.toInt32 r)) 0 0 (fun _ => False) := by
  refine Met.ofW (cc := b_String_indexOf1) (maxL := 3) (ret := (some FieldType.int)) (by decide) rfl ?_
  intro p e s m args below meth c s₁ B hml hv
  obtain ⟨rfl, hP, hK, hN, hT0⟩ := hv
  have hx := B.exec
  have hb := B.bytes
  have hr := B.returns
  have hts := atoms_spec (ws := w_String_indexOf1) B.pre
  have tbin : ∀ w ∈ tb, w ∈ w_String_indexOf1 := fun w h => List.mem_cons_of_mem _ h
  have htb : ∀ w ∈ tb, w.before _ s = true := fun w h => hts w (tbin w h)
  have hown : s.vm.findClass "java/lang/String" = some m.cls := findClass_of_methodNamed B.named
  have hlocks := B.notSynchronized
  have hcs : 0 ≤ (headSpec w_String_indexOf1 ({ frames := 2, cells := 0, slots := 0, locals := 63 })).room.cells ∧ 0 ≤ (headSpec w_String_indexOf1 ({ frames := 2, cells := 0, slots := 0, locals := 63 })).room.slots := ⟨Nat.zero_le _, Nat.zero_le _⟩
  have hP : va_P (dC, dI) classes [] s.heap := hP
  have hl := lv_entry ([.ref (sb.2 (10 + k)), .int c0, .int 0]) (n := 3) (Nat.le_of_ble_eq_true rfl)
  rw [lg_entry_eq]
  generalize (lg_sl ([.ref (sb.2 (10 + k)), .int c0, .int 0]) ++ List.replicate (3 - (lg_sl ([.ref (sb.2 (10 + k)), .int c0, .int 0])).length) Slot.unset).toArray = ls at hl ⊢
  have hl : lv_has ls 3 [(0, .ref (sb.2 (10 + k))), (1, .int c0), (2, .int 0)] := hl
  have hks := hT0.2.2.2.2.2.2.1 k z hz
  refine lv_aload_n hx hb d_String_indexOf1_0 rfl (lv_at hl 0 rfl) ?_
  refine vp_callSi (pu_callK (As := []) (rest := []) ⟨hx, hb, hml, hown, hts⟩ tbin (c_Str_isLatin1 l dC dI sb k z hz) q4_2 q4_3 q4_4 q1_24 q4_5 (n := 0) (by decide +kernel) rfl ⟨rfl, rfl⟩ ⟨Nat.le_of_ble_eq_true rfl, Nat.le_of_ble_eq_true rfl⟩ ⟨Nat.le_of_ble_eq_true rfl, Nat.le_of_ble_eq_true rfl⟩ hN hT0 hK hP [] rfl [] rfl (sk_recv hks) hl.1 rfl (Nat.le_of_ble_eq_true rfl) d_String_indexOf1_1) (fun r1 hr1 => ?_)
  subst hr1
  refine lv_if_eq (tgt := 23) hx hb d_String_indexOf1_4 (by decide) (fun c4 => ?_) (fun c4 => ?_)
  · exact absurd c4 (by decide)
  refine lv_aload_n hx hb d_String_indexOf1_7 rfl (lv_at hl 0 rfl) ?_
  refine vk_getf (v := .ref (sb.2 (20 + k))) hx hb hks.2.2.1 va_S.rf hown (htb _ q10_69) (fun _ h9 => h9) d_String_indexOf1_8 ?_
  refine lv_iload_n hx hb d_String_indexOf1_11 rfl (lv_at hl 1 rfl) ?_
  refine lv_iload_n hx hb d_String_indexOf1_12 rfl (lv_at hl 2 rfl) ?_
  refine lv_aload_n hx hb d_String_indexOf1_13 rfl (lv_at hl 0 rfl) ?_
  refine vp_callSi (pu_callK (As := []) (rest := [.int 0, .int c0, .ref (sb.2 (20 + k))]) ⟨hx, hb, hml, hown, hts⟩ tbin (c_Str_length l dC dI sb k z hz) q4_8 q4_9 q4_10 q1_24 q4_11 (n := 0) (by decide +kernel) rfl ⟨rfl, rfl⟩ ⟨Nat.le_of_ble_eq_true rfl, Nat.le_of_ble_eq_true rfl⟩ ⟨Nat.le_of_ble_eq_true rfl, Nat.le_of_ble_eq_true rfl⟩ hN hT0 hK hP [] rfl [] rfl (sk_recv hks) hl.1 rfl (Nat.le_of_ble_eq_true rfl) d_String_indexOf1_14) (fun r14 hr14 => ?_)
  subst hr14
  refine vp_callSi (pu_callS (As := [.ref (sb.2 (20 + k)), .int c0, .int 0, .int (nI z.2.2.2.length)]) (rest := []) ⟨hx, hb, hml, hown, hts⟩ tbin (c_L1_indexOf l dC dI sb k z c0 hz hn hpos hc0) q4_16 q4_17 q1_25 q4_18 (n := 4) (by decide +kernel) rfl ⟨rfl, rfl⟩ ⟨Nat.le_of_ble_eq_true rfl, Nat.le_of_ble_eq_true rfl⟩ ⟨Nat.le_of_ble_eq_true rfl, Nat.le_of_ble_eq_true rfl⟩ hN hT0 hK hP [] rfl [] rfl hl.1 rfl (Nat.le_of_ble_eq_true rfl) d_String_indexOf1_17) (fun r17 hr17 => ?_)
  refine lv_goto (tgt := 36) hx hb d_String_indexOf1_20 (by decide) ?_
  exact W.iret (v := r17) hx hb hr (fun t ht hW => ⟨_, rfl, hr17, ht⟩) (fun q h => by cases h) d_String_indexOf1_36
def y_String_indexOf0 : MethodName := ⟨"java/lang/String", "indexOf", "(I)I"⟩
abbrev b_String_indexOf0 : ByteArray := prog_26_method_79_code
def w_String_indexOf0 : List Cond := Cond.code y_String_indexOf0 b_String_indexOf0 2 ((some FieldType.int)) :: tb
theorem d_String_indexOf0_0 : decode b_String_indexOf0 0 = .ok (.aload_n 0, 1) := by decide +kernel
theorem d_String_indexOf0_1 : decode b_String_indexOf0 1 = .ok (.iload_n 1, 1) := by decide +kernel
theorem d_String_indexOf0_2 : decode b_String_indexOf0 2 = .ok (.iconst 0, 1) := by decide +kernel
theorem d_String_indexOf0_3 : decode b_String_indexOf0 3 = .ok (.invokevirtual 633, 3) := by decide +kernel
theorem d_String_indexOf0_6 : decode b_String_indexOf0 6 = .ok (.ireturn, 1) := by decide +kernel
set_option maxHeartbeats 4000000 in
set_option maxRecDepth 100000 in
theorem c_Str_indexOf (l : Launch) (dC : Nat → ClassId) (dI : Nat → Nat → Nat) (sb : sB) (k : Nat) (z : String × Nat × String × List Int32) (c0 : Int32) (hz : kstr[k]? = some z) (hn : z.2.2.2.length < 2 ^ 30) (hpos : 0 < z.2.2.2.length) (hc0 : ¬ c0 < 0 ∧ ¬ 255 < c0) : Met l y_String_indexOf0 w_String_indexOf0 ({ frames := 3, cells := 0, slots := 0, locals := 90 }) (pu_P [.ref (sb.2 (10 + k)), .int c0] (dC, dI) sb [] []) (vp_Si (fun r => idxP z.2.2.2 c0.toInt8.toInt32 r)) 0 0 (fun _ => False) := by
  refine Met.ofW (cc := b_String_indexOf0) (maxL := 2) (ret := (some FieldType.int)) (by decide) rfl ?_
  intro p e s m args below meth c s₁ B hml hv
  obtain ⟨rfl, hP, hK, hN, hT0⟩ := hv
  have hx := B.exec
  have hb := B.bytes
  have hr := B.returns
  have hts := atoms_spec (ws := w_String_indexOf0) B.pre
  have tbin : ∀ w ∈ tb, w ∈ w_String_indexOf0 := fun w h => List.mem_cons_of_mem _ h
  have htb : ∀ w ∈ tb, w.before _ s = true := fun w h => hts w (tbin w h)
  have hown : s.vm.findClass "java/lang/String" = some m.cls := findClass_of_methodNamed B.named
  have hlocks := B.notSynchronized
  have hcs : 0 ≤ (headSpec w_String_indexOf0 ({ frames := 3, cells := 0, slots := 0, locals := 90 })).room.cells ∧ 0 ≤ (headSpec w_String_indexOf0 ({ frames := 3, cells := 0, slots := 0, locals := 90 })).room.slots := ⟨Nat.zero_le _, Nat.zero_le _⟩
  have hP : va_P (dC, dI) classes [] s.heap := hP
  have hl := lv_entry ([.ref (sb.2 (10 + k)), .int c0]) (n := 2) (Nat.le_of_ble_eq_true rfl)
  rw [lg_entry_eq]
  generalize (lg_sl ([.ref (sb.2 (10 + k)), .int c0]) ++ List.replicate (2 - (lg_sl ([.ref (sb.2 (10 + k)), .int c0])).length) Slot.unset).toArray = ls at hl ⊢
  have hl : lv_has ls 2 [(0, .ref (sb.2 (10 + k))), (1, .int c0)] := hl
  have hks := hT0.2.2.2.2.2.2.1 k z hz
  refine lv_aload_n hx hb d_String_indexOf0_0 rfl (lv_at hl 0 rfl) ?_
  refine lv_iload_n hx hb d_String_indexOf0_1 rfl (lv_at hl 1 rfl) ?_
  refine lv_iconst (v := 0) hx hb d_String_indexOf0_2 (by decide) ?_
  refine vp_callSi (pu_callK (As := [.int c0, .int 0]) (rest := []) ⟨hx, hb, hml, hown, hts⟩ tbin (c_Str_indexOf2 l dC dI sb k z c0 hz hn hpos hc0) q3_238 q3_239 q4_0 q1_24 q4_1 (n := 2) (by decide +kernel) rfl ⟨rfl, rfl⟩ ⟨Nat.le_of_ble_eq_true rfl, Nat.le_of_ble_eq_true rfl⟩ ⟨Nat.le_of_ble_eq_true rfl, Nat.le_of_ble_eq_true rfl⟩ hN hT0 hK hP [] rfl [] rfl (sk_recv hks) hl.1 rfl (Nat.le_of_ble_eq_true rfl) d_String_indexOf0_3) (fun r3 hr3 => ?_)
  exact W.iret (v := r3) hx hb hr (fun t ht hW => ⟨_, rfl, hr3, ht⟩) (fun q h => by cases h) d_String_indexOf0_6
/-- PRINTABLE's octets -/
def prN (v : Nat) : Prop := (65 ≤ v ∧ v ≤ 90) ∨ (97 ≤ v ∧ v ≤ 122) ∨ (48 ≤ v ∧ v ≤ 57) ∨ v ∈ [32, 39, 40, 41, 43, 44, 45, 46, 47, 58, 61, 63]
def ksP : List Int32 := [32, 39, 40, 41, 43, 44, 45, 46, 47, 58, 61, 63]
theorem pr_in : ∀ v, v < 256 → (∃ j, j < 12 ∧ ksP.getD j 0 = (nI v).toInt8.toInt32) → v ∈ [32, 39, 40, 41, 43, 44, 45, 46, 47, 58, 61, 63] := by decide +kernel
theorem pr_no : ∀ v, v < 256 → v ∈ [32, 39, 40, 41, 43, 44, 45, 46, 47, 58, 61, 63] → ∃ j, j < 12 ∧ ksP.getD j 0 = (nI v).toInt8.toInt32 := by decide +kernel
theorem i2c_nI : ∀ v, v < 256 → ((nI v).toUInt32 % 65536).toInt32 = nI v := by decide +kernel
theorem pr_idx {v : Nat} (hv : v < 256) {r : Int32} (h : idxP ksP ((nI v).toInt8.toInt32) r) : (¬ r < 0 → prN v) ∧ (r < 0 → v ∉ [32, 39, 40, 41, 43, 44, 45, 46, 47, 58, 61, 63]) := by
  rcases h with ⟨h1, h2⟩ | ⟨j, h1, h2, h3⟩
  · subst h1
    exact ⟨fun q => absurd (by decide) q, fun _ q => by obtain ⟨j, a, b⟩ := pr_no v hv q; exact h2 j a b⟩
  · subst h2
    exact ⟨fun _ => Or.inr (Or.inr (Or.inr (pr_in v hv ⟨j, h1, h3⟩))), fun q => absurd q (nI_pos (by have : ksP.length = 12 := rfl; omega))⟩
def y_Reader_isPrintable : MethodName := ⟨"TrustChain$Reader", "isPrintable", "(I)Z"⟩
abbrev b_Reader_isPrintable : ByteArray := prog_8_method_30_code
def w_Reader_isPrintable : List Cond := Cond.code y_Reader_isPrintable b_Reader_isPrintable 3 ((some FieldType.boolean)) :: tb
theorem d_Reader_isPrintable_0 : decode b_Reader_isPrintable 0 = .ok (.iload_n 0, 1) := by decide +kernel
theorem d_Reader_isPrintable_1 : decode b_Reader_isPrintable 1 = .ok (.bipush 65, 2) := by decide +kernel
theorem d_Reader_isPrintable_3 : decode b_Reader_isPrintable 3 = .ok (.if_icmp .lt 9, 3) := by decide +kernel
theorem d_Reader_isPrintable_6 : decode b_Reader_isPrintable 6 = .ok (.iload_n 0, 1) := by decide +kernel
theorem d_Reader_isPrintable_7 : decode b_Reader_isPrintable 7 = .ok (.bipush 90, 2) := by decide +kernel
theorem d_Reader_isPrintable_9 : decode b_Reader_isPrintable 9 = .ok (.if_icmp .le 15, 3) := by decide +kernel
theorem d_Reader_isPrintable_12 : decode b_Reader_isPrintable 12 = .ok (.iload_n 0, 1) := by decide +kernel
theorem d_Reader_isPrintable_13 : decode b_Reader_isPrintable 13 = .ok (.bipush 97, 2) := by decide +kernel
theorem d_Reader_isPrintable_15 : decode b_Reader_isPrintable 15 = .ok (.if_icmp .lt 13, 3) := by decide +kernel
theorem d_Reader_isPrintable_18 : decode b_Reader_isPrintable 18 = .ok (.iload_n 0, 1) := by decide +kernel
theorem d_Reader_isPrintable_19 : decode b_Reader_isPrintable 19 = .ok (.bipush 122, 2) := by decide +kernel
theorem d_Reader_isPrintable_21 : decode b_Reader_isPrintable 21 = .ok (.if_icmp .gt 7, 3) := by decide +kernel
theorem d_Reader_isPrintable_24 : decode b_Reader_isPrintable 24 = .ok (.iconst 1, 1) := by decide +kernel
theorem d_Reader_isPrintable_25 : decode b_Reader_isPrintable 25 = .ok (.goto 4, 3) := by decide +kernel
theorem d_Reader_isPrintable_28 : decode b_Reader_isPrintable 28 = .ok (.iconst 0, 1) := by decide +kernel
theorem d_Reader_isPrintable_29 : decode b_Reader_isPrintable 29 = .ok (.istore_n 1, 1) := by decide +kernel
theorem d_Reader_isPrintable_30 : decode b_Reader_isPrintable 30 = .ok (.iload_n 0, 1) := by decide +kernel
theorem d_Reader_isPrintable_31 : decode b_Reader_isPrintable 31 = .ok (.bipush 48, 2) := by decide +kernel
theorem d_Reader_isPrintable_33 : decode b_Reader_isPrintable 33 = .ok (.if_icmp .lt 13, 3) := by decide +kernel
theorem d_Reader_isPrintable_36 : decode b_Reader_isPrintable 36 = .ok (.iload_n 0, 1) := by decide +kernel
theorem d_Reader_isPrintable_37 : decode b_Reader_isPrintable 37 = .ok (.bipush 57, 2) := by decide +kernel
theorem d_Reader_isPrintable_39 : decode b_Reader_isPrintable 39 = .ok (.if_icmp .gt 7, 3) := by decide +kernel
theorem d_Reader_isPrintable_42 : decode b_Reader_isPrintable 42 = .ok (.iconst 1, 1) := by decide +kernel
theorem d_Reader_isPrintable_43 : decode b_Reader_isPrintable 43 = .ok (.goto 4, 3) := by decide +kernel
theorem d_Reader_isPrintable_46 : decode b_Reader_isPrintable 46 = .ok (.iconst 0, 1) := by decide +kernel
theorem d_Reader_isPrintable_47 : decode b_Reader_isPrintable 47 = .ok (.istore_n 2, 1) := by decide +kernel
theorem d_Reader_isPrintable_48 : decode b_Reader_isPrintable 48 = .ok (.iload_n 1, 1) := by decide +kernel
theorem d_Reader_isPrintable_49 : decode b_Reader_isPrintable 49 = .ok (.ifCond .ne 21, 3) := by decide +kernel
theorem d_Reader_isPrintable_52 : decode b_Reader_isPrintable 52 = .ok (.iload_n 2, 1) := by decide +kernel
theorem d_Reader_isPrintable_53 : decode b_Reader_isPrintable 53 = .ok (.ifCond .ne 17, 3) := by decide +kernel
theorem d_Reader_isPrintable_56 : decode b_Reader_isPrintable 56 = .ok (.iload_n 0, 1) := by decide +kernel
theorem d_Reader_isPrintable_57 : decode b_Reader_isPrintable 57 = .ok (.ifCond .lt 17, 3) := by decide +kernel
theorem d_Reader_isPrintable_60 : decode b_Reader_isPrintable 60 = .ok (.ldc 177, 2) := by decide +kernel
theorem d_Reader_isPrintable_62 : decode b_Reader_isPrintable 62 = .ok (.iload_n 0, 1) := by decide +kernel
theorem d_Reader_isPrintable_63 : decode b_Reader_isPrintable 63 = .ok (.i2c, 1) := by decide +kernel
theorem d_Reader_isPrintable_64 : decode b_Reader_isPrintable 64 = .ok (.invokevirtual 179, 3) := by decide +kernel
theorem d_Reader_isPrintable_67 : decode b_Reader_isPrintable 67 = .ok (.ifCond .lt 7, 3) := by decide +kernel
theorem d_Reader_isPrintable_70 : decode b_Reader_isPrintable 70 = .ok (.iconst 1, 1) := by decide +kernel
theorem d_Reader_isPrintable_71 : decode b_Reader_isPrintable 71 = .ok (.goto 4, 3) := by decide +kernel
theorem d_Reader_isPrintable_74 : decode b_Reader_isPrintable 74 = .ok (.iconst 0, 1) := by decide +kernel
theorem d_Reader_isPrintable_75 : decode b_Reader_isPrintable 75 = .ok (.ireturn, 1) := by decide +kernel
set_option maxHeartbeats 4000000 in
set_option maxRecDepth 100000 in
theorem c_isPrintable (l : Launch) (dC : Nat → ClassId) (dI : Nat → Nat → Nat) (sb : sB) (vo : Nat) (hvo : vo < 256) : Met l y_Reader_isPrintable w_Reader_isPrintable ({ frames := 4, cells := 0, slots := 0, locals := 117 }) (pu_P [.int (nI vo)] (dC, dI) sb [] []) (vp_Si (fun r => bz r (prN vo))) 0 0 (fun _ => False) := by
  refine Met.ofW (cc := b_Reader_isPrintable) (maxL := 3) (ret := (some FieldType.boolean)) (by decide) rfl ?_
  intro p e s m args below meth c s₁ B hml hv
  obtain ⟨rfl, hP, hK, hN, hT0⟩ := hv
  have hx := B.exec
  have hb := B.bytes
  have hr := B.returns
  have hts := atoms_spec (ws := w_Reader_isPrintable) B.pre
  have tbin : ∀ w ∈ tb, w ∈ w_Reader_isPrintable := fun w h => List.mem_cons_of_mem _ h
  have htb : ∀ w ∈ tb, w.before _ s = true := fun w h => hts w (tbin w h)
  have hown : s.vm.findClass "TrustChain$Reader" = some m.cls := findClass_of_methodNamed B.named
  have hlocks := B.notSynchronized
  have hcs : 0 ≤ (headSpec w_Reader_isPrintable ({ frames := 4, cells := 0, slots := 0, locals := 117 })).room.cells ∧ 0 ≤ (headSpec w_Reader_isPrintable ({ frames := 4, cells := 0, slots := 0, locals := 117 })).room.slots := ⟨Nat.zero_le _, Nat.zero_le _⟩
  have hP : va_P (dC, dI) classes [] s.heap := hP
  have hl := lv_entry ([.int (nI vo)]) (n := 3) (Nat.le_of_ble_eq_true rfl)
  rw [lg_entry_eq]
  generalize (lg_sl ([.int (nI vo)]) ++ List.replicate (3 - (lg_sl ([.int (nI vo)])).length) Slot.unset).toArray = ls at hl ⊢
  have hl : lv_has ls 3 [(0, .int (nI vo))] := hl
  refine w_join (J := fun v => bz v ((65 ≤ vo ∧ vo ≤ 90) ∨ (97 ≤ vo ∧ vo ≤ 122))) (pc := 29) (ls := ls) (rest := []) (fun v hv => ?_) (fun k29 => ?_)
  · skip
    refine lv_istore_n (lv' := [(1, .int v), (0, .int (nI vo))]) hx hb d_Reader_isPrintable_29 rfl hl (by decide) rfl (fun ls hl => ?_)
    refine w_join (J := fun v' => bz v' (48 ≤ vo ∧ vo ≤ 57)) (pc := 47) (ls := ls) (rest := []) (fun v' hv' => ?_) (fun k47 => ?_)
    · skip
      refine lv_istore_n (lv' := [(2, .int v'), (1, .int v), (0, .int (nI vo))]) hx hb d_Reader_isPrintable_47 rfl hl (by decide) rfl (fun ls hl => ?_)
      refine w_join (J := fun v'' => bz v'' (prN vo)) (pc := 75) (ls := ls) (rest := []) (fun v'' hv'' => ?_) (fun k75 => ?_)
      · skip
        exact W.zret (v := v'') hx hb hr (bz_n hv'') (fun t ht hW => ⟨_, rfl, hv'', ht⟩) (fun q h => by cases h) d_Reader_isPrintable_75
      · skip
        refine lv_iload_n hx hb d_Reader_isPrintable_48 rfl (lv_at hl 1 rfl) ?_
        refine lv_if_ne (tgt := 70) hx hb d_Reader_isPrintable_49 (by decide) (fun c49 => ?_) (fun c49 => ?_)
        · refine lv_iconst (v := 1) hx hb d_Reader_isPrintable_70 (by decide) ?_
          refine lv_goto (tgt := 75) hx hb d_Reader_isPrintable_71 (by decide) ?_
          exact k75 _ (bz_t ((bz_1 hv c49).elim Or.inl (fun q => Or.inr (Or.inl q))))
        · refine lv_iload_n hx hb d_Reader_isPrintable_52 rfl (lv_at hl 0 rfl) ?_
          refine lv_if_ne (tgt := 70) hx hb d_Reader_isPrintable_53 (by decide) (fun c53 => ?_) (fun c53 => ?_)
          · refine lv_iconst (v := 1) hx hb d_Reader_isPrintable_70 (by decide) ?_
            refine lv_goto (tgt := 75) hx hb d_Reader_isPrintable_71 (by decide) ?_
            exact k75 _ (bz_t (Or.inr (Or.inr (Or.inl (bz_1 hv' c53)))))
          · refine lv_iload_n hx hb d_Reader_isPrintable_56 rfl (lv_at hl 2 rfl) ?_
            refine lv_if_lt (tgt := 74) hx hb d_Reader_isPrintable_57 (by decide) (fun c57 => ?_) (fun c57 => ?_)
            · exact absurd c57 (nI_pos (by omega))
            refine va_ldcS hx hb hown (hN.2 0 _ rfl) d_Reader_isPrintable_60 ?_
            refine lv_iload_n hx hb d_Reader_isPrintable_62 rfl (lv_at hl 2 rfl) ?_
            refine lv_i2c (v := ((nI vo).toUInt32 % 65536).toInt32) hx hb d_Reader_isPrintable_63 rfl ?_
            rw [i2c_nI vo hvo]
            refine vp_callSi (pu_callK (As := [.int (nI vo)]) (rest := []) ⟨hx, hb, hml, hown, hts⟩ tbin (c_Str_indexOf l dC dI sb 0 ("TrustChain$Reader", 177, " '()+,-./:=?", ksP) (nI vo) rfl (by decide) (by decide) ⟨nI_pos (by omega), by rw [show (255 : Int32) = nI 255 from rfl, nI_ltI (by omega) (by omega)]; omega⟩) q3_234 q3_235 q3_236 q1_24 q3_237 (n := 1) (by decide +kernel) rfl ⟨rfl, rfl⟩ ⟨Nat.le_of_ble_eq_true rfl, Nat.le_of_ble_eq_true rfl⟩ ⟨Nat.le_of_ble_eq_true rfl, Nat.le_of_ble_eq_true rfl⟩ hN hT0 hK hP [] rfl [] rfl (sk_recv (hT0.2.2.2.2.2.2.1 0 _ rfl)) hl.1 rfl (Nat.le_of_ble_eq_true rfl) d_Reader_isPrintable_64) (fun r64 hr64 => ?_)
            refine lv_if_lt (tgt := 74) hx hb d_Reader_isPrintable_67 (by decide) (fun c67 => ?_) (fun c67 => ?_)
            · refine lv_iconst (v := 0) hx hb d_Reader_isPrintable_74 (by decide) ?_
              exact k75 _ (bz_f (fun q => q.elim (fun a => bz_0 hv (by first | exact c49 | exact Classical.not_not.mp c49) (Or.inl a)) (fun q => q.elim (fun a => bz_0 hv (by first | exact c49 | exact Classical.not_not.mp c49) (Or.inr a)) (fun q => q.elim (bz_0 hv' (by first | exact c53 | exact Classical.not_not.mp c53)) ((pr_idx hvo hr64).2 c67)))))
            · refine lv_iconst (v := 1) hx hb d_Reader_isPrintable_70 (by decide) ?_
              refine lv_goto (tgt := 75) hx hb d_Reader_isPrintable_71 (by decide) ?_
              exact k75 _ (bz_t ((pr_idx hvo hr64).1 c67))
    · skip
      refine lv_iload_n hx hb d_Reader_isPrintable_30 rfl (lv_at hl 1 rfl) ?_
      refine lv_bipush (v := 48) hx hb d_Reader_isPrintable_31 (by decide) ?_
      refine lv_icmp_lt (tgt := 46) hx hb d_Reader_isPrintable_33 (by decide) (fun c33 => ?_) (fun c33 => ?_)
      · refine lv_iconst (v := 0) hx hb d_Reader_isPrintable_46 (by decide) ?_
        exact k47 _ (by rw [show (48 : Int32) = nI 48 from rfl, nI_ltI (by omega) (by omega)] at c33; exact bz_f (by omega))
      · refine lv_iload_n hx hb d_Reader_isPrintable_36 rfl (lv_at hl 1 rfl) ?_
        refine lv_bipush (v := 57) hx hb d_Reader_isPrintable_37 (by decide) ?_
        refine lv_icmp_gt (tgt := 46) hx hb d_Reader_isPrintable_39 (by decide) (fun c39 => ?_) (fun c39 => ?_)
        · refine lv_iconst (v := 0) hx hb d_Reader_isPrintable_46 (by decide) ?_
          exact k47 _ (by rw [show (48 : Int32) = nI 48 from rfl, nI_ltI (by omega) (by omega)] at c33; rw [show (57 : Int32) = nI 57 from rfl, nI_ltI (by omega) (by omega)] at c39; exact bz_f (by omega))
        · refine lv_iconst (v := 1) hx hb d_Reader_isPrintable_42 (by decide) ?_
          refine lv_goto (tgt := 47) hx hb d_Reader_isPrintable_43 (by decide) ?_
          exact k47 _ (by rw [show (48 : Int32) = nI 48 from rfl, nI_ltI (by omega) (by omega)] at c33; rw [show (57 : Int32) = nI 57 from rfl, nI_ltI (by omega) (by omega)] at c39; exact bz_t (by omega))
  · skip
    refine lv_iload_n hx hb d_Reader_isPrintable_0 rfl (lv_at hl 0 rfl) ?_
    refine lv_bipush (v := 65) hx hb d_Reader_isPrintable_1 (by decide) ?_
    refine lv_icmp_lt (tgt := 12) hx hb d_Reader_isPrintable_3 (by decide) (fun c3 => ?_) (fun c3 => ?_)
    · refine lv_iload_n hx hb d_Reader_isPrintable_12 rfl (lv_at hl 0 rfl) ?_
      refine lv_bipush (v := 97) hx hb d_Reader_isPrintable_13 (by decide) ?_
      refine lv_icmp_lt (tgt := 28) hx hb d_Reader_isPrintable_15 (by decide) (fun c15 => ?_) (fun c15 => ?_)
      · refine lv_iconst (v := 0) hx hb d_Reader_isPrintable_28 (by decide) ?_
        exact k29 _ (by rw [show (65 : Int32) = nI 65 from rfl, nI_ltI (by omega) (by omega)] at c3; rw [show (97 : Int32) = nI 97 from rfl, nI_ltI (by omega) (by omega)] at c15; exact bz_f (by omega))
      · refine lv_iload_n hx hb d_Reader_isPrintable_18 rfl (lv_at hl 0 rfl) ?_
        refine lv_bipush (v := 122) hx hb d_Reader_isPrintable_19 (by decide) ?_
        refine lv_icmp_gt (tgt := 28) hx hb d_Reader_isPrintable_21 (by decide) (fun c21 => ?_) (fun c21 => ?_)
        · refine lv_iconst (v := 0) hx hb d_Reader_isPrintable_28 (by decide) ?_
          exact k29 _ (by rw [show (65 : Int32) = nI 65 from rfl, nI_ltI (by omega) (by omega)] at c3; rw [show (97 : Int32) = nI 97 from rfl, nI_ltI (by omega) (by omega)] at c15; rw [show (122 : Int32) = nI 122 from rfl, nI_ltI (by omega) (by omega)] at c21; exact bz_f (by omega))
        · refine lv_iconst (v := 1) hx hb d_Reader_isPrintable_24 (by decide) ?_
          refine lv_goto (tgt := 29) hx hb d_Reader_isPrintable_25 (by decide) ?_
          exact k29 _ (by rw [show (65 : Int32) = nI 65 from rfl, nI_ltI (by omega) (by omega)] at c3; rw [show (97 : Int32) = nI 97 from rfl, nI_ltI (by omega) (by omega)] at c15; rw [show (122 : Int32) = nI 122 from rfl, nI_ltI (by omega) (by omega)] at c21; exact bz_t (by omega))
    · refine lv_iload_n hx hb d_Reader_isPrintable_6 rfl (lv_at hl 0 rfl) ?_
      refine lv_bipush (v := 90) hx hb d_Reader_isPrintable_7 (by decide) ?_
      refine lv_icmp_le (tgt := 24) hx hb d_Reader_isPrintable_9 (by decide) (fun c9 => ?_) (fun c9 => ?_)
      · refine lv_iconst (v := 1) hx hb d_Reader_isPrintable_24 (by decide) ?_
        refine lv_goto (tgt := 29) hx hb d_Reader_isPrintable_25 (by decide) ?_
        exact k29 _ (by rw [show (65 : Int32) = nI 65 from rfl, nI_ltI (by omega) (by omega)] at c3; rw [show (90 : Int32) = nI 90 from rfl, nI_leI (by omega) (by omega)] at c9; exact bz_t (by omega))
      · refine lv_iload_n hx hb d_Reader_isPrintable_12 rfl (lv_at hl 0 rfl) ?_
        refine lv_bipush (v := 97) hx hb d_Reader_isPrintable_13 (by decide) ?_
        refine lv_icmp_lt (tgt := 28) hx hb d_Reader_isPrintable_15 (by decide) (fun c15 => ?_) (fun c15 => ?_)
        · refine lv_iconst (v := 0) hx hb d_Reader_isPrintable_28 (by decide) ?_
          exact k29 _ (by rw [show (65 : Int32) = nI 65 from rfl, nI_ltI (by omega) (by omega)] at c3; rw [show (90 : Int32) = nI 90 from rfl, nI_leI (by omega) (by omega)] at c9; rw [show (97 : Int32) = nI 97 from rfl, nI_ltI (by omega) (by omega)] at c15; exact bz_f (by omega))
        · refine lv_iload_n hx hb d_Reader_isPrintable_18 rfl (lv_at hl 0 rfl) ?_
          refine lv_bipush (v := 122) hx hb d_Reader_isPrintable_19 (by decide) ?_
          refine lv_icmp_gt (tgt := 28) hx hb d_Reader_isPrintable_21 (by decide) (fun c21 => ?_) (fun c21 => ?_)
          · refine lv_iconst (v := 0) hx hb d_Reader_isPrintable_28 (by decide) ?_
            exact k29 _ (by rw [show (65 : Int32) = nI 65 from rfl, nI_ltI (by omega) (by omega)] at c3; rw [show (90 : Int32) = nI 90 from rfl, nI_leI (by omega) (by omega)] at c9; rw [show (97 : Int32) = nI 97 from rfl, nI_ltI (by omega) (by omega)] at c15; rw [show (122 : Int32) = nI 122 from rfl, nI_ltI (by omega) (by omega)] at c21; exact bz_f (by omega))
          · refine lv_iconst (v := 1) hx hb d_Reader_isPrintable_24 (by decide) ?_
            refine lv_goto (tgt := 29) hx hb d_Reader_isPrintable_25 (by decide) ?_
            exact k29 _ (by rw [show (65 : Int32) = nI 65 from rfl, nI_ltI (by omega) (by omega)] at c3; rw [show (90 : Int32) = nI 90 from rfl, nI_leI (by omega) (by omega)] at c9; rw [show (97 : Int32) = nI 97 from rfl, nI_ltI (by omega) (by omega)] at c15; rw [show (122 : Int32) = nI 122 from rfl, nI_ltI (by omega) (by omega)] at c21; exact bz_t (by omega))
def y_Reader_isSimple : MethodName := ⟨"TrustChain$Reader", "isSimple", "(III)Z"⟩
abbrev b_Reader_isSimple : ByteArray := prog_8_method_29_code
def w_Reader_isSimple : List Cond := Cond.code y_Reader_isSimple b_Reader_isSimple 5 ((some FieldType.boolean)) :: tb
theorem d_Reader_isSimple_0 : decode b_Reader_isSimple 0 = .ok (.iload_n 2, 1) := by decide +kernel
theorem d_Reader_isSimple_1 : decode b_Reader_isSimple 1 = .ok (.istore 4, 2) := by decide +kernel
theorem d_Reader_isSimple_3 : decode b_Reader_isSimple 3 = .ok (.iload 4, 2) := by decide +kernel
theorem d_Reader_isSimple_5 : decode b_Reader_isSimple 5 = .ok (.iload_n 3, 1) := by decide +kernel
theorem d_Reader_isSimple_6 : decode b_Reader_isSimple 6 = .ok (.if_icmp .ge 44, 3) := by decide +kernel
theorem d_Reader_isSimple_9 : decode b_Reader_isSimple 9 = .ok (.iload_n 1, 1) := by decide +kernel
theorem d_Reader_isSimple_10 : decode b_Reader_isSimple 10 = .ok (.bipush 19, 2) := by decide +kernel
theorem d_Reader_isSimple_12 : decode b_Reader_isSimple 12 = .ok (.if_icmp .ne 18, 3) := by decide +kernel
theorem d_Reader_isSimple_15 : decode b_Reader_isSimple 15 = .ok (.aload_n 0, 1) := by decide +kernel
theorem d_Reader_isSimple_16 : decode b_Reader_isSimple 16 = .ok (.iload 4, 2) := by decide +kernel
theorem d_Reader_isSimple_18 : decode b_Reader_isSimple 18 = .ok (.invokevirtual 54, 3) := by decide +kernel
theorem d_Reader_isSimple_21 : decode b_Reader_isSimple 21 = .ok (.invokestatic 174, 3) := by decide +kernel
theorem d_Reader_isSimple_24 : decode b_Reader_isSimple 24 = .ok (.ifCond .ne 20, 3) := by decide +kernel
theorem d_Reader_isSimple_27 : decode b_Reader_isSimple 27 = .ok (.goto 15, 3) := by decide +kernel
theorem d_Reader_isSimple_30 : decode b_Reader_isSimple 30 = .ok (.aload_n 0, 1) := by decide +kernel
theorem d_Reader_isSimple_31 : decode b_Reader_isSimple 31 = .ok (.iload 4, 2) := by decide +kernel
theorem d_Reader_isSimple_33 : decode b_Reader_isSimple 33 = .ok (.invokevirtual 54, 3) := by decide +kernel
theorem d_Reader_isSimple_36 : decode b_Reader_isSimple 36 = .ok (.sipush 128, 3) := by decide +kernel
theorem d_Reader_isSimple_39 : decode b_Reader_isSimple 39 = .ok (.if_icmp .lt 5, 3) := by decide +kernel
theorem d_Reader_isSimple_42 : decode b_Reader_isSimple 42 = .ok (.iconst 0, 1) := by decide +kernel
theorem d_Reader_isSimple_43 : decode b_Reader_isSimple 43 = .ok (.ireturn, 1) := by decide +kernel
theorem d_Reader_isSimple_44 : decode b_Reader_isSimple 44 = .ok (.iinc 4 1, 3) := by decide +kernel
theorem d_Reader_isSimple_47 : decode b_Reader_isSimple 47 = .ok (.goto (-44), 3) := by decide +kernel
theorem d_Reader_isSimple_50 : decode b_Reader_isSimple 50 = .ok (.iconst 1, 1) := by decide +kernel
theorem d_Reader_isSimple_51 : decode b_Reader_isSimple 51 = .ok (.ireturn, 1) := by decide +kernel
def smOK (u : Nat → Nat) (tg k : Nat) : Prop := (tg = 19 → prN (u k)) ∧ (tg ≠ 19 → u k < 128)
def smN (u : Nat → Nat) (tg a b : Nat) : Prop := ∀ k, a ≤ k → k < b → smOK u tg k
set_option maxHeartbeats 4000000 in
set_option maxRecDepth 100000 in
theorem cC_isSimple (l : Launch) (dC : Nat → ClassId) (dI : Nat → Nat → Nat) (sb : sB) (h res t no ki : Nat) (pp s0 n : Nat) (w : Option Nat) (pa ma ex ie : Int32) (cB : ClassId) (u : Nat → Nat) (tg a b : Nat) (hu : ∀ j, u j < 256) (hn : n < 2 ^ 30) (hab : a ≤ b) (hb2 : b ≤ n) (hg : tg < 256) : Met l y_Reader_isSimple w_Reader_isSimple ({ frames := 5, cells := 0, slots := 0, locals := 150 }) (pu_P [.ref h, .int (nI tg), .int (nI a), .int (nI b)] (dC, dI) sb [(h, .inr (4, [.ref res, .ref t, .ref no, .int (nI pp), .int (nI s0), .int (wI w), .int pa, .int ma, .int ex, .ref ki])), (t, .inl (cB, n, .inl (tx u)))] [(cB, .byte)]) (vp_Si (fun r => bz r (smN u tg a b))) 0 0 (fun _ => False) := by
  refine Met.ofW (cc := b_Reader_isSimple) (maxL := 5) (ret := (some FieldType.boolean)) (by decide) rfl ?_
  intro p e s m args below meth c s₁ B hml hv
  obtain ⟨rfl, hP, hK, hN, hT0⟩ := hv
  have hx := B.exec
  have hb := B.bytes
  have hr := B.returns
  have hts := atoms_spec (ws := w_Reader_isSimple) B.pre
  have tbin : ∀ w ∈ tb, w ∈ w_Reader_isSimple := fun w h => List.mem_cons_of_mem _ h
  have htb : ∀ w ∈ tb, w.before _ s = true := fun w h => hts w (tbin w h)
  have hown : s.vm.findClass "TrustChain$Reader" = some m.cls := findClass_of_methodNamed B.named
  have hlocks := B.notSynchronized
  have hcs : 0 ≤ (headSpec w_Reader_isSimple ({ frames := 5, cells := 0, slots := 0, locals := 150 })).room.cells ∧ 0 ≤ (headSpec w_Reader_isSimple ({ frames := 5, cells := 0, slots := 0, locals := 150 })).room.slots := ⟨Nat.zero_le _, Nat.zero_le _⟩
  have hP : va_P (dC, dI) classes [(h, .inr (4, [.ref res, .ref t, .ref no, .int (nI pp), .int (nI s0), .int (wI w), .int pa, .int ma, .int ex, .ref ki])), (t, .inl (cB, n, .inl (tx u)))] s.heap := hP
  have hl := lv_entry ([.ref h, .int (nI tg), .int (nI a), .int (nI b)]) (n := 5) (Nat.le_of_ble_eq_true rfl)
  rw [lg_entry_eq]
  generalize (lg_sl ([.ref h, .int (nI tg), .int (nI a), .int (nI b)]) ++ List.replicate (5 - (lg_sl ([.ref h, .int (nI tg), .int (nI a), .int (nI b)])).length) Slot.unset).toArray = ls at hl ⊢
  have hl : lv_has ls 5 [(0, .ref h), (1, .int (nI tg)), (2, .int (nI a)), (3, .int (nI b))] := hl
  refine lv_iload_n hx hb d_Reader_isSimple_0 rfl (lv_at hl 2 rfl) ?_
  refine lv_istore (lv' := [(4, .int (nI a)), (0, .ref h), (1, .int (nI tg)), (2, .int (nI a)), (3, .int (nI b))]) hx hb d_Reader_isSimple_1 hl (by decide) rfl (fun ls hl => ?_)
  refine w_loop (α := Nat) (fun k => a ≤ k ∧ k ≤ b ∧ smN u tg a k) (fun k => b - k) (fun k => [(0, .ref h), (1, .int (nI tg)), (2, .int (nI a)), (3, .int (nI b)), (4, .int (nI k))]) (fun _ => []) 5 3 (fun k ls hJ hl ih => ?_) a ls (⟨Nat.le_refl _, hab, fun j h1 h2 => absurd h2 (by omega)⟩) (lv_sub hl [1, 2, 3, 4, 0] rfl)
  refine lv_iload hx hb d_Reader_isSimple_3 (lv_at hl 4 rfl) ?_
  refine lv_iload_n hx hb d_Reader_isSimple_5 rfl (lv_at hl 3 rfl) ?_
  refine lv_icmp_ge (tgt := 50) hx hb d_Reader_isSimple_6 (by decide) (fun c6 => ?_) (fun c6 => ?_)
  · have hke : k = b := by rw [nI_leI (by omega) (by omega)] at c6; omega
    refine lv_iconst (v := 1) hx hb d_Reader_isSimple_50 (by decide) ?_
    exact W.zret (v := 1) hx hb hr (by decide) (fun t ht hW => ⟨_, rfl, bz_t (hke ▸ hJ.2.2), ht⟩) (fun q h => by cases h) d_Reader_isSimple_51
  · have hlt : k < b := by rw [nI_leI (by omega) (by omega)] at c6; omega
    refine lv_iload_n hx hb d_Reader_isSimple_9 rfl (lv_at hl 1 rfl) ?_
    refine lv_bipush (v := 19) hx hb d_Reader_isSimple_10 (by decide) ?_
    refine lv_icmp_ne (tgt := 30) hx hb d_Reader_isSimple_12 (by decide) (fun c12 => ?_) (fun c12 => ?_)
    · refine lv_aload_n hx hb d_Reader_isSimple_30 rfl (lv_at hl 0 rfl) ?_
      refine lv_iload hx hb d_Reader_isSimple_31 (lv_at hl 4 rfl) ?_
      refine vp_callSi (pu_callU (As := [.int (nI k)]) (rest := []) ⟨hx, hb, hml, hown, hts⟩ (cC_octet l dC dI sb h res t no ki pp s0 n w pa ma ex ie cB u (nI k) hu hn) (cu_of (n := 1) hts tbin q3_122 q3_124 q3_123 q3_125 q1_15 q3_127 rfl (by decide +kernel) ⟨rfl, rfl⟩ ⟨Nat.le_of_ble_eq_true rfl, Nat.le_of_ble_eq_true rfl⟩) rfl ⟨Nat.le_of_ble_eq_true rfl, Nat.le_of_ble_eq_true rfl⟩ hN hT0 hK hP [0, 1] rfl [0] rfl 0 4 rfl rfl rfl hl.1 rfl (Nat.le_of_ble_eq_true rfl) d_Reader_isSimple_33) (fun r33 hr33 => ?_)
      rw [oc_eq (by omega), oc, if_pos (by omega)] at hr33
      subst hr33
      refine lv_sipush (v := 128) hx hb d_Reader_isSimple_36 (by decide) ?_
      refine lv_icmp_lt (tgt := 44) hx hb d_Reader_isSimple_39 (by decide) (fun c39 => ?_) (fun c39 => ?_)
      · refine lv_iinc (v := nI (k + 1)) (lv' := [(4, .int (nI (k + 1))), (0, .ref h), (1, .int (nI tg)), (2, .int (nI a)), (3, .int (nI b))]) hx hb d_Reader_isSimple_44 hl (k := 4) rfl (nI_1 _) (by decide) rfl (fun ls hl => ?_)
        refine lv_goto (tgt := 3) hx hb d_Reader_isSimple_47 (by decide) ?_
        exact ih (k + 1) ls (by omega) (⟨by omega, by omega, fun j h1 h2 => (Nat.lt_succ_iff_lt_or_eq.mp h2).elim (hJ.2.2 j h1) (fun q => by rw [q]; exact ⟨fun q => absurd q (fun q9 => c12 (by rw [q9]; rfl)), fun _ => (by have h9 := c39; rw [show (128 : Int32) = nI 128 from rfl, nI_ltI (by have := hu k; omega) (by omega)] at h9; omega)⟩)⟩) (lv_sub hl [1, 2, 3, 4, 0] rfl)
      · refine lv_iconst (v := 0) hx hb d_Reader_isSimple_42 (by decide) ?_
        exact W.zret (v := 0) hx hb hr (by decide) (fun t ht hW => ⟨_, rfl, bz_f (fun q => absurd ((q k hJ.1 hlt).2 (fun q9 => c12 (by rw [q9]; rfl))) (by have h9 := c39; rw [show (128 : Int32) = nI 128 from rfl, nI_ltI (by have := hu k; omega) (by omega)] at h9; omega)), ht⟩) (fun q h => by cases h) d_Reader_isSimple_43
    · refine lv_aload_n hx hb d_Reader_isSimple_15 rfl (lv_at hl 0 rfl) ?_
      refine lv_iload hx hb d_Reader_isSimple_16 (lv_at hl 4 rfl) ?_
      refine vp_callSi (pu_callU (As := [.int (nI k)]) (rest := []) ⟨hx, hb, hml, hown, hts⟩ (cC_octet l dC dI sb h res t no ki pp s0 n w pa ma ex ie cB u (nI k) hu hn) (cu_of (n := 1) hts tbin q3_122 q3_124 q3_123 q3_125 q1_15 q3_127 rfl (by decide +kernel) ⟨rfl, rfl⟩ ⟨Nat.le_of_ble_eq_true rfl, Nat.le_of_ble_eq_true rfl⟩) rfl ⟨Nat.le_of_ble_eq_true rfl, Nat.le_of_ble_eq_true rfl⟩ hN hT0 hK hP [0, 1] rfl [0] rfl 0 4 rfl rfl rfl hl.1 rfl (Nat.le_of_ble_eq_true rfl) d_Reader_isSimple_18) (fun r18 hr18 => ?_)
      rw [oc_eq (by omega), oc, if_pos (by omega)] at hr18
      subst hr18
      refine vp_callSi (pu_callS (As := [.int (nI (u k))]) (rest := []) ⟨hx, hb, hml, hown, hts⟩ tbin (c_isPrintable l dC dI sb (u k) (hu k)) q3_230 q3_231 q1_15 q3_232 (n := 1) (by decide +kernel) rfl ⟨rfl, rfl⟩ ⟨Nat.le_of_ble_eq_true rfl, Nat.le_of_ble_eq_true rfl⟩ ⟨Nat.le_of_ble_eq_true rfl, Nat.le_of_ble_eq_true rfl⟩ hN hT0 hK hP [] rfl [] rfl hl.1 rfl (Nat.le_of_ble_eq_true rfl) d_Reader_isSimple_21) (fun r21 hr21 => ?_)
      refine lv_if_ne (tgt := 44) hx hb d_Reader_isSimple_24 (by decide) (fun c24 => ?_) (fun c24 => ?_)
      · refine lv_iinc (v := nI (k + 1)) (lv' := [(4, .int (nI (k + 1))), (0, .ref h), (1, .int (nI tg)), (2, .int (nI a)), (3, .int (nI b))]) hx hb d_Reader_isSimple_44 hl (k := 4) rfl (nI_1 _) (by decide) rfl (fun ls hl => ?_)
        refine lv_goto (tgt := 3) hx hb d_Reader_isSimple_47 (by decide) ?_
        exact ih (k + 1) ls (by omega) (⟨by omega, by omega, fun j h1 h2 => (Nat.lt_succ_iff_lt_or_eq.mp h2).elim (hJ.2.2 j h1) (fun q => by rw [q]; exact ⟨fun _ => bz_1 hr21 c24, fun q => absurd (show tg = 19 from by have h9 := (show nI tg = 19 from by first | exact c12 | exact Classical.not_not.mp c12); rw [show (19 : Int32) = nI 19 from rfl, nI_eq (by omega) (by omega)] at h9; exact h9) q⟩)⟩) (lv_sub hl [1, 2, 3, 4, 0] rfl)
      · refine lv_goto (tgt := 42) hx hb d_Reader_isSimple_27 (by decide) ?_
        refine lv_iconst (v := 0) hx hb d_Reader_isSimple_42 (by decide) ?_
        exact W.zret (v := 0) hx hb hr (by decide) (fun t ht hW => ⟨_, rfl, bz_f (fun q => (bz_0 hr21 (by first | exact c24 | exact Classical.not_not.mp c24)) ((q k hJ.1 hlt).1 (show tg = 19 from by have h9 := (show nI tg = 19 from by first | exact c12 | exact Classical.not_not.mp c12); rw [show (19 : Int32) = nI 19 from rfl, nI_eq (by omega) (by omega)] at h9; exact h9))), ht⟩) (fun q h => by cases h) d_Reader_isSimple_43
set_option maxHeartbeats 4000000 in
set_option maxRecDepth 100000 in
theorem cL_isSimple (l : Launch) (dC : Nat → ClassId) (dI : Nat → Nat → Nat) (sb : sB) (h res t no ki : Nat) (pp s0 n : Nat) (w : Option Nat) (pa ma ex ie : Int32) (cB : ClassId) (u : Nat → Nat) (tg a b : Nat) (hu : ∀ j, u j < 256) (hn : n < 2 ^ 30) (hab : a ≤ b) (hb2 : b ≤ n) (hg : tg < 256) : Met l y_Reader_isSimple w_Reader_isSimple ({ frames := 5, cells := 0, slots := 0, locals := 150 }) (pu_P [.ref h, .int (nI tg), .int (nI a), .int (nI b)] (dC, dI) sb [(h, .inr (5, [.ref res, .int ie, .ref t, .ref no, .int (nI pp), .int (nI s0), .int (wI w), .int pa, .int ma, .int ex, .ref ki])), (t, .inl (cB, n, .inl (tx u)))] [(cB, .byte)]) (vp_Si (fun r => bz r (smN u tg a b))) 0 0 (fun _ => False) := by
  refine Met.ofW (cc := b_Reader_isSimple) (maxL := 5) (ret := (some FieldType.boolean)) (by decide) rfl ?_
  intro p e s m args below meth c s₁ B hml hv
  obtain ⟨rfl, hP, hK, hN, hT0⟩ := hv
  have hx := B.exec
  have hb := B.bytes
  have hr := B.returns
  have hts := atoms_spec (ws := w_Reader_isSimple) B.pre
  have tbin : ∀ w ∈ tb, w ∈ w_Reader_isSimple := fun w h => List.mem_cons_of_mem _ h
  have htb : ∀ w ∈ tb, w.before _ s = true := fun w h => hts w (tbin w h)
  have hown : s.vm.findClass "TrustChain$Reader" = some m.cls := findClass_of_methodNamed B.named
  have hlocks := B.notSynchronized
  have hcs : 0 ≤ (headSpec w_Reader_isSimple ({ frames := 5, cells := 0, slots := 0, locals := 150 })).room.cells ∧ 0 ≤ (headSpec w_Reader_isSimple ({ frames := 5, cells := 0, slots := 0, locals := 150 })).room.slots := ⟨Nat.zero_le _, Nat.zero_le _⟩
  have hP : va_P (dC, dI) classes [(h, .inr (5, [.ref res, .int ie, .ref t, .ref no, .int (nI pp), .int (nI s0), .int (wI w), .int pa, .int ma, .int ex, .ref ki])), (t, .inl (cB, n, .inl (tx u)))] s.heap := hP
  have hl := lv_entry ([.ref h, .int (nI tg), .int (nI a), .int (nI b)]) (n := 5) (Nat.le_of_ble_eq_true rfl)
  rw [lg_entry_eq]
  generalize (lg_sl ([.ref h, .int (nI tg), .int (nI a), .int (nI b)]) ++ List.replicate (5 - (lg_sl ([.ref h, .int (nI tg), .int (nI a), .int (nI b)])).length) Slot.unset).toArray = ls at hl ⊢
  have hl : lv_has ls 5 [(0, .ref h), (1, .int (nI tg)), (2, .int (nI a)), (3, .int (nI b))] := hl
  refine lv_iload_n hx hb d_Reader_isSimple_0 rfl (lv_at hl 2 rfl) ?_
  refine lv_istore (lv' := [(4, .int (nI a)), (0, .ref h), (1, .int (nI tg)), (2, .int (nI a)), (3, .int (nI b))]) hx hb d_Reader_isSimple_1 hl (by decide) rfl (fun ls hl => ?_)
  refine w_loop (α := Nat) (fun k => a ≤ k ∧ k ≤ b ∧ smN u tg a k) (fun k => b - k) (fun k => [(0, .ref h), (1, .int (nI tg)), (2, .int (nI a)), (3, .int (nI b)), (4, .int (nI k))]) (fun _ => []) 5 3 (fun k ls hJ hl ih => ?_) a ls (⟨Nat.le_refl _, hab, fun j h1 h2 => absurd h2 (by omega)⟩) (lv_sub hl [1, 2, 3, 4, 0] rfl)
  refine lv_iload hx hb d_Reader_isSimple_3 (lv_at hl 4 rfl) ?_
  refine lv_iload_n hx hb d_Reader_isSimple_5 rfl (lv_at hl 3 rfl) ?_
  refine lv_icmp_ge (tgt := 50) hx hb d_Reader_isSimple_6 (by decide) (fun c6 => ?_) (fun c6 => ?_)
  · have hke : k = b := by rw [nI_leI (by omega) (by omega)] at c6; omega
    refine lv_iconst (v := 1) hx hb d_Reader_isSimple_50 (by decide) ?_
    exact W.zret (v := 1) hx hb hr (by decide) (fun t ht hW => ⟨_, rfl, bz_t (hke ▸ hJ.2.2), ht⟩) (fun q h => by cases h) d_Reader_isSimple_51
  · have hlt : k < b := by rw [nI_leI (by omega) (by omega)] at c6; omega
    refine lv_iload_n hx hb d_Reader_isSimple_9 rfl (lv_at hl 1 rfl) ?_
    refine lv_bipush (v := 19) hx hb d_Reader_isSimple_10 (by decide) ?_
    refine lv_icmp_ne (tgt := 30) hx hb d_Reader_isSimple_12 (by decide) (fun c12 => ?_) (fun c12 => ?_)
    · refine lv_aload_n hx hb d_Reader_isSimple_30 rfl (lv_at hl 0 rfl) ?_
      refine lv_iload hx hb d_Reader_isSimple_31 (lv_at hl 4 rfl) ?_
      refine vp_callSi (pu_callU (As := [.int (nI k)]) (rest := []) ⟨hx, hb, hml, hown, hts⟩ (cL_octet l dC dI sb h res t no ki pp s0 n w pa ma ex ie cB u (nI k) hu hn) (cu_of (n := 1) hts tbin q3_122 q3_124 q3_123 q3_126 q1_15 q3_127 rfl (by decide +kernel) ⟨rfl, rfl⟩ ⟨Nat.le_of_ble_eq_true rfl, Nat.le_of_ble_eq_true rfl⟩) rfl ⟨Nat.le_of_ble_eq_true rfl, Nat.le_of_ble_eq_true rfl⟩ hN hT0 hK hP [0, 1] rfl [0] rfl 0 5 rfl rfl rfl hl.1 rfl (Nat.le_of_ble_eq_true rfl) d_Reader_isSimple_33) (fun r33 hr33 => ?_)
      rw [oc_eq (by omega), oc, if_pos (by omega)] at hr33
      subst hr33
      refine lv_sipush (v := 128) hx hb d_Reader_isSimple_36 (by decide) ?_
      refine lv_icmp_lt (tgt := 44) hx hb d_Reader_isSimple_39 (by decide) (fun c39 => ?_) (fun c39 => ?_)
      · refine lv_iinc (v := nI (k + 1)) (lv' := [(4, .int (nI (k + 1))), (0, .ref h), (1, .int (nI tg)), (2, .int (nI a)), (3, .int (nI b))]) hx hb d_Reader_isSimple_44 hl (k := 4) rfl (nI_1 _) (by decide) rfl (fun ls hl => ?_)
        refine lv_goto (tgt := 3) hx hb d_Reader_isSimple_47 (by decide) ?_
        exact ih (k + 1) ls (by omega) (⟨by omega, by omega, fun j h1 h2 => (Nat.lt_succ_iff_lt_or_eq.mp h2).elim (hJ.2.2 j h1) (fun q => by rw [q]; exact ⟨fun q => absurd q (fun q9 => c12 (by rw [q9]; rfl)), fun _ => (by have h9 := c39; rw [show (128 : Int32) = nI 128 from rfl, nI_ltI (by have := hu k; omega) (by omega)] at h9; omega)⟩)⟩) (lv_sub hl [1, 2, 3, 4, 0] rfl)
      · refine lv_iconst (v := 0) hx hb d_Reader_isSimple_42 (by decide) ?_
        exact W.zret (v := 0) hx hb hr (by decide) (fun t ht hW => ⟨_, rfl, bz_f (fun q => absurd ((q k hJ.1 hlt).2 (fun q9 => c12 (by rw [q9]; rfl))) (by have h9 := c39; rw [show (128 : Int32) = nI 128 from rfl, nI_ltI (by have := hu k; omega) (by omega)] at h9; omega)), ht⟩) (fun q h => by cases h) d_Reader_isSimple_43
    · refine lv_aload_n hx hb d_Reader_isSimple_15 rfl (lv_at hl 0 rfl) ?_
      refine lv_iload hx hb d_Reader_isSimple_16 (lv_at hl 4 rfl) ?_
      refine vp_callSi (pu_callU (As := [.int (nI k)]) (rest := []) ⟨hx, hb, hml, hown, hts⟩ (cL_octet l dC dI sb h res t no ki pp s0 n w pa ma ex ie cB u (nI k) hu hn) (cu_of (n := 1) hts tbin q3_122 q3_124 q3_123 q3_126 q1_15 q3_127 rfl (by decide +kernel) ⟨rfl, rfl⟩ ⟨Nat.le_of_ble_eq_true rfl, Nat.le_of_ble_eq_true rfl⟩) rfl ⟨Nat.le_of_ble_eq_true rfl, Nat.le_of_ble_eq_true rfl⟩ hN hT0 hK hP [0, 1] rfl [0] rfl 0 5 rfl rfl rfl hl.1 rfl (Nat.le_of_ble_eq_true rfl) d_Reader_isSimple_18) (fun r18 hr18 => ?_)
      rw [oc_eq (by omega), oc, if_pos (by omega)] at hr18
      subst hr18
      refine vp_callSi (pu_callS (As := [.int (nI (u k))]) (rest := []) ⟨hx, hb, hml, hown, hts⟩ tbin (c_isPrintable l dC dI sb (u k) (hu k)) q3_230 q3_231 q1_15 q3_232 (n := 1) (by decide +kernel) rfl ⟨rfl, rfl⟩ ⟨Nat.le_of_ble_eq_true rfl, Nat.le_of_ble_eq_true rfl⟩ ⟨Nat.le_of_ble_eq_true rfl, Nat.le_of_ble_eq_true rfl⟩ hN hT0 hK hP [] rfl [] rfl hl.1 rfl (Nat.le_of_ble_eq_true rfl) d_Reader_isSimple_21) (fun r21 hr21 => ?_)
      refine lv_if_ne (tgt := 44) hx hb d_Reader_isSimple_24 (by decide) (fun c24 => ?_) (fun c24 => ?_)
      · refine lv_iinc (v := nI (k + 1)) (lv' := [(4, .int (nI (k + 1))), (0, .ref h), (1, .int (nI tg)), (2, .int (nI a)), (3, .int (nI b))]) hx hb d_Reader_isSimple_44 hl (k := 4) rfl (nI_1 _) (by decide) rfl (fun ls hl => ?_)
        refine lv_goto (tgt := 3) hx hb d_Reader_isSimple_47 (by decide) ?_
        exact ih (k + 1) ls (by omega) (⟨by omega, by omega, fun j h1 h2 => (Nat.lt_succ_iff_lt_or_eq.mp h2).elim (hJ.2.2 j h1) (fun q => by rw [q]; exact ⟨fun _ => bz_1 hr21 c24, fun q => absurd (show tg = 19 from by have h9 := (show nI tg = 19 from by first | exact c12 | exact Classical.not_not.mp c12); rw [show (19 : Int32) = nI 19 from rfl, nI_eq (by omega) (by omega)] at h9; exact h9) q⟩)⟩) (lv_sub hl [1, 2, 3, 4, 0] rfl)
      · refine lv_goto (tgt := 42) hx hb d_Reader_isSimple_27 (by decide) ?_
        refine lv_iconst (v := 0) hx hb d_Reader_isSimple_42 (by decide) ?_
        exact W.zret (v := 0) hx hb hr (by decide) (fun t ht hW => ⟨_, rfl, bz_f (fun q => (bz_0 hr21 (by first | exact c24 | exact Classical.not_not.mp c24)) ((q k hJ.1 hlt).1 (show tg = 19 from by have h9 := (show nI tg = 19 from by first | exact c12 | exact Classical.not_not.mp c12); rw [show (19 : Int32) = nI 19 from rfl, nI_eq (by omega) (by omega)] at h9; exact h9))), ht⟩) (fun q h => by cases h) d_Reader_isSimple_43
