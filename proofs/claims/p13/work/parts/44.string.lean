/-! String constants (kstr): String's methods on them. -/
theorem sk_recv {sb : sB} {k : Nat} {bs : List Int32} {s : State} {H : Heap} (h : sk1 sb k bs s H) : ∃ cell : Cell, H[sb.2 (10 + k)]? = some cell ∧ cell.vm.isStatics = false ∧ s.vm.findClass "java/lang/String" = some cell.cls := by
  obtain ⟨cell, h1, h2, h3, -⟩ := h.1
  exact ⟨cell, h1, h2, h3⟩
theorem ish0 (x : Int32) : x >>> ((0 : Int32) &&& 31) = x := by
  rw [show ((0 : Int32) &&& 31) = 0 from by decide]
  simp
section PUK
variable {p : Program} {l : Launch} {e : Env} {R : Room} {s : State} {m : MethodId} {args : Array Value} {below : List Frame} {meth : Method} {c : Code} {H : Heap} {locs : List Loc} {cells slots : Nat} {Q : State → Prop}
variable {pc : Nat} {ls : Array Slot} {rest st0 : List Value} {cc bytes : ByteArray} {nL maxL index : Nat} {Ts : List Cond} {own C : String} {y : MethodName} {ret : Option FieldType} {rm : Room} {D : va_G} {ws wsB : va_W} {tys tysB : List (ClassId × FieldType)} {As : List Value} {b : Nat} {n : Nat} {sb : sB}
/-- a call on an object that is no cell of the world (a String constant) -/
theorem pu_callK {Qc : Array Value → State → Outcome → State → Prop} (S : CallFix p m c cc nL s args Ts own) (hin : ∀ w ∈ tb, w ∈ Ts) (hM : Met l y (Cond.code y bytes maxL ret :: tb) rm (pu_P (.ref b :: As) D sb ws tys) Qc 0 0 (fun _ => False))
    (h1 : Cond.methodLink own index y ∈ tb) (h2 : Cond.instanceMethod y ∈ tb) (h3 : Cond.selects C y y ∈ tb) (h4 : Cond.initialized C ∈ tb) (h5 : Cond.code y bytes maxL ret ∈ tb)
    (hd : y.cls = C ∧ y.cls ≠ "java/lang/invoke/MethodHandle" ∧ y.cls ≠ "java/lang/invoke/VarHandle" ∧ (parseMethodDescriptor y.desc).map (fun d => d.parameters.length) = some n) (hn : As.length = n)
    (hz : rm.cells = 0 ∧ rm.slots = 0) (hR : rm.frames + 1 ≤ R.frames ∧ 8 + (maxL + 11) + rm.locals ≤ R.locals) (hf : cells ≤ R.cells ∧ slots ≤ R.slots)
    (hN : nwOK sb s) (hT : stOK sb s H) (hK : va_K D classes tysB s) (hP : va_P D classes wsB H) (is : List Nat) (hs : is.filterMap (fun i => wsB[i]?) = ws) (ts : List Nat) (ht : ts.filterMap (fun i => tysB[i]?) = tys)
    (hrc : ∃ cell : Cell, H[b]? = some cell ∧ cell.vm.isStatics = false ∧ s.vm.findClass C = some cell.cls)
    (hsize : ls.size = nL) (hstack : st0 = As.reverse ++ .ref b :: rest) (hW : (rest.map fun v => v.category).sum ≤ 8) (hdg : decode cc pc = .ok (.invokevirtual index, 3)) :
    CallRun p l e R s m args below meth c H locs cells slots 0 0 (F0 m pc ls st0) rest (Qc (Value.ref b :: As).toArray) (fun _ => False) := by
  subst hstack
  subst hn
  exact W.runV (As := As) (rest := rest) S hM (cwV As.length S.2.2.2.2 (gd_V hin h1 h2 h3 h4 h5) rfl hz.1 hz.2 hd hR) ⟨pu_blind, hrc, pu_pre hN hT hK hP is hs ts ht⟩ rfl rfl hsize rfl (lv_room hW) hdg ⟨hf.1, hf.2⟩
end PUK
def y_String_coder : MethodName := ⟨"java/lang/String", "coder", "()B"⟩
abbrev b_String_coder : ByteArray := prog_25_method_152_code
def w_String_coder : List Cond := Cond.code y_String_coder b_String_coder 1 ((some FieldType.byte)) :: tb
theorem d_String_coder_0 : decode b_String_coder 0 = .ok (.getstatic 38, 3) := by decide +kernel
theorem d_String_coder_3 : decode b_String_coder 3 = .ok (.ifCond .eq 10, 3) := by decide +kernel
theorem d_String_coder_6 : decode b_String_coder 6 = .ok (.aload_n 0, 1) := by decide +kernel
theorem d_String_coder_7 : decode b_String_coder 7 = .ok (.getfield 15, 3) := by decide +kernel
theorem d_String_coder_10 : decode b_String_coder 10 = .ok (.goto 4, 3) := by decide +kernel
theorem d_String_coder_14 : decode b_String_coder 14 = .ok (.ireturn, 1) := by decide +kernel
set_option maxHeartbeats 4000000 in
set_option maxRecDepth 100000 in
theorem c_Str_coder (l : Launch) (dC : Nat → ClassId) (dI : Nat → Nat → Nat) (sb : sB) (k : Nat) (z : String × Nat × String × List Int32) (hz : kstr[k]? = some z) : Met l y_String_coder w_String_coder ({ frames := 0, cells := 0, slots := 0, locals := 0 }) (pu_P [.ref (sb.2 (10 + k))] (dC, dI) sb [] []) (vp_Si (fun r => r = 0)) 0 0 (fun _ => False) := by
  refine Met.ofW (cc := b_String_coder) (maxL := 1) (ret := (some FieldType.byte)) (by decide) rfl ?_
  intro p e s m args below meth c s₁ B hml hv
  obtain ⟨rfl, hP, hK, hN, hT0⟩ := hv
  have hx := B.exec
  have hb := B.bytes
  have hr := B.returns
  have hts := atoms_spec (ws := w_String_coder) B.pre
  have tbin : ∀ w ∈ tb, w ∈ w_String_coder := fun w h => List.mem_cons_of_mem _ h
  have htb : ∀ w ∈ tb, w.before _ s = true := fun w h => hts w (tbin w h)
  have hown : s.vm.findClass "java/lang/String" = some m.cls := findClass_of_methodNamed B.named
  have hlocks := B.notSynchronized
  have hcs : 0 ≤ (headSpec w_String_coder ({ frames := 0, cells := 0, slots := 0, locals := 0 })).room.cells ∧ 0 ≤ (headSpec w_String_coder ({ frames := 0, cells := 0, slots := 0, locals := 0 })).room.slots := ⟨Nat.zero_le _, Nat.zero_le _⟩
  have hP : va_P (dC, dI) classes [] s.heap := hP
  have hl := lv_entry ([.ref (sb.2 (10 + k))]) (n := 1) (Nat.le_of_ble_eq_true rfl)
  rw [lg_entry_eq]
  generalize (lg_sl ([.ref (sb.2 (10 + k))]) ++ List.replicate (1 - (lg_sl ([.ref (sb.2 (10 + k))])).length) Slot.unset).toArray = ls at hl ⊢
  have hl : lv_has ls 1 [(0, .ref (sb.2 (10 + k)))] := hl
  have hks := hT0.2.2.2.2.2.2.1 k z hz
  refine va_gets hx hb hT0.2.2.2.2.2.2.2.1 va_S.rf hown (htb _ q8_139) (fun _ h9 => h9) d_String_coder_0 ?_
  refine lv_if_eq (tgt := 13) hx hb d_String_coder_3 (by decide) (fun c3 => ?_) (fun c3 => ?_)
  · exact absurd c3 (by decide)
  refine lv_aload_n hx hb d_String_coder_6 rfl (lv_at hl 0 rfl) ?_
  refine vk_getf (v := .int 0) hx hb hks.2.1 va_S.rf hown (htb _ q10_4) (fun _ h9 => h9) d_String_coder_7 ?_
  refine lv_goto (tgt := 14) hx hb d_String_coder_10 (by decide) ?_
  exact W.zret (v := 0) hx hb hr rfl (fun t ht hW => ⟨_, rfl, rfl, ht⟩) (fun q h => by cases h) d_String_coder_14
def y_String_isLatin1 : MethodName := ⟨"java/lang/String", "isLatin1", "()Z"⟩
abbrev b_String_isLatin1 : ByteArray := prog_25_method_154_code
def w_String_isLatin1 : List Cond := Cond.code y_String_isLatin1 b_String_isLatin1 1 ((some FieldType.boolean)) :: tb
theorem d_String_isLatin1_0 : decode b_String_isLatin1 0 = .ok (.getstatic 38, 3) := by decide +kernel
theorem d_String_isLatin1_3 : decode b_String_isLatin1 3 = .ok (.ifCond .eq 14, 3) := by decide +kernel
theorem d_String_isLatin1_6 : decode b_String_isLatin1 6 = .ok (.aload_n 0, 1) := by decide +kernel
theorem d_String_isLatin1_7 : decode b_String_isLatin1 7 = .ok (.getfield 15, 3) := by decide +kernel
theorem d_String_isLatin1_10 : decode b_String_isLatin1 10 = .ok (.ifCond .ne 7, 3) := by decide +kernel
theorem d_String_isLatin1_13 : decode b_String_isLatin1 13 = .ok (.iconst 1, 1) := by decide +kernel
theorem d_String_isLatin1_14 : decode b_String_isLatin1 14 = .ok (.goto 4, 3) := by decide +kernel
theorem d_String_isLatin1_18 : decode b_String_isLatin1 18 = .ok (.ireturn, 1) := by decide +kernel
set_option maxHeartbeats 4000000 in
set_option maxRecDepth 100000 in
theorem c_Str_isLatin1 (l : Launch) (dC : Nat → ClassId) (dI : Nat → Nat → Nat) (sb : sB) (k : Nat) (z : String × Nat × String × List Int32) (hz : kstr[k]? = some z) : Met l y_String_isLatin1 w_String_isLatin1 ({ frames := 0, cells := 0, slots := 0, locals := 0 }) (pu_P [.ref (sb.2 (10 + k))] (dC, dI) sb [] []) (vp_Si (fun r => r = 1)) 0 0 (fun _ => False) := by
  refine Met.ofW (cc := b_String_isLatin1) (maxL := 1) (ret := (some FieldType.boolean)) (by decide) rfl ?_
  intro p e s m args below meth c s₁ B hml hv
  obtain ⟨rfl, hP, hK, hN, hT0⟩ := hv
  have hx := B.exec
  have hb := B.bytes
  have hr := B.returns
  have hts := atoms_spec (ws := w_String_isLatin1) B.pre
  have tbin : ∀ w ∈ tb, w ∈ w_String_isLatin1 := fun w h => List.mem_cons_of_mem _ h
  have htb : ∀ w ∈ tb, w.before _ s = true := fun w h => hts w (tbin w h)
  have hown : s.vm.findClass "java/lang/String" = some m.cls := findClass_of_methodNamed B.named
  have hlocks := B.notSynchronized
  have hcs : 0 ≤ (headSpec w_String_isLatin1 ({ frames := 0, cells := 0, slots := 0, locals := 0 })).room.cells ∧ 0 ≤ (headSpec w_String_isLatin1 ({ frames := 0, cells := 0, slots := 0, locals := 0 })).room.slots := ⟨Nat.zero_le _, Nat.zero_le _⟩
  have hP : va_P (dC, dI) classes [] s.heap := hP
  have hl := lv_entry ([.ref (sb.2 (10 + k))]) (n := 1) (Nat.le_of_ble_eq_true rfl)
  rw [lg_entry_eq]
  generalize (lg_sl ([.ref (sb.2 (10 + k))]) ++ List.replicate (1 - (lg_sl ([.ref (sb.2 (10 + k))])).length) Slot.unset).toArray = ls at hl ⊢
  have hl : lv_has ls 1 [(0, .ref (sb.2 (10 + k)))] := hl
  have hks := hT0.2.2.2.2.2.2.1 k z hz
  refine va_gets hx hb hT0.2.2.2.2.2.2.2.1 va_S.rf hown (htb _ q8_139) (fun _ h9 => h9) d_String_isLatin1_0 ?_
  refine lv_if_eq (tgt := 17) hx hb d_String_isLatin1_3 (by decide) (fun c3 => ?_) (fun c3 => ?_)
  · exact absurd c3 (by decide)
  refine lv_aload_n hx hb d_String_isLatin1_6 rfl (lv_at hl 0 rfl) ?_
  refine vk_getf (v := .int 0) hx hb hks.2.1 va_S.rf hown (htb _ q10_4) (fun _ h9 => h9) d_String_isLatin1_7 ?_
  refine lv_if_ne (tgt := 17) hx hb d_String_isLatin1_10 (by decide) (fun c10 => ?_) (fun c10 => ?_)
  · exact absurd c10 (by decide)
  refine lv_iconst (v := 1) hx hb d_String_isLatin1_13 (by decide) ?_
  refine lv_goto (tgt := 18) hx hb d_String_isLatin1_14 (by decide) ?_
  exact W.zret (v := 1) hx hb hr (bz_n (bz_t trivial)) (fun t ht hW => ⟨_, rfl, rfl, ht⟩) (fun q h => by cases h) d_String_isLatin1_18
def y_String_length : MethodName := ⟨"java/lang/String", "length", "()I"⟩
abbrev b_String_length : ByteArray := prog_25_method_54_code
def w_String_length : List Cond := Cond.code y_String_length b_String_length 1 ((some FieldType.int)) :: tb
theorem d_String_length_0 : decode b_String_length 0 = .ok (.aload_n 0, 1) := by decide +kernel
theorem d_String_length_1 : decode b_String_length 1 = .ok (.getfield 9, 3) := by decide +kernel
theorem d_String_length_4 : decode b_String_length 4 = .ok (.arraylength, 1) := by decide +kernel
theorem d_String_length_5 : decode b_String_length 5 = .ok (.aload_n 0, 1) := by decide +kernel
theorem d_String_length_6 : decode b_String_length 6 = .ok (.invokevirtual 335, 3) := by decide +kernel
theorem d_String_length_9 : decode b_String_length 9 = .ok (.ishr, 1) := by decide +kernel
theorem d_String_length_10 : decode b_String_length 10 = .ok (.ireturn, 1) := by decide +kernel
set_option maxHeartbeats 4000000 in
set_option maxRecDepth 100000 in
theorem c_Str_length (l : Launch) (dC : Nat → ClassId) (dI : Nat → Nat → Nat) (sb : sB) (k : Nat) (z : String × Nat × String × List Int32) (hz : kstr[k]? = some z) : Met l y_String_length w_String_length ({ frames := 1, cells := 0, slots := 0, locals := 20 }) (pu_P [.ref (sb.2 (10 + k))] (dC, dI) sb [] []) (vp_Si (fun r => r = nI z.2.2.2.length)) 0 0 (fun _ => False) := by
  refine Met.ofW (cc := b_String_length) (maxL := 1) (ret := (some FieldType.int)) (by decide) rfl ?_
  intro p e s m args below meth c s₁ B hml hv
  obtain ⟨rfl, hP, hK, hN, hT0⟩ := hv
  have hx := B.exec
  have hb := B.bytes
  have hr := B.returns
  have hts := atoms_spec (ws := w_String_length) B.pre
  have tbin : ∀ w ∈ tb, w ∈ w_String_length := fun w h => List.mem_cons_of_mem _ h
  have htb : ∀ w ∈ tb, w.before _ s = true := fun w h => hts w (tbin w h)
  have hown : s.vm.findClass "java/lang/String" = some m.cls := findClass_of_methodNamed B.named
  have hlocks := B.notSynchronized
  have hcs : 0 ≤ (headSpec w_String_length ({ frames := 1, cells := 0, slots := 0, locals := 20 })).room.cells ∧ 0 ≤ (headSpec w_String_length ({ frames := 1, cells := 0, slots := 0, locals := 20 })).room.slots := ⟨Nat.zero_le _, Nat.zero_le _⟩
  have hP : va_P (dC, dI) classes [] s.heap := hP
  have hl := lv_entry ([.ref (sb.2 (10 + k))]) (n := 1) (Nat.le_of_ble_eq_true rfl)
  rw [lg_entry_eq]
  generalize (lg_sl ([.ref (sb.2 (10 + k))]) ++ List.replicate (1 - (lg_sl ([.ref (sb.2 (10 + k))])).length) Slot.unset).toArray = ls at hl ⊢
  have hl : lv_has ls 1 [(0, .ref (sb.2 (10 + k)))] := hl
  have hks := hT0.2.2.2.2.2.2.1 k z hz
  refine lv_aload_n hx hb d_String_length_0 rfl (lv_at hl 0 rfl) ?_
  refine vk_getf (v := .ref (sb.2 (20 + k))) hx hb hks.2.2.1 va_S.rf hown (htb _ q10_3) (fun _ h9 => h9) d_String_length_1 ?_
  refine va_tlen (v := nI z.2.2.2.length) hx hb hks.2.2.2 va_S.rf rfl d_String_length_4 ?_
  refine lv_aload_n hx hb d_String_length_5 rfl (lv_at hl 0 rfl) ?_
  refine vp_callSi (pu_callK (As := []) (rest := [.int (nI z.2.2.2.length)]) ⟨hx, hb, hml, hown, hts⟩ tbin (c_Str_coder l dC dI sb k z hz) q8_135 q8_136 q8_137 q1_28 q8_138 (n := 0) (by decide +kernel) rfl ⟨rfl, rfl⟩ ⟨Nat.le_of_ble_eq_true rfl, Nat.le_of_ble_eq_true rfl⟩ ⟨Nat.le_of_ble_eq_true rfl, Nat.le_of_ble_eq_true rfl⟩ hN hT0 hK hP [] rfl [] rfl (sk_recv hks) hl.1 rfl (Nat.le_of_ble_eq_true rfl) d_String_length_6) (fun r6 hr6 => ?_)
  subst hr6
  refine lv_ishr hx hb d_String_length_9 ?_
  exact W.iret (v := (nI z.2.2.2.length) >>> (0 &&& 31)) hx hb hr (fun t ht hW => ⟨_, rfl, ish0 _, ht⟩) (fun q h => by cases h) d_String_length_10
/-- PRINTABLE's octets -/
def prN (v : Nat) : Prop := (65 ≤ v ∧ v ≤ 90) ∨ (97 ≤ v ∧ v ≤ 122) ∨ (43 ≤ v ∧ v ≤ 58) ∨ (39 ≤ v ∧ v ≤ 41) ∨ v = 32 ∨ v = 61 ∨ v = 63
def y_Reader_isPrintable : MethodName := ⟨"TrustChain$Reader", "isPrintable", "(I)Z"⟩
abbrev b_Reader_isPrintable : ByteArray := prog_8_method_30_code
def w_Reader_isPrintable : List Cond := Cond.code y_Reader_isPrintable b_Reader_isPrintable 4 ((some FieldType.boolean)) :: tb
theorem d_Reader_isPrintable_0 : decode b_Reader_isPrintable 0 = .ok (.iload_n 0, 1) := by decide +kernel
theorem d_Reader_isPrintable_1 : decode b_Reader_isPrintable 1 = .ok (.bipush 65, 2) := by decide +kernel
theorem d_Reader_isPrintable_3 : decode b_Reader_isPrintable 3 = .ok (.if_icmp .lt 9, 3) := by decide +kernel
theorem d_Reader_isPrintable_6 : decode b_Reader_isPrintable 6 = .ok (.iload_n 0, 1) := by decide +kernel
theorem d_Reader_isPrintable_7 : decode b_Reader_isPrintable 7 = .ok (.bipush 90, 2) := by decide +kernel
theorem d_Reader_isPrintable_9 : decode b_Reader_isPrintable 9 = .ok (.if_icmp .le 15, 3) := by decide +kernel
theorem d_Reader_isPrintable_12 : decode b_Reader_isPrintable 12 = .ok (.iload_n 0, 1) := by decide +kernel
theorem d_Reader_isPrintable_13 : decode b_Reader_isPrintable 13 = .ok (.bipush 97, 2) := by decide +kernel
theorem d_Reader_isPrintable_15 : decode b_Reader_isPrintable 15 = .ok (.if_icmp .lt 13, 3) := by decide +kernel
theorem d_Reader_isPrintable_18 : decode b_Reader_isPrintable 18 = .ok (.iload_n 0, 1) := by decide +kernel
theorem d_Reader_isPrintable_19 : decode b_Reader_isPrintable 19 = .ok (.bipush 122, 2) := by decide +kernel
theorem d_Reader_isPrintable_21 : decode b_Reader_isPrintable 21 = .ok (.if_icmp .gt 7, 3) := by decide +kernel
theorem d_Reader_isPrintable_24 : decode b_Reader_isPrintable 24 = .ok (.iconst 1, 1) := by decide +kernel
theorem d_Reader_isPrintable_25 : decode b_Reader_isPrintable 25 = .ok (.goto 4, 3) := by decide +kernel
theorem d_Reader_isPrintable_28 : decode b_Reader_isPrintable 28 = .ok (.iconst 0, 1) := by decide +kernel
theorem d_Reader_isPrintable_29 : decode b_Reader_isPrintable 29 = .ok (.istore_n 1, 1) := by decide +kernel
theorem d_Reader_isPrintable_30 : decode b_Reader_isPrintable 30 = .ok (.iload_n 0, 1) := by decide +kernel
theorem d_Reader_isPrintable_31 : decode b_Reader_isPrintable 31 = .ok (.bipush 43, 2) := by decide +kernel
theorem d_Reader_isPrintable_33 : decode b_Reader_isPrintable 33 = .ok (.if_icmp .lt 13, 3) := by decide +kernel
theorem d_Reader_isPrintable_36 : decode b_Reader_isPrintable 36 = .ok (.iload_n 0, 1) := by decide +kernel
theorem d_Reader_isPrintable_37 : decode b_Reader_isPrintable 37 = .ok (.bipush 58, 2) := by decide +kernel
theorem d_Reader_isPrintable_39 : decode b_Reader_isPrintable 39 = .ok (.if_icmp .gt 7, 3) := by decide +kernel
theorem d_Reader_isPrintable_42 : decode b_Reader_isPrintable 42 = .ok (.iconst 1, 1) := by decide +kernel
theorem d_Reader_isPrintable_43 : decode b_Reader_isPrintable 43 = .ok (.goto 4, 3) := by decide +kernel
theorem d_Reader_isPrintable_46 : decode b_Reader_isPrintable 46 = .ok (.iconst 0, 1) := by decide +kernel
theorem d_Reader_isPrintable_47 : decode b_Reader_isPrintable 47 = .ok (.istore_n 2, 1) := by decide +kernel
theorem d_Reader_isPrintable_48 : decode b_Reader_isPrintable 48 = .ok (.iload_n 0, 1) := by decide +kernel
theorem d_Reader_isPrintable_49 : decode b_Reader_isPrintable 49 = .ok (.bipush 39, 2) := by decide +kernel
theorem d_Reader_isPrintable_51 : decode b_Reader_isPrintable 51 = .ok (.if_icmp .lt 9, 3) := by decide +kernel
theorem d_Reader_isPrintable_54 : decode b_Reader_isPrintable 54 = .ok (.iload_n 0, 1) := by decide +kernel
theorem d_Reader_isPrintable_55 : decode b_Reader_isPrintable 55 = .ok (.bipush 41, 2) := by decide +kernel
theorem d_Reader_isPrintable_57 : decode b_Reader_isPrintable 57 = .ok (.if_icmp .le 21, 3) := by decide +kernel
theorem d_Reader_isPrintable_60 : decode b_Reader_isPrintable 60 = .ok (.iload_n 0, 1) := by decide +kernel
theorem d_Reader_isPrintable_61 : decode b_Reader_isPrintable 61 = .ok (.bipush 32, 2) := by decide +kernel
theorem d_Reader_isPrintable_63 : decode b_Reader_isPrintable 63 = .ok (.if_icmp .eq 15, 3) := by decide +kernel
theorem d_Reader_isPrintable_66 : decode b_Reader_isPrintable 66 = .ok (.iload_n 0, 1) := by decide +kernel
theorem d_Reader_isPrintable_67 : decode b_Reader_isPrintable 67 = .ok (.bipush 61, 2) := by decide +kernel
theorem d_Reader_isPrintable_69 : decode b_Reader_isPrintable 69 = .ok (.if_icmp .eq 9, 3) := by decide +kernel
theorem d_Reader_isPrintable_72 : decode b_Reader_isPrintable 72 = .ok (.iload_n 0, 1) := by decide +kernel
theorem d_Reader_isPrintable_73 : decode b_Reader_isPrintable 73 = .ok (.bipush 63, 2) := by decide +kernel
theorem d_Reader_isPrintable_75 : decode b_Reader_isPrintable 75 = .ok (.if_icmp .ne 7, 3) := by decide +kernel
theorem d_Reader_isPrintable_78 : decode b_Reader_isPrintable 78 = .ok (.iconst 1, 1) := by decide +kernel
theorem d_Reader_isPrintable_79 : decode b_Reader_isPrintable 79 = .ok (.goto 4, 3) := by decide +kernel
theorem d_Reader_isPrintable_82 : decode b_Reader_isPrintable 82 = .ok (.iconst 0, 1) := by decide +kernel
theorem d_Reader_isPrintable_83 : decode b_Reader_isPrintable 83 = .ok (.istore_n 3, 1) := by decide +kernel
theorem d_Reader_isPrintable_84 : decode b_Reader_isPrintable 84 = .ok (.iload_n 1, 1) := by decide +kernel
theorem d_Reader_isPrintable_85 : decode b_Reader_isPrintable 85 = .ok (.ifCond .ne 11, 3) := by decide +kernel
theorem d_Reader_isPrintable_88 : decode b_Reader_isPrintable 88 = .ok (.iload_n 2, 1) := by decide +kernel
theorem d_Reader_isPrintable_89 : decode b_Reader_isPrintable 89 = .ok (.ifCond .ne 7, 3) := by decide +kernel
theorem d_Reader_isPrintable_92 : decode b_Reader_isPrintable 92 = .ok (.iload_n 3, 1) := by decide +kernel
theorem d_Reader_isPrintable_93 : decode b_Reader_isPrintable 93 = .ok (.ifCond .eq 7, 3) := by decide +kernel
theorem d_Reader_isPrintable_96 : decode b_Reader_isPrintable 96 = .ok (.iconst 1, 1) := by decide +kernel
theorem d_Reader_isPrintable_97 : decode b_Reader_isPrintable 97 = .ok (.goto 4, 3) := by decide +kernel
theorem d_Reader_isPrintable_100 : decode b_Reader_isPrintable 100 = .ok (.iconst 0, 1) := by decide +kernel
theorem d_Reader_isPrintable_101 : decode b_Reader_isPrintable 101 = .ok (.ireturn, 1) := by decide +kernel
set_option maxHeartbeats 4000000 in
set_option maxRecDepth 100000 in
theorem c_isPrintable (l : Launch) (dC : Nat → ClassId) (dI : Nat → Nat → Nat) (sb : sB) (vo : Nat) (hvo : vo < 256) : Met l y_Reader_isPrintable w_Reader_isPrintable ({ frames := 0, cells := 0, slots := 0, locals := 0 }) (pu_P [.int (nI vo)] (dC, dI) sb [] []) (vp_Si (fun r => bz r (prN vo))) 0 0 (fun _ => False) := by
  refine Met.ofW (cc := b_Reader_isPrintable) (maxL := 4) (ret := (some FieldType.boolean)) (by decide) rfl ?_
  intro p e s m args below meth c s₁ B hml hv
  obtain ⟨rfl, hP, hK, hN, hT0⟩ := hv
  have hx := B.exec
  have hb := B.bytes
  have hr := B.returns
  have hts := atoms_spec (ws := w_Reader_isPrintable) B.pre
  have tbin : ∀ w ∈ tb, w ∈ w_Reader_isPrintable := fun w h => List.mem_cons_of_mem _ h
  have htb : ∀ w ∈ tb, w.before _ s = true := fun w h => hts w (tbin w h)
  have hown : s.vm.findClass "TrustChain$Reader" = some m.cls := findClass_of_methodNamed B.named
  have hlocks := B.notSynchronized
  have hcs : 0 ≤ (headSpec w_Reader_isPrintable ({ frames := 0, cells := 0, slots := 0, locals := 0 })).room.cells ∧ 0 ≤ (headSpec w_Reader_isPrintable ({ frames := 0, cells := 0, slots := 0, locals := 0 })).room.slots := ⟨Nat.zero_le _, Nat.zero_le _⟩
  have hP : va_P (dC, dI) classes [] s.heap := hP
  have hl := lv_entry ([.int (nI vo)]) (n := 4) (Nat.le_of_ble_eq_true rfl)
  rw [lg_entry_eq]
  generalize (lg_sl ([.int (nI vo)]) ++ List.replicate (4 - (lg_sl ([.int (nI vo)])).length) Slot.unset).toArray = ls at hl ⊢
  have hl : lv_has ls 4 [(0, .int (nI vo))] := hl
  refine w_join (J := fun v => bz v ((65 ≤ vo ∧ vo ≤ 90) ∨ (97 ≤ vo ∧ vo ≤ 122))) (pc := 29) (ls := ls) (rest := []) (fun v hv => ?_) (fun k29 => ?_)
  · skip
    refine lv_istore_n (lv' := [(1, .int v), (0, .int (nI vo))]) hx hb d_Reader_isPrintable_29 rfl hl (by decide) rfl (fun ls hl => ?_)
    refine w_join (J := fun v' => bz v' (43 ≤ vo ∧ vo ≤ 58)) (pc := 47) (ls := ls) (rest := []) (fun v' hv' => ?_) (fun k47 => ?_)
    · skip
      refine lv_istore_n (lv' := [(2, .int v'), (1, .int v), (0, .int (nI vo))]) hx hb d_Reader_isPrintable_47 rfl hl (by decide) rfl (fun ls hl => ?_)
      refine w_join (J := fun v'' => bz v'' ((39 ≤ vo ∧ vo ≤ 41) ∨ vo = 32 ∨ vo = 61 ∨ vo = 63)) (pc := 83) (ls := ls) (rest := []) (fun v'' hv'' => ?_) (fun k83 => ?_)
      · skip
        refine lv_istore_n (lv' := [(3, .int v''), (2, .int v'), (1, .int v), (0, .int (nI vo))]) hx hb d_Reader_isPrintable_83 rfl hl (by decide) rfl (fun ls hl => ?_)
        refine w_join (J := fun v''' => bz v''' (prN vo)) (pc := 101) (ls := ls) (rest := []) (fun v''' hv''' => ?_) (fun k101 => ?_)
        · skip
          exact W.zret (v := v''') hx hb hr (bz_n hv''') (fun t ht hW => ⟨_, rfl, hv''', ht⟩) (fun q h => by cases h) d_Reader_isPrintable_101
        · skip
          refine lv_iload_n hx hb d_Reader_isPrintable_84 rfl (lv_at hl 2 rfl) ?_
          refine lv_if_ne (tgt := 96) hx hb d_Reader_isPrintable_85 (by decide) (fun c85 => ?_) (fun c85 => ?_)
          · refine lv_iconst (v := 1) hx hb d_Reader_isPrintable_96 (by decide) ?_
            refine lv_goto (tgt := 101) hx hb d_Reader_isPrintable_97 (by decide) ?_
            exact k101 _ (bz_t ((bz_1 hv c85).elim Or.inl (fun q => Or.inr (Or.inl q))))
          · refine lv_iload_n hx hb d_Reader_isPrintable_88 rfl (lv_at hl 1 rfl) ?_
            refine lv_if_ne (tgt := 96) hx hb d_Reader_isPrintable_89 (by decide) (fun c89 => ?_) (fun c89 => ?_)
            · refine lv_iconst (v := 1) hx hb d_Reader_isPrintable_96 (by decide) ?_
              refine lv_goto (tgt := 101) hx hb d_Reader_isPrintable_97 (by decide) ?_
              exact k101 _ (bz_t (Or.inr (Or.inr (Or.inl (bz_1 hv' c89)))))
            · refine lv_iload_n hx hb d_Reader_isPrintable_92 rfl (lv_at hl 0 rfl) ?_
              refine lv_if_eq (tgt := 100) hx hb d_Reader_isPrintable_93 (by decide) (fun c93 => ?_) (fun c93 => ?_)
              · refine lv_iconst (v := 0) hx hb d_Reader_isPrintable_100 (by decide) ?_
                exact k101 _ (bz_f (fun q => q.elim (fun a => bz_0 hv (by first | exact c85 | exact Classical.not_not.mp c85) (Or.inl a)) (fun q => q.elim (fun a => bz_0 hv (by first | exact c85 | exact Classical.not_not.mp c85) (Or.inr a)) (fun q => q.elim (bz_0 hv' (by first | exact c89 | exact Classical.not_not.mp c89)) (bz_0 hv'' (by first | exact c93 | exact Classical.not_not.mp c93))))))
              · refine lv_iconst (v := 1) hx hb d_Reader_isPrintable_96 (by decide) ?_
                refine lv_goto (tgt := 101) hx hb d_Reader_isPrintable_97 (by decide) ?_
                exact k101 _ (bz_t (Or.inr (Or.inr (Or.inr (bz_1 hv'' c93)))))
      · skip
        refine lv_iload_n hx hb d_Reader_isPrintable_48 rfl (lv_at hl 2 rfl) ?_
        refine lv_bipush (v := 39) hx hb d_Reader_isPrintable_49 (by decide) ?_
        refine lv_icmp_lt (tgt := 60) hx hb d_Reader_isPrintable_51 (by decide) (fun c51 => ?_) (fun c51 => ?_)
        · refine lv_iload_n hx hb d_Reader_isPrintable_60 rfl (lv_at hl 2 rfl) ?_
          refine lv_bipush (v := 32) hx hb d_Reader_isPrintable_61 (by decide) ?_
          refine lv_icmp_eq (tgt := 78) hx hb d_Reader_isPrintable_63 (by decide) (fun c63 => ?_) (fun c63 => ?_)
          · refine lv_iconst (v := 1) hx hb d_Reader_isPrintable_78 (by decide) ?_
            refine lv_goto (tgt := 83) hx hb d_Reader_isPrintable_79 (by decide) ?_
            exact k83 _ (by have h51 := c51; rw [show (39 : Int32) = nI 39 from rfl] at h51; (first | rw [nI_leI (by omega) (by omega)] at h51 | rw [nI_ltI (by omega) (by omega)] at h51 | rw [nI_eq (by omega) (by omega)] at h51); have h63 := c63; rw [show (32 : Int32) = nI 32 from rfl] at h63; (first | rw [nI_leI (by omega) (by omega)] at h63 | rw [nI_ltI (by omega) (by omega)] at h63 | rw [nI_eq (by omega) (by omega)] at h63); exact bz_t (by omega))
          · refine lv_iload_n hx hb d_Reader_isPrintable_66 rfl (lv_at hl 2 rfl) ?_
            refine lv_bipush (v := 61) hx hb d_Reader_isPrintable_67 (by decide) ?_
            refine lv_icmp_eq (tgt := 78) hx hb d_Reader_isPrintable_69 (by decide) (fun c69 => ?_) (fun c69 => ?_)
            · refine lv_iconst (v := 1) hx hb d_Reader_isPrintable_78 (by decide) ?_
              refine lv_goto (tgt := 83) hx hb d_Reader_isPrintable_79 (by decide) ?_
              exact k83 _ (by have h51 := c51; rw [show (39 : Int32) = nI 39 from rfl] at h51; (first | rw [nI_leI (by omega) (by omega)] at h51 | rw [nI_ltI (by omega) (by omega)] at h51 | rw [nI_eq (by omega) (by omega)] at h51); have h63 := c63; rw [show (32 : Int32) = nI 32 from rfl] at h63; (first | rw [nI_leI (by omega) (by omega)] at h63 | rw [nI_ltI (by omega) (by omega)] at h63 | rw [nI_eq (by omega) (by omega)] at h63); have h69 := c69; rw [show (61 : Int32) = nI 61 from rfl] at h69; (first | rw [nI_leI (by omega) (by omega)] at h69 | rw [nI_ltI (by omega) (by omega)] at h69 | rw [nI_eq (by omega) (by omega)] at h69); exact bz_t (by omega))
            · refine lv_iload_n hx hb d_Reader_isPrintable_72 rfl (lv_at hl 2 rfl) ?_
              refine lv_bipush (v := 63) hx hb d_Reader_isPrintable_73 (by decide) ?_
              refine lv_icmp_ne (tgt := 82) hx hb d_Reader_isPrintable_75 (by decide) (fun c75 => ?_) (fun c75 => ?_)
              · refine lv_iconst (v := 0) hx hb d_Reader_isPrintable_82 (by decide) ?_
                exact k83 _ (by have h51 := c51; rw [show (39 : Int32) = nI 39 from rfl] at h51; (first | rw [nI_leI (by omega) (by omega)] at h51 | rw [nI_ltI (by omega) (by omega)] at h51 | rw [nI_eq (by omega) (by omega)] at h51); have h63 := c63; rw [show (32 : Int32) = nI 32 from rfl] at h63; (first | rw [nI_leI (by omega) (by omega)] at h63 | rw [nI_ltI (by omega) (by omega)] at h63 | rw [nI_eq (by omega) (by omega)] at h63); have h69 := c69; rw [show (61 : Int32) = nI 61 from rfl] at h69; (first | rw [nI_leI (by omega) (by omega)] at h69 | rw [nI_ltI (by omega) (by omega)] at h69 | rw [nI_eq (by omega) (by omega)] at h69); have h75 := c75; rw [show (63 : Int32) = nI 63 from rfl] at h75; (first | rw [nI_leI (by omega) (by omega)] at h75 | rw [nI_ltI (by omega) (by omega)] at h75 | rw [nI_eq (by omega) (by omega)] at h75); exact bz_f (by omega))
              · refine lv_iconst (v := 1) hx hb d_Reader_isPrintable_78 (by decide) ?_
                refine lv_goto (tgt := 83) hx hb d_Reader_isPrintable_79 (by decide) ?_
                exact k83 _ (by have h51 := c51; rw [show (39 : Int32) = nI 39 from rfl] at h51; (first | rw [nI_leI (by omega) (by omega)] at h51 | rw [nI_ltI (by omega) (by omega)] at h51 | rw [nI_eq (by omega) (by omega)] at h51); have h63 := c63; rw [show (32 : Int32) = nI 32 from rfl] at h63; (first | rw [nI_leI (by omega) (by omega)] at h63 | rw [nI_ltI (by omega) (by omega)] at h63 | rw [nI_eq (by omega) (by omega)] at h63); have h69 := c69; rw [show (61 : Int32) = nI 61 from rfl] at h69; (first | rw [nI_leI (by omega) (by omega)] at h69 | rw [nI_ltI (by omega) (by omega)] at h69 | rw [nI_eq (by omega) (by omega)] at h69); have h75 := c75; rw [show (63 : Int32) = nI 63 from rfl] at h75; (first | rw [nI_leI (by omega) (by omega)] at h75 | rw [nI_ltI (by omega) (by omega)] at h75 | rw [nI_eq (by omega) (by omega)] at h75); exact bz_t (by omega))
        · refine lv_iload_n hx hb d_Reader_isPrintable_54 rfl (lv_at hl 2 rfl) ?_
          refine lv_bipush (v := 41) hx hb d_Reader_isPrintable_55 (by decide) ?_
          refine lv_icmp_le (tgt := 78) hx hb d_Reader_isPrintable_57 (by decide) (fun c57 => ?_) (fun c57 => ?_)
          · refine lv_iconst (v := 1) hx hb d_Reader_isPrintable_78 (by decide) ?_
            refine lv_goto (tgt := 83) hx hb d_Reader_isPrintable_79 (by decide) ?_
            exact k83 _ (by have h51 := c51; rw [show (39 : Int32) = nI 39 from rfl] at h51; (first | rw [nI_leI (by omega) (by omega)] at h51 | rw [nI_ltI (by omega) (by omega)] at h51 | rw [nI_eq (by omega) (by omega)] at h51); have h57 := c57; rw [show (41 : Int32) = nI 41 from rfl] at h57; (first | rw [nI_leI (by omega) (by omega)] at h57 | rw [nI_ltI (by omega) (by omega)] at h57 | rw [nI_eq (by omega) (by omega)] at h57); exact bz_t (by omega))
          · refine lv_iload_n hx hb d_Reader_isPrintable_60 rfl (lv_at hl 2 rfl) ?_
            refine lv_bipush (v := 32) hx hb d_Reader_isPrintable_61 (by decide) ?_
            refine lv_icmp_eq (tgt := 78) hx hb d_Reader_isPrintable_63 (by decide) (fun c63 => ?_) (fun c63 => ?_)
            · refine lv_iconst (v := 1) hx hb d_Reader_isPrintable_78 (by decide) ?_
              refine lv_goto (tgt := 83) hx hb d_Reader_isPrintable_79 (by decide) ?_
              exact k83 _ (by have h51 := c51; rw [show (39 : Int32) = nI 39 from rfl] at h51; (first | rw [nI_leI (by omega) (by omega)] at h51 | rw [nI_ltI (by omega) (by omega)] at h51 | rw [nI_eq (by omega) (by omega)] at h51); have h57 := c57; rw [show (41 : Int32) = nI 41 from rfl] at h57; (first | rw [nI_leI (by omega) (by omega)] at h57 | rw [nI_ltI (by omega) (by omega)] at h57 | rw [nI_eq (by omega) (by omega)] at h57); have h63 := c63; rw [show (32 : Int32) = nI 32 from rfl] at h63; (first | rw [nI_leI (by omega) (by omega)] at h63 | rw [nI_ltI (by omega) (by omega)] at h63 | rw [nI_eq (by omega) (by omega)] at h63); exact bz_t (by omega))
            · refine lv_iload_n hx hb d_Reader_isPrintable_66 rfl (lv_at hl 2 rfl) ?_
              refine lv_bipush (v := 61) hx hb d_Reader_isPrintable_67 (by decide) ?_
              refine lv_icmp_eq (tgt := 78) hx hb d_Reader_isPrintable_69 (by decide) (fun c69 => ?_) (fun c69 => ?_)
              · refine lv_iconst (v := 1) hx hb d_Reader_isPrintable_78 (by decide) ?_
                refine lv_goto (tgt := 83) hx hb d_Reader_isPrintable_79 (by decide) ?_
                exact k83 _ (by have h51 := c51; rw [show (39 : Int32) = nI 39 from rfl] at h51; (first | rw [nI_leI (by omega) (by omega)] at h51 | rw [nI_ltI (by omega) (by omega)] at h51 | rw [nI_eq (by omega) (by omega)] at h51); have h57 := c57; rw [show (41 : Int32) = nI 41 from rfl] at h57; (first | rw [nI_leI (by omega) (by omega)] at h57 | rw [nI_ltI (by omega) (by omega)] at h57 | rw [nI_eq (by omega) (by omega)] at h57); have h63 := c63; rw [show (32 : Int32) = nI 32 from rfl] at h63; (first | rw [nI_leI (by omega) (by omega)] at h63 | rw [nI_ltI (by omega) (by omega)] at h63 | rw [nI_eq (by omega) (by omega)] at h63); have h69 := c69; rw [show (61 : Int32) = nI 61 from rfl] at h69; (first | rw [nI_leI (by omega) (by omega)] at h69 | rw [nI_ltI (by omega) (by omega)] at h69 | rw [nI_eq (by omega) (by omega)] at h69); exact bz_t (by omega))
              · refine lv_iload_n hx hb d_Reader_isPrintable_72 rfl (lv_at hl 2 rfl) ?_
                refine lv_bipush (v := 63) hx hb d_Reader_isPrintable_73 (by decide) ?_
                refine lv_icmp_ne (tgt := 82) hx hb d_Reader_isPrintable_75 (by decide) (fun c75 => ?_) (fun c75 => ?_)
                · refine lv_iconst (v := 0) hx hb d_Reader_isPrintable_82 (by decide) ?_
                  exact k83 _ (by have h51 := c51; rw [show (39 : Int32) = nI 39 from rfl] at h51; (first | rw [nI_leI (by omega) (by omega)] at h51 | rw [nI_ltI (by omega) (by omega)] at h51 | rw [nI_eq (by omega) (by omega)] at h51); have h57 := c57; rw [show (41 : Int32) = nI 41 from rfl] at h57; (first | rw [nI_leI (by omega) (by omega)] at h57 | rw [nI_ltI (by omega) (by omega)] at h57 | rw [nI_eq (by omega) (by omega)] at h57); have h63 := c63; rw [show (32 : Int32) = nI 32 from rfl] at h63; (first | rw [nI_leI (by omega) (by omega)] at h63 | rw [nI_ltI (by omega) (by omega)] at h63 | rw [nI_eq (by omega) (by omega)] at h63); have h69 := c69; rw [show (61 : Int32) = nI 61 from rfl] at h69; (first | rw [nI_leI (by omega) (by omega)] at h69 | rw [nI_ltI (by omega) (by omega)] at h69 | rw [nI_eq (by omega) (by omega)] at h69); have h75 := c75; rw [show (63 : Int32) = nI 63 from rfl] at h75; (first | rw [nI_leI (by omega) (by omega)] at h75 | rw [nI_ltI (by omega) (by omega)] at h75 | rw [nI_eq (by omega) (by omega)] at h75); exact bz_f (by omega))
                · refine lv_iconst (v := 1) hx hb d_Reader_isPrintable_78 (by decide) ?_
                  refine lv_goto (tgt := 83) hx hb d_Reader_isPrintable_79 (by decide) ?_
                  exact k83 _ (by have h51 := c51; rw [show (39 : Int32) = nI 39 from rfl] at h51; (first | rw [nI_leI (by omega) (by omega)] at h51 | rw [nI_ltI (by omega) (by omega)] at h51 | rw [nI_eq (by omega) (by omega)] at h51); have h57 := c57; rw [show (41 : Int32) = nI 41 from rfl] at h57; (first | rw [nI_leI (by omega) (by omega)] at h57 | rw [nI_ltI (by omega) (by omega)] at h57 | rw [nI_eq (by omega) (by omega)] at h57); have h63 := c63; rw [show (32 : Int32) = nI 32 from rfl] at h63; (first | rw [nI_leI (by omega) (by omega)] at h63 | rw [nI_ltI (by omega) (by omega)] at h63 | rw [nI_eq (by omega) (by omega)] at h63); have h69 := c69; rw [show (61 : Int32) = nI 61 from rfl] at h69; (first | rw [nI_leI (by omega) (by omega)] at h69 | rw [nI_ltI (by omega) (by omega)] at h69 | rw [nI_eq (by omega) (by omega)] at h69); have h75 := c75; rw [show (63 : Int32) = nI 63 from rfl] at h75; (first | rw [nI_leI (by omega) (by omega)] at h75 | rw [nI_ltI (by omega) (by omega)] at h75 | rw [nI_eq (by omega) (by omega)] at h75); exact bz_t (by omega))
    · skip
      refine lv_iload_n hx hb d_Reader_isPrintable_30 rfl (lv_at hl 1 rfl) ?_
      refine lv_bipush (v := 43) hx hb d_Reader_isPrintable_31 (by decide) ?_
      refine lv_icmp_lt (tgt := 46) hx hb d_Reader_isPrintable_33 (by decide) (fun c33 => ?_) (fun c33 => ?_)
      · refine lv_iconst (v := 0) hx hb d_Reader_isPrintable_46 (by decide) ?_
        exact k47 _ (by have h33 := c33; rw [show (43 : Int32) = nI 43 from rfl] at h33; (first | rw [nI_leI (by omega) (by omega)] at h33 | rw [nI_ltI (by omega) (by omega)] at h33 | rw [nI_eq (by omega) (by omega)] at h33); exact bz_f (by omega))
      · refine lv_iload_n hx hb d_Reader_isPrintable_36 rfl (lv_at hl 1 rfl) ?_
        refine lv_bipush (v := 58) hx hb d_Reader_isPrintable_37 (by decide) ?_
        refine lv_icmp_gt (tgt := 46) hx hb d_Reader_isPrintable_39 (by decide) (fun c39 => ?_) (fun c39 => ?_)
        · refine lv_iconst (v := 0) hx hb d_Reader_isPrintable_46 (by decide) ?_
          exact k47 _ (by have h33 := c33; rw [show (43 : Int32) = nI 43 from rfl] at h33; (first | rw [nI_leI (by omega) (by omega)] at h33 | rw [nI_ltI (by omega) (by omega)] at h33 | rw [nI_eq (by omega) (by omega)] at h33); have h39 := c39; rw [show (58 : Int32) = nI 58 from rfl] at h39; (first | rw [nI_leI (by omega) (by omega)] at h39 | rw [nI_ltI (by omega) (by omega)] at h39 | rw [nI_eq (by omega) (by omega)] at h39); exact bz_f (by omega))
        · refine lv_iconst (v := 1) hx hb d_Reader_isPrintable_42 (by decide) ?_
          refine lv_goto (tgt := 47) hx hb d_Reader_isPrintable_43 (by decide) ?_
          exact k47 _ (by have h33 := c33; rw [show (43 : Int32) = nI 43 from rfl] at h33; (first | rw [nI_leI (by omega) (by omega)] at h33 | rw [nI_ltI (by omega) (by omega)] at h33 | rw [nI_eq (by omega) (by omega)] at h33); have h39 := c39; rw [show (58 : Int32) = nI 58 from rfl] at h39; (first | rw [nI_leI (by omega) (by omega)] at h39 | rw [nI_ltI (by omega) (by omega)] at h39 | rw [nI_eq (by omega) (by omega)] at h39); exact bz_t (by omega))
  · skip
    refine lv_iload_n hx hb d_Reader_isPrintable_0 rfl (lv_at hl 0 rfl) ?_
    refine lv_bipush (v := 65) hx hb d_Reader_isPrintable_1 (by decide) ?_
    refine lv_icmp_lt (tgt := 12) hx hb d_Reader_isPrintable_3 (by decide) (fun c3 => ?_) (fun c3 => ?_)
    · refine lv_iload_n hx hb d_Reader_isPrintable_12 rfl (lv_at hl 0 rfl) ?_
      refine lv_bipush (v := 97) hx hb d_Reader_isPrintable_13 (by decide) ?_
      refine lv_icmp_lt (tgt := 28) hx hb d_Reader_isPrintable_15 (by decide) (fun c15 => ?_) (fun c15 => ?_)
      · refine lv_iconst (v := 0) hx hb d_Reader_isPrintable_28 (by decide) ?_
        exact k29 _ (by have h3 := c3; rw [show (65 : Int32) = nI 65 from rfl] at h3; (first | rw [nI_leI (by omega) (by omega)] at h3 | rw [nI_ltI (by omega) (by omega)] at h3 | rw [nI_eq (by omega) (by omega)] at h3); have h15 := c15; rw [show (97 : Int32) = nI 97 from rfl] at h15; (first | rw [nI_leI (by omega) (by omega)] at h15 | rw [nI_ltI (by omega) (by omega)] at h15 | rw [nI_eq (by omega) (by omega)] at h15); exact bz_f (by omega))
      · refine lv_iload_n hx hb d_Reader_isPrintable_18 rfl (lv_at hl 0 rfl) ?_
        refine lv_bipush (v := 122) hx hb d_Reader_isPrintable_19 (by decide) ?_
        refine lv_icmp_gt (tgt := 28) hx hb d_Reader_isPrintable_21 (by decide) (fun c21 => ?_) (fun c21 => ?_)
        · refine lv_iconst (v := 0) hx hb d_Reader_isPrintable_28 (by decide) ?_
          exact k29 _ (by have h3 := c3; rw [show (65 : Int32) = nI 65 from rfl] at h3; (first | rw [nI_leI (by omega) (by omega)] at h3 | rw [nI_ltI (by omega) (by omega)] at h3 | rw [nI_eq (by omega) (by omega)] at h3); have h15 := c15; rw [show (97 : Int32) = nI 97 from rfl] at h15; (first | rw [nI_leI (by omega) (by omega)] at h15 | rw [nI_ltI (by omega) (by omega)] at h15 | rw [nI_eq (by omega) (by omega)] at h15); have h21 := c21; rw [show (122 : Int32) = nI 122 from rfl] at h21; (first | rw [nI_leI (by omega) (by omega)] at h21 | rw [nI_ltI (by omega) (by omega)] at h21 | rw [nI_eq (by omega) (by omega)] at h21); exact bz_f (by omega))
        · refine lv_iconst (v := 1) hx hb d_Reader_isPrintable_24 (by decide) ?_
          refine lv_goto (tgt := 29) hx hb d_Reader_isPrintable_25 (by decide) ?_
          exact k29 _ (by have h3 := c3; rw [show (65 : Int32) = nI 65 from rfl] at h3; (first | rw [nI_leI (by omega) (by omega)] at h3 | rw [nI_ltI (by omega) (by omega)] at h3 | rw [nI_eq (by omega) (by omega)] at h3); have h15 := c15; rw [show (97 : Int32) = nI 97 from rfl] at h15; (first | rw [nI_leI (by omega) (by omega)] at h15 | rw [nI_ltI (by omega) (by omega)] at h15 | rw [nI_eq (by omega) (by omega)] at h15); have h21 := c21; rw [show (122 : Int32) = nI 122 from rfl] at h21; (first | rw [nI_leI (by omega) (by omega)] at h21 | rw [nI_ltI (by omega) (by omega)] at h21 | rw [nI_eq (by omega) (by omega)] at h21); exact bz_t (by omega))
    · refine lv_iload_n hx hb d_Reader_isPrintable_6 rfl (lv_at hl 0 rfl) ?_
      refine lv_bipush (v := 90) hx hb d_Reader_isPrintable_7 (by decide) ?_
      refine lv_icmp_le (tgt := 24) hx hb d_Reader_isPrintable_9 (by decide) (fun c9 => ?_) (fun c9 => ?_)
      · refine lv_iconst (v := 1) hx hb d_Reader_isPrintable_24 (by decide) ?_
        refine lv_goto (tgt := 29) hx hb d_Reader_isPrintable_25 (by decide) ?_
        exact k29 _ (by have h3 := c3; rw [show (65 : Int32) = nI 65 from rfl] at h3; (first | rw [nI_leI (by omega) (by omega)] at h3 | rw [nI_ltI (by omega) (by omega)] at h3 | rw [nI_eq (by omega) (by omega)] at h3); have h9 := c9; rw [show (90 : Int32) = nI 90 from rfl] at h9; (first | rw [nI_leI (by omega) (by omega)] at h9 | rw [nI_ltI (by omega) (by omega)] at h9 | rw [nI_eq (by omega) (by omega)] at h9); exact bz_t (by omega))
      · refine lv_iload_n hx hb d_Reader_isPrintable_12 rfl (lv_at hl 0 rfl) ?_
        refine lv_bipush (v := 97) hx hb d_Reader_isPrintable_13 (by decide) ?_
        refine lv_icmp_lt (tgt := 28) hx hb d_Reader_isPrintable_15 (by decide) (fun c15 => ?_) (fun c15 => ?_)
        · refine lv_iconst (v := 0) hx hb d_Reader_isPrintable_28 (by decide) ?_
          exact k29 _ (by have h3 := c3; rw [show (65 : Int32) = nI 65 from rfl] at h3; (first | rw [nI_leI (by omega) (by omega)] at h3 | rw [nI_ltI (by omega) (by omega)] at h3 | rw [nI_eq (by omega) (by omega)] at h3); have h9 := c9; rw [show (90 : Int32) = nI 90 from rfl] at h9; (first | rw [nI_leI (by omega) (by omega)] at h9 | rw [nI_ltI (by omega) (by omega)] at h9 | rw [nI_eq (by omega) (by omega)] at h9); have h15 := c15; rw [show (97 : Int32) = nI 97 from rfl] at h15; (first | rw [nI_leI (by omega) (by omega)] at h15 | rw [nI_ltI (by omega) (by omega)] at h15 | rw [nI_eq (by omega) (by omega)] at h15); exact bz_f (by omega))
        · refine lv_iload_n hx hb d_Reader_isPrintable_18 rfl (lv_at hl 0 rfl) ?_
          refine lv_bipush (v := 122) hx hb d_Reader_isPrintable_19 (by decide) ?_
          refine lv_icmp_gt (tgt := 28) hx hb d_Reader_isPrintable_21 (by decide) (fun c21 => ?_) (fun c21 => ?_)
          · refine lv_iconst (v := 0) hx hb d_Reader_isPrintable_28 (by decide) ?_
            exact k29 _ (by have h3 := c3; rw [show (65 : Int32) = nI 65 from rfl] at h3; (first | rw [nI_leI (by omega) (by omega)] at h3 | rw [nI_ltI (by omega) (by omega)] at h3 | rw [nI_eq (by omega) (by omega)] at h3); have h9 := c9; rw [show (90 : Int32) = nI 90 from rfl] at h9; (first | rw [nI_leI (by omega) (by omega)] at h9 | rw [nI_ltI (by omega) (by omega)] at h9 | rw [nI_eq (by omega) (by omega)] at h9); have h15 := c15; rw [show (97 : Int32) = nI 97 from rfl] at h15; (first | rw [nI_leI (by omega) (by omega)] at h15 | rw [nI_ltI (by omega) (by omega)] at h15 | rw [nI_eq (by omega) (by omega)] at h15); have h21 := c21; rw [show (122 : Int32) = nI 122 from rfl] at h21; (first | rw [nI_leI (by omega) (by omega)] at h21 | rw [nI_ltI (by omega) (by omega)] at h21 | rw [nI_eq (by omega) (by omega)] at h21); exact bz_f (by omega))
          · refine lv_iconst (v := 1) hx hb d_Reader_isPrintable_24 (by decide) ?_
            refine lv_goto (tgt := 29) hx hb d_Reader_isPrintable_25 (by decide) ?_
            exact k29 _ (by have h3 := c3; rw [show (65 : Int32) = nI 65 from rfl] at h3; (first | rw [nI_leI (by omega) (by omega)] at h3 | rw [nI_ltI (by omega) (by omega)] at h3 | rw [nI_eq (by omega) (by omega)] at h3); have h9 := c9; rw [show (90 : Int32) = nI 90 from rfl] at h9; (first | rw [nI_leI (by omega) (by omega)] at h9 | rw [nI_ltI (by omega) (by omega)] at h9 | rw [nI_eq (by omega) (by omega)] at h9); have h15 := c15; rw [show (97 : Int32) = nI 97 from rfl] at h15; (first | rw [nI_leI (by omega) (by omega)] at h15 | rw [nI_ltI (by omega) (by omega)] at h15 | rw [nI_eq (by omega) (by omega)] at h15); have h21 := c21; rw [show (122 : Int32) = nI 122 from rfl] at h21; (first | rw [nI_leI (by omega) (by omega)] at h21 | rw [nI_ltI (by omega) (by omega)] at h21 | rw [nI_eq (by omega) (by omega)] at h21); exact bz_t (by omega))
def y_Reader_isSimple : MethodName := ⟨"TrustChain$Reader", "isSimple", "(III)Z"⟩
abbrev b_Reader_isSimple : ByteArray := prog_8_method_29_code
def w_Reader_isSimple : List Cond := Cond.code y_Reader_isSimple b_Reader_isSimple 5 ((some FieldType.boolean)) :: tb
theorem d_Reader_isSimple_0 : decode b_Reader_isSimple 0 = .ok (.iload_n 2, 1) := by decide +kernel
theorem d_Reader_isSimple_1 : decode b_Reader_isSimple 1 = .ok (.istore 4, 2) := by decide +kernel
theorem d_Reader_isSimple_3 : decode b_Reader_isSimple 3 = .ok (.iload 4, 2) := by decide +kernel
theorem d_Reader_isSimple_5 : decode b_Reader_isSimple 5 = .ok (.iload_n 3, 1) := by decide +kernel
theorem d_Reader_isSimple_6 : decode b_Reader_isSimple 6 = .ok (.if_icmp .ge 44, 3) := by decide +kernel
theorem d_Reader_isSimple_9 : decode b_Reader_isSimple 9 = .ok (.iload_n 1, 1) := by decide +kernel
theorem d_Reader_isSimple_10 : decode b_Reader_isSimple 10 = .ok (.bipush 19, 2) := by decide +kernel
theorem d_Reader_isSimple_12 : decode b_Reader_isSimple 12 = .ok (.if_icmp .ne 18, 3) := by decide +kernel
theorem d_Reader_isSimple_15 : decode b_Reader_isSimple 15 = .ok (.aload_n 0, 1) := by decide +kernel
theorem d_Reader_isSimple_16 : decode b_Reader_isSimple 16 = .ok (.iload 4, 2) := by decide +kernel
theorem d_Reader_isSimple_18 : decode b_Reader_isSimple 18 = .ok (.invokevirtual 45, 3) := by decide +kernel
theorem d_Reader_isSimple_21 : decode b_Reader_isSimple 21 = .ok (.invokestatic 171, 3) := by decide +kernel
theorem d_Reader_isSimple_24 : decode b_Reader_isSimple 24 = .ok (.ifCond .ne 20, 3) := by decide +kernel
theorem d_Reader_isSimple_27 : decode b_Reader_isSimple 27 = .ok (.goto 15, 3) := by decide +kernel
theorem d_Reader_isSimple_30 : decode b_Reader_isSimple 30 = .ok (.aload_n 0, 1) := by decide +kernel
theorem d_Reader_isSimple_31 : decode b_Reader_isSimple 31 = .ok (.iload 4, 2) := by decide +kernel
theorem d_Reader_isSimple_33 : decode b_Reader_isSimple 33 = .ok (.invokevirtual 45, 3) := by decide +kernel
theorem d_Reader_isSimple_36 : decode b_Reader_isSimple 36 = .ok (.sipush 128, 3) := by decide +kernel
theorem d_Reader_isSimple_39 : decode b_Reader_isSimple 39 = .ok (.if_icmp .lt 5, 3) := by decide +kernel
theorem d_Reader_isSimple_42 : decode b_Reader_isSimple 42 = .ok (.iconst 0, 1) := by decide +kernel
theorem d_Reader_isSimple_43 : decode b_Reader_isSimple 43 = .ok (.ireturn, 1) := by decide +kernel
theorem d_Reader_isSimple_44 : decode b_Reader_isSimple 44 = .ok (.iinc 4 1, 3) := by decide +kernel
theorem d_Reader_isSimple_47 : decode b_Reader_isSimple 47 = .ok (.goto (-44), 3) := by decide +kernel
theorem d_Reader_isSimple_50 : decode b_Reader_isSimple 50 = .ok (.iconst 1, 1) := by decide +kernel
theorem d_Reader_isSimple_51 : decode b_Reader_isSimple 51 = .ok (.ireturn, 1) := by decide +kernel
def smOK (u : Nat → Nat) (tg k : Nat) : Prop := (tg = 19 → prN (u k)) ∧ (tg ≠ 19 → u k < 128)
def smN (u : Nat → Nat) (tg a b : Nat) : Prop := ∀ k, a ≤ k → k < b → smOK u tg k
set_option maxHeartbeats 4000000 in
set_option maxRecDepth 100000 in
theorem cC_isSimple (l : Launch) (dC : Nat → ClassId) (dI : Nat → Nat → Nat) (sb : sB) (h res t ki : Nat) (pp s0 n : Nat) (w : Option Nat) (pa ma ex ie : Int32) (cB : ClassId) (u : Nat → Nat) (tg a b : Nat) (hu : ∀ j, u j < 256) (hn : n < 2 ^ 30) (hab : a ≤ b) (hb2 : b ≤ n) (hg : tg < 256) : Met l y_Reader_isSimple w_Reader_isSimple ({ frames := 5, cells := 0, slots := 0, locals := 150 }) (pu_P [.ref h, .int (nI tg), .int (nI a), .int (nI b)] (dC, dI) sb [(h, .inr (4, [.ref res, .ref t, .int (nI pp), .int (nI s0), .int (wI w), .int pa, .int ma, .int ex, .ref ki])), (t, .inl (cB, n, .inl (tx u)))] [(cB, .byte)]) (vp_Si (fun r => bz r (smN u tg a b))) 0 0 (fun _ => False) := by
  refine Met.ofW (cc := b_Reader_isSimple) (maxL := 5) (ret := (some FieldType.boolean)) (by decide) rfl ?_
  intro p e s m args below meth c s₁ B hml hv
  obtain ⟨rfl, hP, hK, hN, hT0⟩ := hv
  have hx := B.exec
  have hb := B.bytes
  have hr := B.returns
  have hts := atoms_spec (ws := w_Reader_isSimple) B.pre
  have tbin : ∀ w ∈ tb, w ∈ w_Reader_isSimple := fun w h => List.mem_cons_of_mem _ h
  have htb : ∀ w ∈ tb, w.before _ s = true := fun w h => hts w (tbin w h)
  have hown : s.vm.findClass "TrustChain$Reader" = some m.cls := findClass_of_methodNamed B.named
  have hlocks := B.notSynchronized
  have hcs : 0 ≤ (headSpec w_Reader_isSimple ({ frames := 5, cells := 0, slots := 0, locals := 150 })).room.cells ∧ 0 ≤ (headSpec w_Reader_isSimple ({ frames := 5, cells := 0, slots := 0, locals := 150 })).room.slots := ⟨Nat.zero_le _, Nat.zero_le _⟩
  have hP : va_P (dC, dI) classes [(h, .inr (4, [.ref res, .ref t, .int (nI pp), .int (nI s0), .int (wI w), .int pa, .int ma, .int ex, .ref ki])), (t, .inl (cB, n, .inl (tx u)))] s.heap := hP
  have hl := lv_entry ([.ref h, .int (nI tg), .int (nI a), .int (nI b)]) (n := 5) (Nat.le_of_ble_eq_true rfl)
  rw [lg_entry_eq]
  generalize (lg_sl ([.ref h, .int (nI tg), .int (nI a), .int (nI b)]) ++ List.replicate (5 - (lg_sl ([.ref h, .int (nI tg), .int (nI a), .int (nI b)])).length) Slot.unset).toArray = ls at hl ⊢
  have hl : lv_has ls 5 [(0, .ref h), (1, .int (nI tg)), (2, .int (nI a)), (3, .int (nI b))] := hl
  refine lv_iload_n hx hb d_Reader_isSimple_0 rfl (lv_at hl 2 rfl) ?_
  refine lv_istore (lv' := [(4, .int (nI a)), (0, .ref h), (1, .int (nI tg)), (2, .int (nI a)), (3, .int (nI b))]) hx hb d_Reader_isSimple_1 hl (by decide) rfl (fun ls hl => ?_)
  refine w_loop (α := Nat) (fun k => a ≤ k ∧ k ≤ b ∧ smN u tg a k) (fun k => b - k) (fun k => [(0, .ref h), (1, .int (nI tg)), (2, .int (nI a)), (3, .int (nI b)), (4, .int (nI k))]) (fun _ => []) 5 3 (fun k ls hJ hl ih => ?_) a ls (⟨Nat.le_refl _, hab, fun j h1 h2 => absurd h2 (by omega)⟩) (lv_sub hl [1, 2, 3, 4, 0] rfl)
  refine lv_iload hx hb d_Reader_isSimple_3 (lv_at hl 4 rfl) ?_
  refine lv_iload_n hx hb d_Reader_isSimple_5 rfl (lv_at hl 3 rfl) ?_
  refine lv_icmp_ge (tgt := 50) hx hb d_Reader_isSimple_6 (by decide) (fun c6 => ?_) (fun c6 => ?_)
  · have hke : k = b := by rw [nI_leI (by omega) (by omega)] at c6; omega
    refine lv_iconst (v := 1) hx hb d_Reader_isSimple_50 (by decide) ?_
    exact W.zret (v := 1) hx hb hr (by decide) (fun t ht hW => ⟨_, rfl, bz_t (hke ▸ hJ.2.2), ht⟩) (fun q h => by cases h) d_Reader_isSimple_51
  · have hlt : k < b := by rw [nI_leI (by omega) (by omega)] at c6; omega
    refine lv_iload_n hx hb d_Reader_isSimple_9 rfl (lv_at hl 1 rfl) ?_
    refine lv_bipush (v := 19) hx hb d_Reader_isSimple_10 (by decide) ?_
    refine lv_icmp_ne (tgt := 30) hx hb d_Reader_isSimple_12 (by decide) (fun c12 => ?_) (fun c12 => ?_)
    · refine lv_aload_n hx hb d_Reader_isSimple_30 rfl (lv_at hl 0 rfl) ?_
      refine lv_iload hx hb d_Reader_isSimple_31 (lv_at hl 4 rfl) ?_
      refine vp_callSi (pu_callU (As := [.int (nI k)]) (rest := []) ⟨hx, hb, hml, hown, hts⟩ (cC_octet l dC dI sb h res t ki pp s0 n w pa ma ex ie cB u (nI k) hu hn) (cu_of (n := 1) hts tbin q3_114 q3_116 q3_115 q3_117 q1_15 q3_119 rfl (by decide +kernel) ⟨rfl, rfl⟩ ⟨Nat.le_of_ble_eq_true rfl, Nat.le_of_ble_eq_true rfl⟩) rfl ⟨Nat.le_of_ble_eq_true rfl, Nat.le_of_ble_eq_true rfl⟩ hN hT0 hK hP [0, 1] rfl [0] rfl 0 4 rfl rfl rfl hl.1 rfl (Nat.le_of_ble_eq_true rfl) d_Reader_isSimple_33) (fun r33 hr33 => ?_)
      rw [oc_eq (by omega), oc, if_pos (by omega)] at hr33
      subst hr33
      refine lv_sipush (v := 128) hx hb d_Reader_isSimple_36 (by decide) ?_
      refine lv_icmp_lt (tgt := 44) hx hb d_Reader_isSimple_39 (by decide) (fun c39 => ?_) (fun c39 => ?_)
      · refine lv_iinc (v := nI (k + 1)) (lv' := [(4, .int (nI (k + 1))), (0, .ref h), (1, .int (nI tg)), (2, .int (nI a)), (3, .int (nI b))]) hx hb d_Reader_isSimple_44 hl (k := 4) rfl (nI_1 _) (by decide) rfl (fun ls hl => ?_)
        refine lv_goto (tgt := 3) hx hb d_Reader_isSimple_47 (by decide) ?_
        exact ih (k + 1) ls (by omega) (⟨by omega, by omega, fun j h1 h2 => (Nat.lt_succ_iff_lt_or_eq.mp h2).elim (hJ.2.2 j h1) (fun q => by rw [q]; exact ⟨fun q => absurd q (fun q9 => c12 (by rw [q9]; rfl)), fun _ => (by have h9 := c39; rw [show (128 : Int32) = nI 128 from rfl, nI_ltI (by have := hu k; omega) (by omega)] at h9; omega)⟩)⟩) (lv_sub hl [1, 2, 3, 4, 0] rfl)
      · refine lv_iconst (v := 0) hx hb d_Reader_isSimple_42 (by decide) ?_
        exact W.zret (v := 0) hx hb hr (by decide) (fun t ht hW => ⟨_, rfl, bz_f (fun q => absurd ((q k hJ.1 hlt).2 (fun q9 => c12 (by rw [q9]; rfl))) (by have h9 := c39; rw [show (128 : Int32) = nI 128 from rfl, nI_ltI (by have := hu k; omega) (by omega)] at h9; omega)), ht⟩) (fun q h => by cases h) d_Reader_isSimple_43
    · refine lv_aload_n hx hb d_Reader_isSimple_15 rfl (lv_at hl 0 rfl) ?_
      refine lv_iload hx hb d_Reader_isSimple_16 (lv_at hl 4 rfl) ?_
      refine vp_callSi (pu_callU (As := [.int (nI k)]) (rest := []) ⟨hx, hb, hml, hown, hts⟩ (cC_octet l dC dI sb h res t ki pp s0 n w pa ma ex ie cB u (nI k) hu hn) (cu_of (n := 1) hts tbin q3_114 q3_116 q3_115 q3_117 q1_15 q3_119 rfl (by decide +kernel) ⟨rfl, rfl⟩ ⟨Nat.le_of_ble_eq_true rfl, Nat.le_of_ble_eq_true rfl⟩) rfl ⟨Nat.le_of_ble_eq_true rfl, Nat.le_of_ble_eq_true rfl⟩ hN hT0 hK hP [0, 1] rfl [0] rfl 0 4 rfl rfl rfl hl.1 rfl (Nat.le_of_ble_eq_true rfl) d_Reader_isSimple_18) (fun r18 hr18 => ?_)
      rw [oc_eq (by omega), oc, if_pos (by omega)] at hr18
      subst hr18
      refine vp_callSi (pu_callS (As := [.int (nI (u k))]) (rest := []) ⟨hx, hb, hml, hown, hts⟩ tbin (c_isPrintable l dC dI sb (u k) (hu k)) q3_224 q3_225 q1_15 q3_226 (n := 1) (by decide +kernel) rfl ⟨rfl, rfl⟩ ⟨Nat.le_of_ble_eq_true rfl, Nat.le_of_ble_eq_true rfl⟩ ⟨Nat.le_of_ble_eq_true rfl, Nat.le_of_ble_eq_true rfl⟩ hN hT0 hK hP [] rfl [] rfl hl.1 rfl (Nat.le_of_ble_eq_true rfl) d_Reader_isSimple_21) (fun r21 hr21 => ?_)
      refine lv_if_ne (tgt := 44) hx hb d_Reader_isSimple_24 (by decide) (fun c24 => ?_) (fun c24 => ?_)
      · refine lv_iinc (v := nI (k + 1)) (lv' := [(4, .int (nI (k + 1))), (0, .ref h), (1, .int (nI tg)), (2, .int (nI a)), (3, .int (nI b))]) hx hb d_Reader_isSimple_44 hl (k := 4) rfl (nI_1 _) (by decide) rfl (fun ls hl => ?_)
        refine lv_goto (tgt := 3) hx hb d_Reader_isSimple_47 (by decide) ?_
        exact ih (k + 1) ls (by omega) (⟨by omega, by omega, fun j h1 h2 => (Nat.lt_succ_iff_lt_or_eq.mp h2).elim (hJ.2.2 j h1) (fun q => by rw [q]; exact ⟨fun _ => bz_1 hr21 c24, fun q => absurd (show tg = 19 from by have h9 := (show nI tg = 19 from by first | exact c12 | exact Classical.not_not.mp c12); rw [show (19 : Int32) = nI 19 from rfl, nI_eq (by omega) (by omega)] at h9; exact h9) q⟩)⟩) (lv_sub hl [1, 2, 3, 4, 0] rfl)
      · refine lv_goto (tgt := 42) hx hb d_Reader_isSimple_27 (by decide) ?_
        refine lv_iconst (v := 0) hx hb d_Reader_isSimple_42 (by decide) ?_
        exact W.zret (v := 0) hx hb hr (by decide) (fun t ht hW => ⟨_, rfl, bz_f (fun q => (bz_0 hr21 (by first | exact c24 | exact Classical.not_not.mp c24)) ((q k hJ.1 hlt).1 (show tg = 19 from by have h9 := (show nI tg = 19 from by first | exact c12 | exact Classical.not_not.mp c12); rw [show (19 : Int32) = nI 19 from rfl, nI_eq (by omega) (by omega)] at h9; exact h9))), ht⟩) (fun q h => by cases h) d_Reader_isSimple_43
set_option maxHeartbeats 4000000 in
set_option maxRecDepth 100000 in
theorem cL_isSimple (l : Launch) (dC : Nat → ClassId) (dI : Nat → Nat → Nat) (sb : sB) (h res t ki : Nat) (pp s0 n : Nat) (w : Option Nat) (pa ma ex ie : Int32) (cB : ClassId) (u : Nat → Nat) (tg a b : Nat) (hu : ∀ j, u j < 256) (hn : n < 2 ^ 30) (hab : a ≤ b) (hb2 : b ≤ n) (hg : tg < 256) : Met l y_Reader_isSimple w_Reader_isSimple ({ frames := 5, cells := 0, slots := 0, locals := 150 }) (pu_P [.ref h, .int (nI tg), .int (nI a), .int (nI b)] (dC, dI) sb [(h, .inr (5, [.ref res, .int ie, .ref t, .int (nI pp), .int (nI s0), .int (wI w), .int pa, .int ma, .int ex, .ref ki])), (t, .inl (cB, n, .inl (tx u)))] [(cB, .byte)]) (vp_Si (fun r => bz r (smN u tg a b))) 0 0 (fun _ => False) := by
  refine Met.ofW (cc := b_Reader_isSimple) (maxL := 5) (ret := (some FieldType.boolean)) (by decide) rfl ?_
  intro p e s m args below meth c s₁ B hml hv
  obtain ⟨rfl, hP, hK, hN, hT0⟩ := hv
  have hx := B.exec
  have hb := B.bytes
  have hr := B.returns
  have hts := atoms_spec (ws := w_Reader_isSimple) B.pre
  have tbin : ∀ w ∈ tb, w ∈ w_Reader_isSimple := fun w h => List.mem_cons_of_mem _ h
  have htb : ∀ w ∈ tb, w.before _ s = true := fun w h => hts w (tbin w h)
  have hown : s.vm.findClass "TrustChain$Reader" = some m.cls := findClass_of_methodNamed B.named
  have hlocks := B.notSynchronized
  have hcs : 0 ≤ (headSpec w_Reader_isSimple ({ frames := 5, cells := 0, slots := 0, locals := 150 })).room.cells ∧ 0 ≤ (headSpec w_Reader_isSimple ({ frames := 5, cells := 0, slots := 0, locals := 150 })).room.slots := ⟨Nat.zero_le _, Nat.zero_le _⟩
  have hP : va_P (dC, dI) classes [(h, .inr (5, [.ref res, .int ie, .ref t, .int (nI pp), .int (nI s0), .int (wI w), .int pa, .int ma, .int ex, .ref ki])), (t, .inl (cB, n, .inl (tx u)))] s.heap := hP
  have hl := lv_entry ([.ref h, .int (nI tg), .int (nI a), .int (nI b)]) (n := 5) (Nat.le_of_ble_eq_true rfl)
  rw [lg_entry_eq]
  generalize (lg_sl ([.ref h, .int (nI tg), .int (nI a), .int (nI b)]) ++ List.replicate (5 - (lg_sl ([.ref h, .int (nI tg), .int (nI a), .int (nI b)])).length) Slot.unset).toArray = ls at hl ⊢
  have hl : lv_has ls 5 [(0, .ref h), (1, .int (nI tg)), (2, .int (nI a)), (3, .int (nI b))] := hl
  refine lv_iload_n hx hb d_Reader_isSimple_0 rfl (lv_at hl 2 rfl) ?_
  refine lv_istore (lv' := [(4, .int (nI a)), (0, .ref h), (1, .int (nI tg)), (2, .int (nI a)), (3, .int (nI b))]) hx hb d_Reader_isSimple_1 hl (by decide) rfl (fun ls hl => ?_)
  refine w_loop (α := Nat) (fun k => a ≤ k ∧ k ≤ b ∧ smN u tg a k) (fun k => b - k) (fun k => [(0, .ref h), (1, .int (nI tg)), (2, .int (nI a)), (3, .int (nI b)), (4, .int (nI k))]) (fun _ => []) 5 3 (fun k ls hJ hl ih => ?_) a ls (⟨Nat.le_refl _, hab, fun j h1 h2 => absurd h2 (by omega)⟩) (lv_sub hl [1, 2, 3, 4, 0] rfl)
  refine lv_iload hx hb d_Reader_isSimple_3 (lv_at hl 4 rfl) ?_
  refine lv_iload_n hx hb d_Reader_isSimple_5 rfl (lv_at hl 3 rfl) ?_
  refine lv_icmp_ge (tgt := 50) hx hb d_Reader_isSimple_6 (by decide) (fun c6 => ?_) (fun c6 => ?_)
  · have hke : k = b := by rw [nI_leI (by omega) (by omega)] at c6; omega
    refine lv_iconst (v := 1) hx hb d_Reader_isSimple_50 (by decide) ?_
    exact W.zret (v := 1) hx hb hr (by decide) (fun t ht hW => ⟨_, rfl, bz_t (hke ▸ hJ.2.2), ht⟩) (fun q h => by cases h) d_Reader_isSimple_51
  · have hlt : k < b := by rw [nI_leI (by omega) (by omega)] at c6; omega
    refine lv_iload_n hx hb d_Reader_isSimple_9 rfl (lv_at hl 1 rfl) ?_
    refine lv_bipush (v := 19) hx hb d_Reader_isSimple_10 (by decide) ?_
    refine lv_icmp_ne (tgt := 30) hx hb d_Reader_isSimple_12 (by decide) (fun c12 => ?_) (fun c12 => ?_)
    · refine lv_aload_n hx hb d_Reader_isSimple_30 rfl (lv_at hl 0 rfl) ?_
      refine lv_iload hx hb d_Reader_isSimple_31 (lv_at hl 4 rfl) ?_
      refine vp_callSi (pu_callU (As := [.int (nI k)]) (rest := []) ⟨hx, hb, hml, hown, hts⟩ (cL_octet l dC dI sb h res t ki pp s0 n w pa ma ex ie cB u (nI k) hu hn) (cu_of (n := 1) hts tbin q3_114 q3_116 q3_115 q3_118 q1_15 q3_119 rfl (by decide +kernel) ⟨rfl, rfl⟩ ⟨Nat.le_of_ble_eq_true rfl, Nat.le_of_ble_eq_true rfl⟩) rfl ⟨Nat.le_of_ble_eq_true rfl, Nat.le_of_ble_eq_true rfl⟩ hN hT0 hK hP [0, 1] rfl [0] rfl 0 5 rfl rfl rfl hl.1 rfl (Nat.le_of_ble_eq_true rfl) d_Reader_isSimple_33) (fun r33 hr33 => ?_)
      rw [oc_eq (by omega), oc, if_pos (by omega)] at hr33
      subst hr33
      refine lv_sipush (v := 128) hx hb d_Reader_isSimple_36 (by decide) ?_
      refine lv_icmp_lt (tgt := 44) hx hb d_Reader_isSimple_39 (by decide) (fun c39 => ?_) (fun c39 => ?_)
      · refine lv_iinc (v := nI (k + 1)) (lv' := [(4, .int (nI (k + 1))), (0, .ref h), (1, .int (nI tg)), (2, .int (nI a)), (3, .int (nI b))]) hx hb d_Reader_isSimple_44 hl (k := 4) rfl (nI_1 _) (by decide) rfl (fun ls hl => ?_)
        refine lv_goto (tgt := 3) hx hb d_Reader_isSimple_47 (by decide) ?_
        exact ih (k + 1) ls (by omega) (⟨by omega, by omega, fun j h1 h2 => (Nat.lt_succ_iff_lt_or_eq.mp h2).elim (hJ.2.2 j h1) (fun q => by rw [q]; exact ⟨fun q => absurd q (fun q9 => c12 (by rw [q9]; rfl)), fun _ => (by have h9 := c39; rw [show (128 : Int32) = nI 128 from rfl, nI_ltI (by have := hu k; omega) (by omega)] at h9; omega)⟩)⟩) (lv_sub hl [1, 2, 3, 4, 0] rfl)
      · refine lv_iconst (v := 0) hx hb d_Reader_isSimple_42 (by decide) ?_
        exact W.zret (v := 0) hx hb hr (by decide) (fun t ht hW => ⟨_, rfl, bz_f (fun q => absurd ((q k hJ.1 hlt).2 (fun q9 => c12 (by rw [q9]; rfl))) (by have h9 := c39; rw [show (128 : Int32) = nI 128 from rfl, nI_ltI (by have := hu k; omega) (by omega)] at h9; omega)), ht⟩) (fun q h => by cases h) d_Reader_isSimple_43
    · refine lv_aload_n hx hb d_Reader_isSimple_15 rfl (lv_at hl 0 rfl) ?_
      refine lv_iload hx hb d_Reader_isSimple_16 (lv_at hl 4 rfl) ?_
      refine vp_callSi (pu_callU (As := [.int (nI k)]) (rest := []) ⟨hx, hb, hml, hown, hts⟩ (cL_octet l dC dI sb h res t ki pp s0 n w pa ma ex ie cB u (nI k) hu hn) (cu_of (n := 1) hts tbin q3_114 q3_116 q3_115 q3_118 q1_15 q3_119 rfl (by decide +kernel) ⟨rfl, rfl⟩ ⟨Nat.le_of_ble_eq_true rfl, Nat.le_of_ble_eq_true rfl⟩) rfl ⟨Nat.le_of_ble_eq_true rfl, Nat.le_of_ble_eq_true rfl⟩ hN hT0 hK hP [0, 1] rfl [0] rfl 0 5 rfl rfl rfl hl.1 rfl (Nat.le_of_ble_eq_true rfl) d_Reader_isSimple_18) (fun r18 hr18 => ?_)
      rw [oc_eq (by omega), oc, if_pos (by omega)] at hr18
      subst hr18
      refine vp_callSi (pu_callS (As := [.int (nI (u k))]) (rest := []) ⟨hx, hb, hml, hown, hts⟩ tbin (c_isPrintable l dC dI sb (u k) (hu k)) q3_224 q3_225 q1_15 q3_226 (n := 1) (by decide +kernel) rfl ⟨rfl, rfl⟩ ⟨Nat.le_of_ble_eq_true rfl, Nat.le_of_ble_eq_true rfl⟩ ⟨Nat.le_of_ble_eq_true rfl, Nat.le_of_ble_eq_true rfl⟩ hN hT0 hK hP [] rfl [] rfl hl.1 rfl (Nat.le_of_ble_eq_true rfl) d_Reader_isSimple_21) (fun r21 hr21 => ?_)
      refine lv_if_ne (tgt := 44) hx hb d_Reader_isSimple_24 (by decide) (fun c24 => ?_) (fun c24 => ?_)
      · refine lv_iinc (v := nI (k + 1)) (lv' := [(4, .int (nI (k + 1))), (0, .ref h), (1, .int (nI tg)), (2, .int (nI a)), (3, .int (nI b))]) hx hb d_Reader_isSimple_44 hl (k := 4) rfl (nI_1 _) (by decide) rfl (fun ls hl => ?_)
        refine lv_goto (tgt := 3) hx hb d_Reader_isSimple_47 (by decide) ?_
        exact ih (k + 1) ls (by omega) (⟨by omega, by omega, fun j h1 h2 => (Nat.lt_succ_iff_lt_or_eq.mp h2).elim (hJ.2.2 j h1) (fun q => by rw [q]; exact ⟨fun _ => bz_1 hr21 c24, fun q => absurd (show tg = 19 from by have h9 := (show nI tg = 19 from by first | exact c12 | exact Classical.not_not.mp c12); rw [show (19 : Int32) = nI 19 from rfl, nI_eq (by omega) (by omega)] at h9; exact h9) q⟩)⟩) (lv_sub hl [1, 2, 3, 4, 0] rfl)
      · refine lv_goto (tgt := 42) hx hb d_Reader_isSimple_27 (by decide) ?_
        refine lv_iconst (v := 0) hx hb d_Reader_isSimple_42 (by decide) ?_
        exact W.zret (v := 0) hx hb hr (by decide) (fun t ht hW => ⟨_, rfl, bz_f (fun q => (bz_0 hr21 (by first | exact c24 | exact Classical.not_not.mp c24)) ((q k hJ.1 hlt).1 (show tg = 19 from by have h9 := (show nI tg = 19 from by first | exact c12 | exact Classical.not_not.mp c12); rw [show (19 : Int32) = nI 19 from rfl, nI_eq (by omega) (by omega)] at h9; exact h9))), ht⟩) (fun q h => by cases h) d_Reader_isSimple_43
