/-! My own rows over the kit: calls of methods that change nothing ("pure"), joins, loops. -/
theorem gd_in {Ts ws : List Cond} (hin : ∀ w ∈ tb, w ∈ Ts) (h : ∀ w ∈ ws, w ∈ tb) : GoodIn Ts ws := fun w hw => ⟨hin w (h w hw), good_of_word (tb_good (h w hw))⟩
theorem gd_cons {c : Cond} (h : c ∈ tb) : ∀ w ∈ c :: tb, w ∈ tb := fun w hw => (List.mem_cons.mp hw).elim (fun e => e ▸ h) id
theorem gd_V {Ts : List Cond} {own C : String} {index maxL : Nat} {y : MethodName} {bytes : ByteArray} {ret : Option FieldType} (hin : ∀ w ∈ tb, w ∈ Ts) (h1 : Cond.methodLink own index y ∈ tb) (h2 : Cond.instanceMethod y ∈ tb) (h3 : Cond.selects C y y ∈ tb) (h4 : Cond.initialized C ∈ tb) (h5 : Cond.code y bytes maxL ret ∈ tb) :
    GoodIn Ts (wsV own index C y (Cond.code y bytes maxL ret :: tb)) := by
  refine gd_in hin (fun w hw => ?_)
  rcases List.mem_append.mp hw with hw | hw
  · rcases List.mem_cons.mp hw with rfl | hw
    · exact h1
    rcases List.mem_cons.mp hw with rfl | hw
    · exact h2
    rcases List.mem_cons.mp hw with rfl | hw
    · exact h3
    rcases List.mem_cons.mp hw with rfl | hw
    · exact h4
    cases hw
  · exact gd_cons h5 w hw
theorem gd_S {Ts : List Cond} {own : String} {index maxL : Nat} {y : MethodName} {bytes : ByteArray} {ret : Option FieldType} (hin : ∀ w ∈ tb, w ∈ Ts) (h1 : Cond.methodLink own index y ∈ tb) (h2 : Cond.static y ∈ tb) (h4 : Cond.initialized y.cls ∈ tb) (h5 : Cond.code y bytes maxL ret ∈ tb) :
    GoodIn Ts (va_wsS own index y (Cond.code y bytes maxL ret :: tb)) := by
  refine gd_in hin (fun w hw => ?_)
  rcases List.mem_append.mp hw with hw | hw
  · rcases List.mem_cons.mp hw with rfl | hw
    · exact h1
    rcases List.mem_cons.mp hw with rfl | hw
    · exact h2
    rcases List.mem_cons.mp hw with rfl | hw
    · exact h4
    cases hw
  · exact gd_cons h5 w hw
def nw_kind : Cond → Bool
  | .fieldLinkNest .. => true
  | .methodLinkNest .. => true
  | .declares .. => true
  | .castable .. => true
  | .arrayOver (.object _) => true
  | _ => false
theorem nw_kinds : ∀ w ∈ nwords, nw_kind w = true := by decide +kernel
theorem nw_warm1 {w : Cond} (hk : nw_kind w = true) {s U : State} (hW : s.WarmedH U.vm) (h : va_Nw w s) : va_Nw w U := by
  cases w with
  | fieldLinkNest a b c d e f => exact va_Nw.warmF hW h
  | methodLinkNest a b c d => exact va_Nw.warmM hW h
  | declares x => exact va_Nw.warmD hW h
  | castable a b => exact va_Nw.warmC hW h
  | arrayOver t =>
    cases t with
    | object C => exact va_AO.moved hW.alike h
    | _ => exact absurd hk (by simp [nw_kind])
  | _ => exact absurd hk (by simp [nw_kind])
abbrev sB : Type := Nat × (Nat → Nat)
/-- the String constants that are read: class, entry, text, octets. The k-th lies at sb.2 (10 + k), its octets at sb.2 (20 + k) -/
def kstr : List (String × Nat × String × List Int32) := [("TrustChainModel$Text", 113, " '()+,-./:=?", [32, 39, 40, 41, 43, 44, 45, 46, 47, 58, 61, 63]), ("TrustChainModel$Text", 264, "2A864886F70D01010B", [50, 65, 56, 54, 52, 56, 56, 54, 70, 55, 48, 68, 48, 49, 48, 49, 48, 66]), ("TrustChainModel$Text", 307, "2A864886F70D010101", [50, 65, 56, 54, 52, 56, 56, 54, 70, 55, 48, 68, 48, 49, 48, 49, 48, 49]), ("TrustChainModel", 296, "3031300D060960864801650304020105000420", [51, 48, 51, 49, 51, 48, 48, 68, 48, 54, 48, 57, 54, 48, 56, 54, 52, 56, 48, 49, 54, 53, 48, 51, 48, 52, 48, 50, 48, 49, 48, 53, 48, 48, 48, 52, 50, 48])]
def nwA (U : State) : Prop := ∀ w ∈ nwords, va_Nw w U
theorem nwA.warm {s U : State} (hW : s.WarmedH U.vm) (h : nwA s) : nwA U := fun w hw => nw_warm1 (nw_kinds w hw) hW (h w hw)
theorem nwA.same {s U : State} (e : s.vm = U.vm) (h : nwA s) : nwA U := fun w hw => by
  have hk := nw_kinds w hw
  have h1 := h w hw
  cases w with
  | fieldLinkNest a b c d f g => exact va_Nw.same rfl e h1
  | methodLinkNest a b c d => exact va_Nw.same rfl e h1
  | declares x => exact va_Nw.same rfl e h1
  | castable a b => exact va_Nw.same rfl e h1
  | arrayOver t =>
    cases t with
    | object C => exact va_AO.moved (e ▸ Vm.Alike.refl s.vm) h1
    | _ => exact absurd hk (by simp [nw_kind])
  | _ => exact absurd hk (by simp [nw_kind])
/-- these words hold of a state, the constants lie where sb says -/
def nwOK (sb : sB) (U : State) : Prop := nwA U ∧ (∀ (k : Nat) (z : String × Nat × String × List Int32), (kstr[k]? = some z → vk_R z.1 z.2.1 z.2.2.1 (sb.2 (10 + k)) U)) ∧ va_Mi "[Ljava/lang/Object;" (sb.2 9) U
theorem nwOK.warm {sb : sB} {s U : State} (hW : s.WarmedH U.vm) (h : nwOK sb s) : nwOK sb U := ⟨h.1.warm hW, fun k z hz => (h.2.1 k z hz).warm hW, va_Mi.moved hW.alike h.2.2⟩
theorem nwOK.same {sb : sB} {s U : State} (e : s.vm = U.vm) (h : nwOK sb s) : nwOK sb U := ⟨h.1.same e, fun k z hz => (h.2.1 k z hz).same e.symm, va_Mi.moved (e ▸ Vm.Alike.refl s.vm) h.2.2⟩
/-! Statics that nobody writes. sb: below sb.1 lies what was there when the law began; sb.2 k: where the k-th of these arrays lies. -/
def sv_PKCS1 : List Int32 := [42, 134, 72, 134, 247, 13, 1, 1]
def sv_MONTH_STARTS : List Int32 := [0, 31, 59, 90, 120, 151, 181, 212, 243, 273, 304, 334, 365]
def sv_START : List Int32 := [1779033703, -1150833019, 1013904242, -1521486534, 1359893119, -1694144372, 528734635, 1541459225]
def sv_ROUND : List Int32 := [1116352408, 1899447441, -1245643825, -373957723, 961987163, 1508970993, -1841331548, -1424204075, -670586216, 310598401, 607225278, 1426881987, 1925078388, -2132889090, -1680079193, -1046744716, -459576895, -272742522, 264347078, 604807628, 770255983, 1249150122, 1555081692, 1996064986, -1740746414, -1473132947, -1341970488, -1084653625, -958395405, -710438585, 113926993, 338241895, 666307205, 773529912, 1294757372, 1396182291, 1695183700, 1986661051, -2117940946, -1838011259, -1564481375, -1474664885, -1035236496, -949202525, -778901479, -694614492, -200395387, 275423344, 430227734, 506948616, 659060556, 883997877, 958139571, 1322822218, 1537002063, 1747873779, 1955562222, 2024104815, -2067236844, -1933114872, -1866530822, -1538233109, -1090935817, -965641998]
def sv_PREFIX : List Int32 := [48, 49, 48, 13, 6, 9, 96, 134, 72, 1, 101, 3, 4, 2, 1, 5, 0, 4, 32]
def st1 (sb : sB) (C nm : String) (k : Nat) (vs : List Int32) (U : State) (H : Heap) : Prop := va_Z C nm "[I" (.ref (sb.2 k)) (fun q => sb.1 ≤ q) U H ∧ va_T .int (sb.2 k) vs.length (fun j => .int (vs.getD j 0)) (fun q => sb.1 ≤ q) U H
/-- a String constant's cells -/
def sk1 (sb : sB) (k : Nat) (bs : List Int32) (U : State) (H : Heap) : Prop := va_O "java/lang/String" (sb.2 (10 + k)) (fun q => sb.1 ≤ q) U H ∧ va_OF "java/lang/String" "coder" "B" (.int 0) (sb.2 (10 + k)) (fun q => sb.1 ≤ q) U H ∧ va_OF "java/lang/String" "value" "[B" (.ref (sb.2 (20 + k))) (sb.2 (10 + k)) (fun q => sb.1 ≤ q) U H ∧ va_T .byte (sb.2 (20 + k)) bs.length (fun j => .int (bs.getD j 0)) (fun q => sb.1 ≤ q) U H
theorem sk1.moved {sb : sB} {k : Nat} {bs : List Int32} {u U : State} {H : Heap} (hvm : u.vm.Alike U.vm) (h : sk1 sb k bs u H) : sk1 sb k bs U H := ⟨h.1.moved hvm, h.2.1.moved hvm, h.2.2.1.moved hvm, h.2.2.2.moved hvm⟩
theorem sk1.kept {sb : sB} {k : Nat} {bs : List Int32} {U : State} {H H1 : Heap} (h : sk1 sb k bs U H) (hq : ∀ a : Nat, a < H.size → ¬ sb.1 ≤ a → H1[a]? = H[a]?) : sk1 sb k bs U H1 := ⟨h.1.kept hq, h.2.1.kept hq, h.2.2.1.kept hq, h.2.2.2.kept hq⟩
def stOK (sb : sB) (U : State) (H : Heap) : Prop :=
  st1 sb "TrustChain$Reader" "PKCS1" 0 sv_PKCS1 U H ∧
  st1 sb "TrustChain$Reader" "MONTH_STARTS" 1 sv_MONTH_STARTS U H ∧
  st1 sb "TrustChain$Sha256" "START" 2 sv_START U H ∧
  st1 sb "TrustChain$Sha256" "ROUND" 3 sv_ROUND U H ∧
  st1 sb "TrustChain$Rsa" "PREFIX" 4 sv_PREFIX U H ∧
  (va_Z "java/util/ArrayList" "DEFAULTCAPACITY_EMPTY_ELEMENTDATA" "[Ljava/lang/Object;" (.ref (sb.2 5)) (fun q => sb.1 ≤ q) U H ∧ va_T (.object "java/lang/Object") (sb.2 5) 0 (fun _ => .null) (fun q => sb.1 ≤ q) U H) ∧
  (∀ (k : Nat) (z : String × Nat × String × List Int32), kstr[k]? = some z → sk1 sb k z.2.2.2 U H) ∧
  va_Z "java/lang/String" "COMPACT_STRINGS" "Z" (.int 1) (fun q => sb.1 ≤ q) U H ∧
  va_Zq "jdk/internal/util/Preconditions" "SIOOBE_FORMATTER" "Ljava/util/function/BiFunction;" (fun q => sb.1 ≤ q) U H
theorem st1.moved {sb : sB} {C nm : String} {k : Nat} {vs : List Int32} {u U : State} {H : Heap} (hvm : u.vm.Alike U.vm) (h : st1 sb C nm k vs u H) : st1 sb C nm k vs U H := ⟨h.1.moved hvm, h.2.moved hvm⟩
theorem st1.kept {sb : sB} {C nm : String} {k : Nat} {vs : List Int32} {U : State} {H H1 : Heap} (h : st1 sb C nm k vs U H) (hq : ∀ a : Nat, a < H.size → ¬ sb.1 ≤ a → H1[a]? = H[a]?) : st1 sb C nm k vs U H1 := ⟨h.1.kept hq, h.2.kept hq⟩
theorem stOK.moved {sb : sB} {u U : State} {H : Heap} (hvm : u.vm.Alike U.vm) (h : stOK sb u H) : stOK sb U H :=
  ⟨h.1.moved hvm, h.2.1.moved hvm, h.2.2.1.moved hvm, h.2.2.2.1.moved hvm, h.2.2.2.2.1.moved hvm, ⟨h.2.2.2.2.2.1.1.moved hvm, h.2.2.2.2.2.1.2.moved hvm⟩, fun k z hz => (h.2.2.2.2.2.2.1 k z hz).moved hvm, h.2.2.2.2.2.2.2.1.moved hvm, h.2.2.2.2.2.2.2.2.moved hvm⟩
theorem stOK.kept {sb : sB} {U : State} {H H1 : Heap} (h : stOK sb U H) (hq : ∀ a : Nat, a < H.size → ¬ sb.1 ≤ a → H1[a]? = H[a]?) : stOK sb U H1 :=
  ⟨h.1.kept hq, h.2.1.kept hq, h.2.2.1.kept hq, h.2.2.2.1.kept hq, h.2.2.2.2.1.kept hq, ⟨h.2.2.2.2.2.1.1.kept hq, h.2.2.2.2.2.1.2.kept hq⟩, fun k z hz => (h.2.2.2.2.2.2.1 k z hz).kept hq, h.2.2.2.2.2.2.2.1.kept hq, h.2.2.2.2.2.2.2.2.kept hq⟩
theorem stOK.keep {sb : sB} {s : State} {A : Nat → Prop} {H : Heap} {locs : List Loc} (h : stOK sb s s.heap) (hS : va_S A s.heap H locs) (hA : ∀ q, A q → sb.1 ≤ q) : stOK sb s H := h.kept (fun a h1 h2 => hS.2.1 a h1 (fun z => h2 (hA a z)))
/-- the start of a method that changes nothing: cells that hold, classes that are known -/
def pu_P (av : List Value) (D : va_G) (sb : sB) (ws : va_W) (tys : List (ClassId × FieldType)) : Array Value → State → Prop := va_Pc av (fun U => va_P D classes ws U.heap ∧ va_K D classes tys U ∧ nwOK sb U ∧ stOK sb U U.heap)
theorem pu_blind {av : List Value} {D : va_G} {sb : sB} {ws : va_W} {tys : List (ClassId × FieldType)} : FrameBlind (pu_P av D sb ws tys) := fun a U g mk q => by
  obtain ⟨q0, qP, qK, qN, qT⟩ := q
  exact ⟨q0, qP, va_K.moved (u := U) (U := U.calling g mk a) (Vm.Alike.refl U.vm) qK, nwOK.same (s := U) rfl qN, stOK.moved (u := U) (U := U.calling g mk a) (Vm.Alike.refl U.vm) qT⟩
theorem pu_pre {s : State} {H : Heap} {av : List Value} {D : va_G} {sb : sB} {ws wsB : va_W} {tys tysB : List (ClassId × FieldType)} (hN : nwOK sb s) (hT : stOK sb s H) (hK : va_K D classes tysB s) (hP : va_P D classes wsB H) (is : List Nat) (hs : is.filterMap (fun i => wsB[i]?) = ws) (ts : List Nat) (ht : ts.filterMap (fun i => tysB[i]?) = tys) :
    ∀ U : State, U.heap = H → s.WarmedH U.vm → pu_P av D sb ws tys av.toArray U := fun U hU hW => ⟨rfl, by rw [hU]; exact hP.sub is hs, va_K.moved hW.alike (hK.sub ts ht), hN.warm hW, by rw [hU]; exact hT.moved hW.alike⟩
section PUC
variable {p : Program} {l : Launch} {e : Env} {R : Room} {s : State} {m : MethodId} {args : Array Value} {below : List Frame} {meth : Method} {c : Code} {H : Heap} {locs : List Loc} {cells slots : Nat} {Q : State → Prop}
variable {pc : Nat} {ls : Array Slot} {rest st0 : List Value} {cc bytes : ByteArray} {nL maxL index : Nat} {Ts : List Cond} {own C : String} {y : MethodName} {ret : Option FieldType} {rm : Room} {D : va_G} {ws wsB : va_W} {tys tysB : List (ClassId × FieldType)} {As : List Value} {b : Nat} {fs : List Value} {q : vw_C} {n : Nat} {sb : sB}
theorem pu_callV {Qc : Array Value → State → Outcome → State → Prop} (S : CallFix p m c cc nL s args Ts own) (hin : ∀ w ∈ tb, w ∈ Ts) (hM : Met l y (Cond.code y bytes maxL ret :: tb) rm (pu_P (.ref b :: As) D sb ws tys) Qc 0 0 (fun _ => False))
    (h1 : Cond.methodLink own index y ∈ tb) (h2 : Cond.instanceMethod y ∈ tb) (h3 : Cond.selects C y y ∈ tb) (h4 : Cond.initialized C ∈ tb) (h5 : Cond.code y bytes maxL ret ∈ tb)
    (hd : y.cls = C ∧ y.cls ≠ "java/lang/invoke/MethodHandle" ∧ y.cls ≠ "java/lang/invoke/VarHandle" ∧ (parseMethodDescriptor y.desc).map (fun d => d.parameters.length) = some n) (hn : As.length = n)
    (hz : rm.cells = 0 ∧ rm.slots = 0) (hR : rm.frames + 1 ≤ R.frames ∧ 8 + (maxL + 11) + rm.locals ≤ R.locals) (hf : cells ≤ R.cells ∧ slots ≤ R.slots)
    (hN : nwOK sb s) (hT : stOK sb s H) (hK : va_K D classes tysB s) (hP : va_P D classes wsB H) (is : List Nat) (hs : is.filterMap (fun i => wsB[i]?) = ws) (ts : List Nat) (ht : ts.filterMap (fun i => tysB[i]?) = tys)
    (q0 ci : Nat) (he : wsB[q0]? = some (b, .inr (ci, fs))) (hc : classes[ci]? = some q) (hq : q.1 = C)
    (hsize : ls.size = nL) (hstack : st0 = As.reverse ++ .ref b :: rest) (hW : (rest.map fun v => v.category).sum ≤ 8) (hdg : decode cc pc = .ok (.invokevirtual index, 3)) :
    CallRun p l e R s m args below meth c H locs cells slots 0 0 (F0 m pc ls st0) rest (Qc (Value.ref b :: As).toArray) (fun _ => False) := by
  subst hstack
  subst hn
  subst hq
  exact W.runV (As := As) (rest := rest) S hM (cwV As.length S.2.2.2.2 (gd_V hin h1 h2 h3 h4 h5) rfl hz.1 hz.2 hd hR) ⟨pu_blind, va_recv hK hP hc he, pu_pre hN hT hK hP is hs ts ht⟩ rfl rfl hsize rfl (lv_room hW) hdg ⟨hf.1, hf.2⟩
theorem pu_callS {Qc : Array Value → State → Outcome → State → Prop} (S : CallFix p m c cc nL s args Ts own) (hin : ∀ w ∈ tb, w ∈ Ts) (hM : Met l y (Cond.code y bytes maxL ret :: tb) rm (pu_P As D sb ws tys) Qc 0 0 (fun _ => False))
    (h1 : Cond.methodLink own index y ∈ tb) (h2 : Cond.static y ∈ tb) (h4 : Cond.initialized y.cls ∈ tb) (h5 : Cond.code y bytes maxL ret ∈ tb)
    (hd : y.cls ≠ "java/lang/invoke/MethodHandle" ∧ y.cls ≠ "java/lang/invoke/VarHandle" ∧ (parseMethodDescriptor y.desc).map (fun d => d.parameters.length) = some n) (hn : As.length = n)
    (hz : rm.cells = 0 ∧ rm.slots = 0) (hR : rm.frames + 1 ≤ R.frames ∧ 8 + (maxL + 11) + rm.locals ≤ R.locals) (hf : cells ≤ R.cells ∧ slots ≤ R.slots)
    (hN : nwOK sb s) (hT : stOK sb s H) (hK : va_K D classes tysB s) (hP : va_P D classes wsB H) (is : List Nat) (hs : is.filterMap (fun i => wsB[i]?) = ws) (ts : List Nat) (ht : ts.filterMap (fun i => tysB[i]?) = tys)
    (hsize : ls.size = nL) (hstack : st0 = As.reverse ++ rest) (hW : (rest.map fun v => v.category).sum ≤ 8) (hdg : decode cc pc = .ok (.invokestatic index, 3)) :
    CallRun p l e R s m args below meth c H locs cells slots 0 0 (F0 m pc ls st0) rest (Qc As.toArray) (fun _ => False) := by
  subst hstack
  subst hn
  exact W.runS (As := As) (rest := rest) S hM (va_cwS As.length S.2.2.2.2 (gd_S hin h1 h2 h4 h5) rfl hz.1 hz.2 hd hR) ⟨pu_blind, pu_pre hN hT hK hP is hs ts ht⟩ rfl rfl hsize rfl (lv_room hW) hdg ⟨hf.1, hf.2⟩
/-- what a call of an inherited method asks -/
theorem cu_of {owner : String} {x : MethodName} {mc ms : Nat} (ht : ∀ w ∈ Ts, w.before args s = true) (hin : ∀ w ∈ tb, w ∈ Ts) (h1 : Cond.methodLink own index x ∈ tb) (h6 : Cond.sameMethod x.cls owner x.name x.desc ∈ tb) (h2 : Cond.instanceMethod y ∈ tb) (h3 : Cond.selects C x y ∈ tb) (h4 : Cond.initialized y.cls ∈ tb) (h5 : Cond.code y bytes maxL ret ∈ tb)
    (hyx : y = ⟨owner, x.name, x.desc⟩) (hd : owner ≠ "java/lang/invoke/MethodHandle" ∧ owner ≠ "java/lang/invoke/VarHandle" ∧ (parseMethodDescriptor x.desc).map (fun d => d.parameters.length) = some n) (hz : rm.cells = mc ∧ rm.slots = ms) (hR : rm.frames + 1 ≤ R.frames ∧ 8 + (maxL + 11) + rm.locals ≤ R.locals) :
    va_CU R s args own C owner index x y bytes maxL ret (Cond.code y bytes maxL ret :: tb) rm mc ms n := by
  refine va_cwU n ht (gd_in hin (fun w hw => ?_)) rfl hz.1 hz.2 hyx hd hR
  rcases List.mem_append.mp hw with hw | hw
  · rcases List.mem_cons.mp hw with rfl | hw
    · exact h1
    rcases List.mem_cons.mp hw with rfl | hw
    · exact h6
    rcases List.mem_cons.mp hw with rfl | hw
    · exact h3
    rcases List.mem_cons.mp hw with rfl | hw
    · exact h2
    rcases List.mem_cons.mp hw with rfl | hw
    · exact h4
    cases hw
  · exact gd_cons h5 w hw
theorem pu_callU {owner : String} {x : MethodName} {Qc : Array Value → State → Outcome → State → Prop} (S : CallFix p m c cc nL s args Ts own) (hM : Met l y (Cond.code y bytes maxL ret :: tb) rm (pu_P (.ref b :: As) D sb ws tys) Qc 0 0 (fun _ => False))
    (hCU : va_CU R s args own C owner index x y bytes maxL ret (Cond.code y bytes maxL ret :: tb) rm 0 0 n) (hn : As.length = n) (hf : cells ≤ R.cells ∧ slots ≤ R.slots)
    (hN : nwOK sb s) (hT : stOK sb s H) (hK : va_K D classes tysB s) (hP : va_P D classes wsB H) (is : List Nat) (hs : is.filterMap (fun i => wsB[i]?) = ws) (ts : List Nat) (ht : ts.filterMap (fun i => tysB[i]?) = tys)
    (q0 ci : Nat) (he : wsB[q0]? = some (b, .inr (ci, fs))) (hc : classes[ci]? = some q) (hq : q.1 = C)
    (hsize : ls.size = nL) (hstack : st0 = As.reverse ++ .ref b :: rest) (hW : (rest.map fun v => v.category).sum ≤ 8) (hdg : decode cc pc = .ok (.invokevirtual index, 3)) :
    CallRun p l e R s m args below meth c H locs cells slots 0 0 (F0 m pc ls st0) rest (Qc (Value.ref b :: As).toArray) (fun _ => False) := by
  subst hstack
  subst hn
  subst hq
  exact va_Run.run (va_runU (As := As) (rest := rest) S hM hCU ⟨pu_blind, va_recv hK hP hc he, pu_pre hN hT hK hP is hs ts ht⟩ rfl rfl hsize rfl (lv_room hW) hdg ⟨hf.1, hf.2⟩)
/-- a join: what several branches come to is walked once -/
theorem w_join {J : Int32 → Prop} {g : JFrame} (k : ∀ v : Int32, J v → W p l e R s m args below meth c H locs cells slots Q (F0 m pc ls (.int v :: rest)))
    (b : (∀ v : Int32, J v → W p l e R s m args below meth c H locs cells slots Q (F0 m pc ls (.int v :: rest))) → W p l e R s m args below meth c H locs cells slots Q g) : W p l e R s m args below meth c H locs cells slots Q g := b k
theorem w_joinL {J : Int64 → Prop} {g : JFrame} (k : ∀ v : Int64, J v → W p l e R s m args below meth c H locs cells slots Q (F0 m pc ls (.long v :: rest)))
    (b : (∀ v : Int64, J v → W p l e R s m args below meth c H locs cells slots Q (F0 m pc ls (.long v :: rest))) → W p l e R s m args below meth c H locs cells slots Q g) : W p l e R s m args below meth c H locs cells slots Q g := b k
/-- a loop whose heap stands still: a state of its own (α), a measure, an invariant -/
theorem w_loop {α : Type} (J : α → Prop) (μ : α → Nat) (lv : α → List (Nat × Value)) (st : α → List Value) (nL pc : Nat)
    (step : ∀ (a : α) (ls : Array Slot), J a → lv_has ls nL (lv a) → (∀ (a' : α) (ls' : Array Slot), μ a' < μ a → J a' → lv_has ls' nL (lv a') → W p l e R s m args below meth c H locs cells slots Q (F0 m pc ls' (st a'))) → W p l e R s m args below meth c H locs cells slots Q (F0 m pc ls (st a)))
    (a : α) (ls : Array Slot) (hJ : J a) (hl : lv_has ls nL (lv a)) : W p l e R s m args below meth c H locs cells slots Q (F0 m pc ls (st a)) := by
  have key : ∀ (n : Nat) (a : α) (ls : Array Slot), μ a < n → J a → lv_has ls nL (lv a) → W p l e R s m args below meth c H locs cells slots Q (F0 m pc ls (st a)) := by
    intro n
    induction n with
    | zero => intro a ls h; exact absurd h (Nat.not_lt_zero _)
    | succ n ih =>
      intro a ls h hJ hl
      exact step a ls hJ hl (fun a' ls' h' hJ' hl' => ih a' ls' (by omega) hJ' hl')
  exact key (μ a + 1) a ls (Nat.lt_succ_self _) hJ hl
end PUC
