/-! Static calls that change their world; calls of the law's own methods. -/
theorem gd_Sc {Ts : List Cond} {own : String} {index : Nat} {y : MethodName} {c : Cond} (hin : ∀ w ∈ tb, w ∈ Ts) (h1 : Cond.methodLink own index y ∈ tb) (h2 : Cond.static y ∈ tb) (h4 : Cond.initialized y.cls ∈ tb) (h5 : c ∈ tb) :
    GoodIn Ts (va_wsS own index y (c :: tb)) := by
  refine gd_in hin (fun w hw => ?_)
  rcases List.mem_append.mp hw with hw | hw
  · rcases List.mem_cons.mp hw with rfl | hw
    · exact h1
    rcases List.mem_cons.mp hw with rfl | hw
    · exact h2
    rcases List.mem_cons.mp hw with rfl | hw
    · exact h4
    · cases hw
  · exact gd_cons h5 w hw
section MUS
variable {p : Program} {l : Launch} {e : Env} {R : Room} {s : State} {m : MethodId} {args : Array Value} {below : List Frame} {meth : Method} {c : Code} {H : Heap} {locs : List Loc} {cells slots : Nat} {Q : State → Prop}
variable {pc : Nat} {ls : Array Slot} {rest st0 : List Value} {cc bytes : ByteArray} {nL maxL index : Nat} {Ts : List Cond} {own : String} {y : MethodName} {ret : Option FieldType} {rm : Room} {D : va_G} {ws wsB wr : va_W} {tys tysB : List (ClassId × FieldType)} {As : List Value} {n mc ms : Nat} {A : Nat → Prop} {sb : sB}
/-- a static call of a method that changes its world -/
theorem mu_runS {Qc : Array Value → State → Outcome → State → Prop} (S : CallFix p m c cc nL s args Ts own) (hin : ∀ w ∈ tb, w ∈ Ts) (hM : Met l y (Cond.code y bytes maxL ret :: tb) rm (mu_P As D sb ws tys H.size) Qc mc ms (va_A ws H.size))
    (h1 : Cond.methodLink own index y ∈ tb) (h2 : Cond.static y ∈ tb) (h4 : Cond.initialized y.cls ∈ tb) (h5 : Cond.code y bytes maxL ret ∈ tb)
    (hd : y.cls ≠ "java/lang/invoke/MethodHandle" ∧ y.cls ≠ "java/lang/invoke/VarHandle" ∧ (parseMethodDescriptor y.desc).map (fun d => d.parameters.length) = some n) (hn : As.length = n)
    (hz : rm.cells = mc ∧ rm.slots = ms) (hR : rm.frames + 1 ≤ R.frames ∧ 8 + (maxL + 11) + rm.locals ≤ R.locals) (hf : cells + mc ≤ R.cells ∧ slots + ms ≤ R.slots)
    (hN : nwOK sb s) (hT : stOK sb s H) (hAs : ∀ q, A q → sb.1 ≤ q) (hbH : sb.1 ≤ H.size) (hK : va_K D classes tysB s) (hP : va_P D classes wsB H) (hD : va_D A wsB) (is : List Nat) (hnd : va_nd is = true) (hs : is.map (fun i => wsB[i]?) = ws.map some) (ts : List Nat) (ht : ts.filterMap (fun i => tysB[i]?) = tys)
    (hsize : ls.size = nL) (hstack : st0 = As.reverse ++ rest) (hW : (rest.map fun v => v.category).sum ≤ 8) (hdg : decode cc pc = .ok (.invokestatic index, 3)) :
    va_Run p l e R s m args below meth c H locs cells slots mc ms (F0 m pc ls st0) rest (Qc As.toArray) (va_A ws H.size) := by
  subst hstack
  subst hn
  exact va_runS (As := As) (rest := rest) S hM (va_cwS As.length S.2.2.2.2 (gd_S hin h1 h2 h4 h5) rfl hz.1 hz.2 hd hR) ⟨mu_blind, mu_pre hN hT hAs hbH hK hP hD is hnd hs ts ht⟩ rfl rfl hsize rfl (lv_room hW) hdg ⟨hf.1, hf.2⟩
/-- a call of one of the law's own methods, which catch -/
theorem mx_runSX {hh : List (Nat × Nat × Nat × Nat)} {Qc : Array Value → State → Outcome → State → Prop} {XC : String → State → State → Prop} (S : CallFix p m c cc nL s args Ts own) (hin : ∀ w ∈ tb, w ∈ Ts) (hM : vx_Met l y (Cond.codeWith y bytes maxL ret hh :: tb) rm (mx_P As D sb ws tys H.size) Qc XC mc ms (va_A ws H.size))
    (h1 : Cond.methodLink own index y ∈ tb) (h2 : Cond.static y ∈ tb) (h4 : Cond.initialized y.cls ∈ tb) (h5 : Cond.codeWith y bytes maxL ret hh ∈ tb)
    (hd : y.cls ≠ "java/lang/invoke/MethodHandle" ∧ y.cls ≠ "java/lang/invoke/VarHandle" ∧ (parseMethodDescriptor y.desc).map (fun d => d.parameters.length) = some n) (hn : As.length = n)
    (hz : rm.cells = mc ∧ rm.slots = ms) (hR : rm.frames + 1 ≤ R.frames ∧ 8 + (maxL + 11) + rm.locals ≤ R.locals) (hf : cells + mc ≤ R.cells ∧ slots + ms ≤ R.slots)
    (hTh : thOK sb s H) (hN : nwOK sb s) (hT : stOK sb s H) (hAs : ∀ q, A q → sb.1 ≤ q) (hbH : sb.1 ≤ H.size) (hK : va_K D classes tysB s) (hP : va_P D classes wsB H) (hD : va_D A wsB) (is : List Nat) (hnd : va_nd is = true) (hs : is.map (fun i => wsB[i]?) = ws.map some) (ts : List Nat) (ht : ts.filterMap (fun i => tysB[i]?) = tys)
    (hsize : ls.size = nL) (hstack : st0 = As.reverse ++ rest) (hW : (rest.map fun v => v.category).sum ≤ 8) (hdg : decode cc pc = .ok (.invokestatic index, 3)) :
    vx_Run p l e R s m args below meth c H locs cells slots mc ms (F0 m pc ls st0) rest (Qc As.toArray) XC (va_A ws H.size) := by
  subst hstack
  subst hn
  exact vx_runSX (As := As) (rest := rest) S hM (vx_cwSW As.length S.2.2.2.2 (gd_Sc hin h1 h2 h4 h5) rfl hz.1 hz.2 hd hR) ⟨mx_blind, mx_pre hTh hN hT hAs hbH hK hP hD is hnd hs ts ht⟩ rfl rfl hsize rfl (lv_room hW) hdg ⟨hf.1, hf.2⟩
end MUS
