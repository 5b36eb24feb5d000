/-! My own rows over the kit: methods that change their world: start, end, joins and loops with a world. -/
/-- the start: the world's cells, apart, at a heap of size sz -/
def mu_P (av : List Value) (D : va_G) (sb : sB) (ws : va_W) (tys : List (ClassId × FieldType)) (sz : Nat) : Array Value → State → Prop := va_Pc av (fun U => U.heap.size = sz ∧ sb.1 ≤ sz ∧ va_P D classes ws U.heap ∧ va_K D classes tys U ∧ va_D (fun q => sb.1 ≤ q) ws ∧ nwOK sb U ∧ stOK sb U U.heap)
/-- the end: the world that stands behind it -/
def mu_B {S : Type} (D : va_G) (tys : List (ClassId × FieldType)) (A : Nat → Prop) (F : S → va_W) (u : S) (t : State) : Prop := va_P D classes (F u) t.heap ∧ va_K D classes tys t ∧ va_D A (F u)
def mu_Br {S : Type} (D : va_G) (tys : List (ClassId × FieldType)) (A : Nat → Prop) (F : S → Nat → va_W) (u : S) (a : Nat) (t : State) : Prop := va_P D classes (F u a) t.heap ∧ va_K D classes tys t ∧ va_D A (F u a)
theorem mu_blind {av : List Value} {D : va_G} {sb : sB} {ws : va_W} {tys : List (ClassId × FieldType)} {sz : Nat} : FrameBlind (mu_P av D sb ws tys sz) := fun a U g mk q => by
  obtain ⟨q0, q1, q2, qP, qK, qD, qN, qT⟩ := q
  exact ⟨q0, q1, q2, qP, va_K.moved (u := U) (U := U.calling g mk a) (Vm.Alike.refl U.vm) qK, qD, nwOK.same (s := U) rfl qN, stOK.moved (u := U) (U := U.calling g mk a) (Vm.Alike.refl U.vm) qT⟩
theorem mu_pre {s : State} {H : Heap} {av : List Value} {D : va_G} {sb : sB} {ws wsB : va_W} {tys tysB : List (ClassId × FieldType)} {A : Nat → Prop} (hN : nwOK sb s) (hT : stOK sb s H) (hAs : ∀ q, A q → sb.1 ≤ q) (hbH : sb.1 ≤ H.size) (hK : va_K D classes tysB s) (hP : va_P D classes wsB H) (hD : va_D A wsB) (is : List Nat) (hn : va_nd is = true) (hs : is.map (fun i => wsB[i]?) = ws.map some) (ts : List Nat) (ht : ts.filterMap (fun i => tysB[i]?) = tys) :
    ∀ U : State, U.heap = H → s.WarmedH U.vm → mu_P av D sb ws tys H.size av.toArray U := fun U hU hW => by
  have hD1 := hD.sub is hn hs
  have e : is.filterMap (fun i => wsB[i]?) = ws := by
    have h1 : is.filterMap (fun i => wsB[i]?) = (is.map (fun i => wsB[i]?)).filterMap id := by rw [List.filterMap_map]; rfl
    rw [h1, hs, List.filterMap_map]
    simp
  exact ⟨rfl, by rw [hU], hbH, by rw [hU]; exact hP.sub is e, va_K.moved hW.alike (hK.sub ts ht), hD1.weaken (fun _ _ _ h => hAs _ h), hN.warm hW, by rw [hU]; exact hT.moved hW.alike⟩
section MUC
variable {p : Program} {l : Launch} {e : Env} {R : Room} {s : State} {m : MethodId} {args : Array Value} {below : List Frame} {meth : Method} {c : Code} {H : Heap} {locs : List Loc} {cells slots : Nat} {Q : State → Prop}
variable {pc : Nat} {ls : Array Slot} {rest st0 : List Value} {cc bytes : ByteArray} {nL maxL index : Nat} {Ts : List Cond} {own C : String} {y : MethodName} {ret : Option FieldType} {rm : Room} {D : va_G} {ws wsB wr : va_W} {tys tysB : List (ClassId × FieldType)} {As : List Value} {b : Nat} {fs : List Value} {q : vw_C} {n mc ms : Nat} {A : Nat → Prop} {H0 : Heap} {sb : sB}
/-- a virtual call of a method that changes its world -/
theorem mu_runV {Qc : Array Value → State → Outcome → State → Prop} (S : CallFix p m c cc nL s args Ts own) (hin : ∀ w ∈ tb, w ∈ Ts) (hM : Met l y (Cond.code y bytes maxL ret :: tb) rm (mu_P (.ref b :: As) D sb ws tys H.size) Qc mc ms (va_A ws H.size))
    (h1 : Cond.methodLink own index y ∈ tb) (h2 : Cond.instanceMethod y ∈ tb) (h3 : Cond.selects C y y ∈ tb) (h4 : Cond.initialized C ∈ tb) (h5 : Cond.code y bytes maxL ret ∈ tb)
    (hd : y.cls = C ∧ y.cls ≠ "java/lang/invoke/MethodHandle" ∧ y.cls ≠ "java/lang/invoke/VarHandle" ∧ (parseMethodDescriptor y.desc).map (fun d => d.parameters.length) = some n) (hn : As.length = n)
    (hz : rm.cells = mc ∧ rm.slots = ms) (hR : rm.frames + 1 ≤ R.frames ∧ 8 + (maxL + 11) + rm.locals ≤ R.locals) (hf : cells + mc ≤ R.cells ∧ slots + ms ≤ R.slots)
    (hN : nwOK sb s) (hT : stOK sb s H) (hAs : ∀ q, A q → sb.1 ≤ q) (hbH : sb.1 ≤ H.size) (hK : va_K D classes tysB s) (hP : va_P D classes wsB H) (hD : va_D A wsB) (is : List Nat) (hnd : va_nd is = true) (hs : is.map (fun i => wsB[i]?) = ws.map some) (ts : List Nat) (ht : ts.filterMap (fun i => tysB[i]?) = tys)
    (q0 ci : Nat) (he : wsB[q0]? = some (b, .inr (ci, fs))) (hc : classes[ci]? = some q) (hq : q.1 = C)
    (hsize : ls.size = nL) (hstack : st0 = As.reverse ++ .ref b :: rest) (hW : (rest.map fun v => v.category).sum ≤ 8) (hdg : decode cc pc = .ok (.invokevirtual index, 3)) :
    va_Run p l e R s m args below meth c H locs cells slots mc ms (F0 m pc ls st0) rest (Qc (Value.ref b :: As).toArray) (va_A ws H.size) := by
  subst hstack
  subst hn
  subst hq
  exact va_runV (As := As) (rest := rest) S hM (cwV As.length S.2.2.2.2 (gd_V hin h1 h2 h3 h4 h5) rfl hz.1 hz.2 hd hR) ⟨mu_blind, va_recv hK hP hc he, mu_pre hN hT hAs hbH hK hP hD is hnd hs ts ht⟩ rfl rfl hsize rfl (lv_room hW) hdg ⟨hf.1, hf.2⟩
/-- a call of an inherited (or own) method that changes its world -/
theorem mu_runU {owner : String} {x : MethodName} {Qc : Array Value → State → Outcome → State → Prop} (S : CallFix p m c cc nL s args Ts own) (hM : Met l y (Cond.code y bytes maxL ret :: tb) rm (mu_P (.ref b :: As) D sb ws tys H.size) Qc mc ms (va_A ws H.size))
    (hCU : va_CU R s args own C owner index x y bytes maxL ret (Cond.code y bytes maxL ret :: tb) rm mc ms n) (hn : As.length = n) (hf : cells + mc ≤ R.cells ∧ slots + ms ≤ R.slots)
    (hN : nwOK sb s) (hT : stOK sb s H) (hAs : ∀ q, A q → sb.1 ≤ q) (hbH : sb.1 ≤ H.size) (hK : va_K D classes tysB s) (hP : va_P D classes wsB H) (hD : va_D A wsB) (is : List Nat) (hnd : va_nd is = true) (hs : is.map (fun i => wsB[i]?) = ws.map some) (ts : List Nat) (ht : ts.filterMap (fun i => tysB[i]?) = tys)
    (q0 ci : Nat) (he : wsB[q0]? = some (b, .inr (ci, fs))) (hc : classes[ci]? = some q) (hq : q.1 = C)
    (hsize : ls.size = nL) (hstack : st0 = As.reverse ++ .ref b :: rest) (hW : (rest.map fun v => v.category).sum ≤ 8) (hdg : decode cc pc = .ok (.invokevirtual index, 3)) :
    va_Run p l e R s m args below meth c H locs cells slots mc ms (F0 m pc ls st0) rest (Qc (Value.ref b :: As).toArray) (va_A ws H.size) := by
  subst hstack
  subst hn
  subst hq
  exact va_runU (As := As) (rest := rest) S hM hCU ⟨mu_blind, va_recv hK hP hc he, mu_pre hN hT hAs hbH hK hP hD is hnd hs ts ht⟩ rfl rfl hsize rfl (lv_room hW) hdg ⟨hf.1, hf.2⟩
/-- a join with a world -/
theorem w_joinW {α : Type} (J : α → Prop) (lv : α → List (Nat × Value)) (st : α → List Value) (F : α → va_W) (nL pc : Nat) {g : JFrame}
    (k : ∀ (a : α) (H : Heap) (locs : List Loc) (ls : Array Slot), J a → va_P D classes (F a) H → va_D A (F a) → va_S A H0 H locs → lv_has ls nL (lv a) → W p l e R s m args below meth c H locs cells slots Q (F0 m pc ls (st a)))
    (bb : (∀ (a : α) (H : Heap) (locs : List Loc) (ls : Array Slot), J a → va_P D classes (F a) H → va_D A (F a) → va_S A H0 H locs → lv_has ls nL (lv a) → W p l e R s m args below meth c H locs cells slots Q (F0 m pc ls (st a))) → W p l e R s m args below meth c H locs cells slots Q g) : W p l e R s m args below meth c H locs cells slots Q g := bb k
/-- a loop with a world -/
theorem w_loopW {α : Type} (J : α → Prop) (μ : α → Nat) (lv : α → List (Nat × Value)) (st : α → List Value) (F : α → va_W) (nL pc : Nat)
    (step : ∀ (a : α) (H : Heap) (locs : List Loc) (ls : Array Slot), J a → va_P D classes (F a) H → va_D A (F a) → va_S A H0 H locs → lv_has ls nL (lv a) → (∀ (a' : α) (H' : Heap) (locs' : List Loc) (ls' : Array Slot), μ a' < μ a → J a' → va_P D classes (F a') H' → va_D A (F a') → va_S A H0 H' locs' → lv_has ls' nL (lv a') → W p l e R s m args below meth c H' locs' cells slots Q (F0 m pc ls' (st a'))) → W p l e R s m args below meth c H locs cells slots Q (F0 m pc ls (st a)))
    (a : α) (H : Heap) (locs : List Loc) (ls : Array Slot) (hJ : J a) (hP : va_P D classes (F a) H) (hD : va_D A (F a)) (hS : va_S A H0 H locs) (hl : lv_has ls nL (lv a)) : W p l e R s m args below meth c H locs cells slots Q (F0 m pc ls (st a)) := by
  have key : ∀ (n : Nat) (a : α) (H : Heap) (locs : List Loc) (ls : Array Slot), μ a < n → J a → va_P D classes (F a) H → va_D A (F a) → va_S A H0 H locs → lv_has ls nL (lv a) → W p l e R s m args below meth c H locs cells slots Q (F0 m pc ls (st a)) := by
    intro n
    induction n with
    | zero => intro a H locs ls h; exact absurd h (Nat.not_lt_zero _)
    | succ n ih =>
      intro a H locs ls h hJ hP hD hS hl
      exact step a H locs ls hJ hP hD hS hl (fun a' H' locs' ls' h' hJ' hP' hD' hS' hl' => ih a' H' locs' ls' (by omega) hJ' hP' hD' hS' hl')
  exact key (μ a + 1) a H locs ls (Nat.lt_succ_self _) hJ hP hD hS hl
end MUC
