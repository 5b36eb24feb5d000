/-! A read-only frame beside a method's own world; ArrayList.add. -/
/-- the start of a method that changes its world ws and reads cells F that lie outside of it -/
def mf_P (F : va_W) (av : List Value) (D : va_G) (sb : sB) (ws : va_W) (tys : List (ClassId × FieldType)) (sz : Nat) : Array Value → State → Prop := fun a U => mu_P av D sb ws tys sz a U ∧ va_P D classes F U.heap ∧ ∀ (k : Nat) (q : Nat × va_E), F[k]? = some q → ¬ va_A ws sz q.1
theorem mf_blind {F : va_W} {av : List Value} {D : va_G} {sb : sB} {ws : va_W} {tys : List (ClassId × FieldType)} {sz : Nat} : FrameBlind (mf_P F av D sb ws tys sz) := fun a U g mk q => ⟨mu_blind a U g mk q.1, q.2.1, q.2.2⟩
theorem mf_keep {D : va_G} {A : Nat → Prop} {H0 H : Heap} {locs : List Loc} {F : va_W} (h : va_P D classes F H0) (hA : ∀ (k : Nat) (q : Nat × va_E), F[k]? = some q → ¬ A q.1) (hS : va_S A H0 H locs) : va_P D classes F H := h.kept (fun k q hk => hS.2.1 q.1 (h k q hk).lt (hA k q hk))
section MFC
variable {p : Program} {l : Launch} {e : Env} {R : Room} {s : State} {m : MethodId} {args : Array Value} {below : List Frame} {meth : Method} {c : Code} {H : Heap} {locs : List Loc} {cells slots : Nat} {Q : State → Prop}
variable {pc : Nat} {ls : Array Slot} {rest st0 : List Value} {cc bytes : ByteArray} {nL maxL index : Nat} {Ts : List Cond} {own C : String} {y : MethodName} {ret : Option FieldType} {rm : Room} {D : va_G} {F ws wsB : va_W} {tys tysB : List (ClassId × FieldType)} {As : List Value} {b : Nat} {fs : List Value} {q : vw_C} {n mc ms : Nat} {A : Nat → Prop} {sb : sB}
theorem mf_runV {Qc : Array Value → State → Outcome → State → Prop} (S : CallFix p m c cc nL s args Ts own) (hin : ∀ w ∈ tb, w ∈ Ts) (hM : Met l y (Cond.code y bytes maxL ret :: tb) rm (mf_P F (.ref b :: As) D sb ws tys H.size) Qc mc ms (va_A ws H.size))
    (hF : va_P D classes F H) (hFA : ∀ (k : Nat) (q : Nat × va_E), F[k]? = some q → ¬ va_A ws H.size q.1)
    (h1 : Cond.methodLink own index y ∈ tb) (h2 : Cond.instanceMethod y ∈ tb) (h3 : Cond.selects C y y ∈ tb) (h4 : Cond.initialized C ∈ tb) (h5 : Cond.code y bytes maxL ret ∈ tb)
    (hd : y.cls = C ∧ y.cls ≠ "java/lang/invoke/MethodHandle" ∧ y.cls ≠ "java/lang/invoke/VarHandle" ∧ (parseMethodDescriptor y.desc).map (fun d => d.parameters.length) = some n) (hn : As.length = n)
    (hz : rm.cells = mc ∧ rm.slots = ms) (hR : rm.frames + 1 ≤ R.frames ∧ 8 + (maxL + 11) + rm.locals ≤ R.locals) (hf : cells + mc ≤ R.cells ∧ slots + ms ≤ R.slots)
    (hN : nwOK sb s) (hT : stOK sb s H) (hAs : ∀ q, A q → sb.1 ≤ q) (hbH : sb.1 ≤ H.size) (hK : va_K D classes tysB s) (hP : va_P D classes wsB H) (hD : va_D A wsB) (is : List Nat) (hnd : va_nd is = true) (hs : is.map (fun i => wsB[i]?) = ws.map some) (ts : List Nat) (ht : ts.filterMap (fun i => tysB[i]?) = tys)
    (q0 ci : Nat) (he : wsB[q0]? = some (b, .inr (ci, fs))) (hc : classes[ci]? = some q) (hq : q.1 = C)
    (hsize : ls.size = nL) (hstack : st0 = As.reverse ++ .ref b :: rest) (hW : (rest.map fun v => v.category).sum ≤ 8) (hdg : decode cc pc = .ok (.invokevirtual index, 3)) :
    va_Run p l e R s m args below meth c H locs cells slots mc ms (F0 m pc ls st0) rest (Qc (Value.ref b :: As).toArray) (va_A ws H.size) := by
  subst hstack
  subst hn
  subst hq
  exact va_runV (As := As) (rest := rest) S hM (cwV As.length S.2.2.2.2 (gd_V hin h1 h2 h3 h4 h5) rfl hz.1 hz.2 hd hR) ⟨mf_blind, va_recv hK hP hc he, fun U hU hW9 => ⟨mu_pre hN hT hAs hbH hK hP hD is hnd hs ts ht U hU hW9, by rw [hU]; exact hF, hFA⟩⟩ rfl rfl hsize rfl (lv_room hW) hdg ⟨hf.1, hf.2⟩
theorem mf_runS {Qc : Array Value → State → Outcome → State → Prop} (S : CallFix p m c cc nL s args Ts own) (hin : ∀ w ∈ tb, w ∈ Ts) (hM : Met l y (Cond.code y bytes maxL ret :: tb) rm (mf_P F As D sb ws tys H.size) Qc mc ms (va_A ws H.size))
    (hF : va_P D classes F H) (hFA : ∀ (k : Nat) (q : Nat × va_E), F[k]? = some q → ¬ va_A ws H.size q.1)
    (h1 : Cond.methodLink own index y ∈ tb) (h2 : Cond.static y ∈ tb) (h4 : Cond.initialized y.cls ∈ tb) (h5 : Cond.code y bytes maxL ret ∈ tb)
    (hd : y.cls ≠ "java/lang/invoke/MethodHandle" ∧ y.cls ≠ "java/lang/invoke/VarHandle" ∧ (parseMethodDescriptor y.desc).map (fun d => d.parameters.length) = some n) (hn : As.length = n)
    (hz : rm.cells = mc ∧ rm.slots = ms) (hR : rm.frames + 1 ≤ R.frames ∧ 8 + (maxL + 11) + rm.locals ≤ R.locals) (hf : cells + mc ≤ R.cells ∧ slots + ms ≤ R.slots)
    (hN : nwOK sb s) (hT : stOK sb s H) (hAs : ∀ q, A q → sb.1 ≤ q) (hbH : sb.1 ≤ H.size) (hK : va_K D classes tysB s) (hP : va_P D classes wsB H) (hD : va_D A wsB) (is : List Nat) (hnd : va_nd is = true) (hs : is.map (fun i => wsB[i]?) = ws.map some) (ts : List Nat) (ht : ts.filterMap (fun i => tysB[i]?) = tys)
    (hsize : ls.size = nL) (hstack : st0 = As.reverse ++ rest) (hW : (rest.map fun v => v.category).sum ≤ 8) (hdg : decode cc pc = .ok (.invokestatic index, 3)) :
    va_Run p l e R s m args below meth c H locs cells slots mc ms (F0 m pc ls st0) rest (Qc As.toArray) (va_A ws H.size) := by
  subst hstack
  subst hn
  exact va_runS (As := As) (rest := rest) S hM (va_cwS As.length S.2.2.2.2 (gd_S hin h1 h2 h4 h5) rfl hz.1 hz.2 hd hR) ⟨mf_blind, fun U hU hW9 => ⟨mu_pre hN hT hAs hbH hK hP hD is hnd hs ts ht U hU hW9, by rw [hU]; exact hF, hFA⟩⟩ rfl rfl hsize rfl (lv_room hW) hdg ⟨hf.1, hf.2⟩
end MFC
theorem arr_uniqO {D : va_G} {cl : List vw_C} {tys : List (ClassId × FieldType)} {s : State} {C : String} (hK : va_K D cl tys s) (i j : Nat) {cA cB : ClassId} (h1 : tys[i]? = some (cA, .object C)) (h2 : tys[j]? = some (cB, .object C)) : cA = cB := by
  have a := va_nmO (hK.2 i _ h1).2 rfl
  have b := va_nmO (hK.2 j _ h2).2 rfl
  exact Option.some.inj (a.symm.trans b)
/-- what lies in the first z places of an array: objects of the class ci that F holds -/
def elF (F : va_W) (ci : Nat) (f : Nat → Option Nat) (z : Nat) : Prop := ∀ i y, i < z → f i = some y → ∃ (k : Nat) (fs : List Value), F[k]? = some (y, .inr (ci, fs))
theorem elF.cell {D : va_G} {F : va_W} {ci z i y : Nat} {f : Nat → Option Nat} {q : vw_C} {tys : List (ClassId × FieldType)} {s : State} {H : Heap} (h : elF F ci f z) (hK : va_K D classes tys s) (hF : va_P D classes F H) (hc : classes[ci]? = some q) (hi : i < z) (hy : f i = some y) : ∃ cell : Cell, H[y]? = some cell ∧ cell.vm.isStatics = false ∧ s.vm.findClass q.1 = some cell.cls := by
  obtain ⟨k, fs, hk⟩ := h i y hi hy
  exact va_recv hK hF hc hk
theorem mx_nI {a b : Nat} (ha : a < 2 ^ 31) (hb : b < 2 ^ 31) : (if nI a < nI b then nI b else nI a) = nI (max a b) := by
  by_cases h : a < b
  · rw [if_pos ((nI_ltI ha hb).mpr h), Nat.max_eq_right (by omega)]
  · rw [if_neg (fun q => h ((nI_ltI ha hb).mp q)), Nat.max_eq_left (by omega)]
theorem mn_nI {a b : Nat} (ha : a < 2 ^ 31) (hb : b < 2 ^ 31) : (if nI b < nI a then nI b else nI a) = nI (min a b) := by
  by_cases h : b < a
  · rw [if_pos ((nI_ltI hb ha).mpr h), Nat.min_eq_right (by omega)]
  · rw [if_neg (fun q => h ((nI_ltI hb ha).mp q)), Nat.min_eq_left (by omega)]
theorem shr1_nI {a : Nat} (ha : a < 2 ^ 31) : nI a >>> ((1 : Int32) &&& 31) = nI (a / 2) := by
  apply Int32.toBitVec_inj.mp
  rw [show ((1 : Int32) &&& 31) = 1 from by decide]
  rw [Int32.toBitVec_shiftRight]
  show (BitVec.ofNat 32 a).sshiftRight' (BitVec.smod 1 32) = BitVec.ofNat 32 (a / 2)
  rw [show BitVec.smod (1 : BitVec 32) 32 = 1 from by decide]
  rw [show (BitVec.ofNat 32 a).sshiftRight' 1 = (BitVec.ofNat 32 a).sshiftRight 1 from rfl, BitVec.sshiftRight_eq_of_msb_false]
  · apply BitVec.eq_of_toNat_eq
    simp [BitVec.toNat_ushiftRight, Nat.shiftRight_eq_div_pow]
    omega
  · simp [BitVec.msb_eq_decide]
    omega

def y_ArraysSupport_newLength : MethodName := ⟨"jdk/internal/util/ArraysSupport", "newLength", "(III)I"⟩
abbrev b_ArraysSupport_newLength : ByteArray := prog_39_method_27_code
def w_ArraysSupport_newLength : List Cond := Cond.code y_ArraysSupport_newLength b_ArraysSupport_newLength 4 ((some FieldType.int)) :: tb
theorem d_ArraysSupport_newLength_0 : decode b_ArraysSupport_newLength 0 = .ok (.iload_n 0, 1) := by decide +kernel
theorem d_ArraysSupport_newLength_1 : decode b_ArraysSupport_newLength 1 = .ok (.iload_n 1, 1) := by decide +kernel
theorem d_ArraysSupport_newLength_2 : decode b_ArraysSupport_newLength 2 = .ok (.iload_n 2, 1) := by decide +kernel
theorem d_ArraysSupport_newLength_3 : decode b_ArraysSupport_newLength 3 = .ok (.invokestatic 194, 3) := by decide +kernel
theorem d_ArraysSupport_newLength_6 : decode b_ArraysSupport_newLength 6 = .ok (.iadd, 1) := by decide +kernel
theorem d_ArraysSupport_newLength_7 : decode b_ArraysSupport_newLength 7 = .ok (.istore_n 3, 1) := by decide +kernel
theorem d_ArraysSupport_newLength_8 : decode b_ArraysSupport_newLength 8 = .ok (.iconst 0, 1) := by decide +kernel
theorem d_ArraysSupport_newLength_9 : decode b_ArraysSupport_newLength 9 = .ok (.iload_n 3, 1) := by decide +kernel
theorem d_ArraysSupport_newLength_10 : decode b_ArraysSupport_newLength 10 = .ok (.if_icmp .ge 11, 3) := by decide +kernel
theorem d_ArraysSupport_newLength_13 : decode b_ArraysSupport_newLength 13 = .ok (.iload_n 3, 1) := by decide +kernel
theorem d_ArraysSupport_newLength_16 : decode b_ArraysSupport_newLength 16 = .ok (.if_icmp .gt 5, 3) := by decide +kernel
theorem d_ArraysSupport_newLength_19 : decode b_ArraysSupport_newLength 19 = .ok (.iload_n 3, 1) := by decide +kernel
theorem d_ArraysSupport_newLength_20 : decode b_ArraysSupport_newLength 20 = .ok (.ireturn, 1) := by decide +kernel
theorem d_ArraysSupport_newLength_14 : decode b_ArraysSupport_newLength 14 = .ok (.ldc 200, 2) := by decide +kernel
set_option maxHeartbeats 4000000 in
set_option maxRecDepth 100000 in
theorem c_newLength (l : Launch) (dC : Nat → ClassId) (dI : Nat → Nat → Nat) (sb : sB) (a b g : Nat) (h1 : 0 < a + max b g) (h2 : a + max b g < 2147483639) : Met l y_ArraysSupport_newLength w_ArraysSupport_newLength ({ frames := 1, cells := 0, slots := 0, locals := 20 }) (pu_P [.int (nI a), .int (nI b), .int (nI g)] (dC, dI) sb [] []) (vp_Si (fun r => r = nI (a + max b g))) 0 0 (fun _ => False) := by
  refine Met.ofW (cc := b_ArraysSupport_newLength) (maxL := 4) (ret := (some FieldType.int)) (by decide) rfl ?_
  intro p e s m args below meth c s₁ B hml hv
  obtain ⟨rfl, hP, hK, hN, hT0⟩ := hv
  have hx := B.exec
  have hb := B.bytes
  have hr := B.returns
  have hts := atoms_spec (ws := w_ArraysSupport_newLength) B.pre
  have tbin : ∀ w ∈ tb, w ∈ w_ArraysSupport_newLength := fun w h => List.mem_cons_of_mem _ h
  have htb : ∀ w ∈ tb, w.before _ s = true := fun w h => hts w (tbin w h)
  have hown : s.vm.findClass "jdk/internal/util/ArraysSupport" = some m.cls := findClass_of_methodNamed B.named
  have hlocks := B.notSynchronized
  have hcs : 0 ≤ (headSpec w_ArraysSupport_newLength ({ frames := 1, cells := 0, slots := 0, locals := 20 })).room.cells ∧ 0 ≤ (headSpec w_ArraysSupport_newLength ({ frames := 1, cells := 0, slots := 0, locals := 20 })).room.slots := ⟨Nat.zero_le _, Nat.zero_le _⟩
  have hP : va_P (dC, dI) classes [] s.heap := hP
  have hl := lv_entry ([.int (nI a), .int (nI b), .int (nI g)]) (n := 4) (Nat.le_of_ble_eq_true rfl)
  rw [lg_entry_eq]
  generalize (lg_sl ([.int (nI a), .int (nI b), .int (nI g)]) ++ List.replicate (4 - (lg_sl ([.int (nI a), .int (nI b), .int (nI g)])).length) Slot.unset).toArray = ls at hl ⊢
  have hl : lv_has ls 4 [(0, .int (nI a)), (1, .int (nI b)), (2, .int (nI g))] := hl
  refine lv_iload_n hx hb d_ArraysSupport_newLength_0 rfl (lv_at hl 0 rfl) ?_
  refine lv_iload_n hx hb d_ArraysSupport_newLength_1 rfl (lv_at hl 1 rfl) ?_
  refine lv_iload_n hx hb d_ArraysSupport_newLength_2 rfl (lv_at hl 2 rfl) ?_
  refine va_mmax hx hb (by rw [hml]; exact hl.1.symm) hown (htb _ q4_126) (htb _ q4_127) (htb _ q1_18) (htb _ q4_128) (Nat.le_of_ble_eq_true rfl) (Nat.le_of_ble_eq_true rfl) (by omega) (by omega) d_ArraysSupport_newLength_3 ?_
  rw [show (if (nI b) < (nI g) then (nI g) else (nI b)) = nI (max b g) from mx_nI (a := b) (b := g) (by omega) (by omega)]
  refine lv_iadd hx hb d_ArraysSupport_newLength_6 ?_
  rw [show ((nI a) + (nI (max b g)) : Int32) = nI (a + (max b g)) from nI_add a (max b g)]
  refine lv_istore_n (lv' := [(3, .int (nI (a + (max b g)))), (0, .int (nI a)), (1, .int (nI b)), (2, .int (nI g))]) hx hb d_ArraysSupport_newLength_7 rfl hl (by decide) rfl (fun ls hl => ?_)
  refine lv_iconst (v := 0) hx hb d_ArraysSupport_newLength_8 (by decide) ?_
  refine lv_iload_n hx hb d_ArraysSupport_newLength_9 rfl (lv_at hl 0 rfl) ?_
  refine lv_icmp_ge (tgt := 21) hx hb d_ArraysSupport_newLength_10 (by decide) (fun c10 => ?_) (fun c10 => ?_)
  · exact absurd ((nI_leI (a := a + max b g) (b := 0) (by omega) (by omega)).mp c10) (by omega)
  refine lv_iload_n hx hb d_ArraysSupport_newLength_13 rfl (lv_at hl 0 rfl) ?_
  refine lv_ldc (v := 2147483639) hx hb hown (htb _ q4_129) d_ArraysSupport_newLength_14 ?_
  refine lv_icmp_gt (tgt := 21) hx hb d_ArraysSupport_newLength_16 (by decide) (fun c16 => ?_) (fun c16 => ?_)
  · exact absurd ((nI_ltI (a := 2147483639) (by omega) (by omega)).mp c16) (by omega)
  refine lv_iload_n hx hb d_ArraysSupport_newLength_19 rfl (lv_at hl 0 rfl) ?_
  exact W.iret (v := nI (a + (max b g))) hx hb hr (fun t ht hW => ⟨_, rfl, rfl, ht⟩) (fun q h => by cases h) d_ArraysSupport_newLength_20
def y_Arrays_copyOf2 : MethodName := ⟨"java/util/Arrays", "copyOf", "([Ljava/lang/Object;ILjava/lang/Class;)[Ljava/lang/Object;"⟩
abbrev b_Arrays_copyOf2 : ByteArray := prog_33_method_120_code
def w_Arrays_copyOf2 : List Cond := Cond.code y_Arrays_copyOf2 b_Arrays_copyOf2 4 ((some (FieldType.array (FieldType.object "java/lang/Object")))) :: tb
theorem d_Arrays_copyOf2_0 : decode b_Arrays_copyOf2 0 = .ok (.aload_n 2, 1) := by decide +kernel
theorem d_Arrays_copyOf2_1 : decode b_Arrays_copyOf2 1 = .ok (.ldc 110, 2) := by decide +kernel
theorem d_Arrays_copyOf2_3 : decode b_Arrays_copyOf2 3 = .ok (.if_acmp .ne 10, 3) := by decide +kernel
theorem d_Arrays_copyOf2_6 : decode b_Arrays_copyOf2 6 = .ok (.iload_n 1, 1) := by decide +kernel
theorem d_Arrays_copyOf2_7 : decode b_Arrays_copyOf2 7 = .ok (.anewarray 2, 3) := by decide +kernel
theorem d_Arrays_copyOf2_10 : decode b_Arrays_copyOf2 10 = .ok (.goto 14, 3) := by decide +kernel
theorem d_Arrays_copyOf2_24 : decode b_Arrays_copyOf2 24 = .ok (.astore_n 3, 1) := by decide +kernel
theorem d_Arrays_copyOf2_25 : decode b_Arrays_copyOf2 25 = .ok (.aload_n 0, 1) := by decide +kernel
theorem d_Arrays_copyOf2_26 : decode b_Arrays_copyOf2 26 = .ok (.iconst 0, 1) := by decide +kernel
theorem d_Arrays_copyOf2_27 : decode b_Arrays_copyOf2 27 = .ok (.aload_n 3, 1) := by decide +kernel
theorem d_Arrays_copyOf2_28 : decode b_Arrays_copyOf2 28 = .ok (.iconst 0, 1) := by decide +kernel
theorem d_Arrays_copyOf2_29 : decode b_Arrays_copyOf2 29 = .ok (.aload_n 0, 1) := by decide +kernel
theorem d_Arrays_copyOf2_30 : decode b_Arrays_copyOf2 30 = .ok (.arraylength, 1) := by decide +kernel
theorem d_Arrays_copyOf2_31 : decode b_Arrays_copyOf2 31 = .ok (.iload_n 1, 1) := by decide +kernel
theorem d_Arrays_copyOf2_32 : decode b_Arrays_copyOf2 32 = .ok (.invokestatic 304, 3) := by decide +kernel
theorem d_Arrays_copyOf2_35 : decode b_Arrays_copyOf2 35 = .ok (.invokestatic 150, 3) := by decide +kernel
theorem d_Arrays_copyOf2_38 : decode b_Arrays_copyOf2 38 = .ok (.aload_n 3, 1) := by decide +kernel
theorem d_Arrays_copyOf2_39 : decode b_Arrays_copyOf2 39 = .ok (.areturn, 1) := by decide +kernel
set_option maxHeartbeats 4000000 in
set_option maxRecDepth 100000 in
theorem c_copyOf3 (l : Launch) (dC : Nat → ClassId) (dI : Nat → Nat → Nat) (sb : sB) (F : va_W) (ci : Nat) (qc : vw_C) (a0 n0 N : Nat) (cO : ClassId) (f : Nat → Option Nat) (sz : Nat) (hqc : classes[ci]? = some qc) (hca : Cond.castable qc.1 "java/lang/Object" ∈ nwords) (hel : elF F ci f n0) (h1 : n0 ≤ N) (h2 : N < 2 ^ 26) : Met l y_Arrays_copyOf2 w_Arrays_copyOf2 ({ frames := 1, cells := 1, slots := N, locals := 40 }) (mf_P F [.ref a0, .int (nI N), .ref (sb.2 9)] (dC, dI) sb [(a0, .inl (cO, n0, .inr (.inr (.inr (.inr f)))))] [(cO, .object "java/lang/Object")] sz) (va_Qr (fun (_u : Unit) => True) (mu_Br (dC, dI) [(cO, .object "java/lang/Object")] (va_A [(a0, .inl (cO, n0, .inr (.inr (.inr (.inr f)))))] sz) (fun (_ : Unit) (q : Nat) => [(a0, .inl (cO, n0, .inr (.inr (.inr (.inr f))))), (q, .inl (cO, N, .inr (.inr (.inr (.inr (va_cpy f (fun _ => none) 0 0 n0))))))])) (va_A [(a0, .inl (cO, n0, .inr (.inr (.inr (.inr f)))))] sz)) 1 N (va_A [(a0, .inl (cO, n0, .inr (.inr (.inr (.inr f)))))] sz) := by
  refine Met.ofW (cc := b_Arrays_copyOf2) (maxL := 4) (ret := (some (FieldType.array (FieldType.object "java/lang/Object")))) (by decide) rfl ?_
  intro p e s m args below meth c s₁ B hml hv
  obtain ⟨⟨rfl, hsz, hB0, hP, hK, hD0, hN, hT0⟩, hF0, hFA0⟩ := hv
  have hx := B.exec
  have hb := B.bytes
  have hr := B.returns
  have hts := atoms_spec (ws := w_Arrays_copyOf2) B.pre
  have tbin : ∀ w ∈ tb, w ∈ w_Arrays_copyOf2 := fun w h => List.mem_cons_of_mem _ h
  have htb : ∀ w ∈ tb, w.before _ s = true := fun w h => hts w (tbin w h)
  have hown : s.vm.findClass "java/util/Arrays" = some m.cls := findClass_of_methodNamed B.named
  have hlocks := B.notSynchronized
  subst hsz
  have hD := hD0.self (sz := s.heap.size)
  generalize hAe : va_A [(a0, .inl (cO, n0, .inr (.inr (.inr (.inr f)))))] s.heap.size = A at hD hFA0 ⊢
  have hA : ∀ q : Nat, s.heap.size ≤ q → A q := fun q h => by rw [← hAe]; exact Or.inr h
  have hAs : ∀ q : Nat, A q → sb.1 ≤ q := fun q h => by
    rw [← hAe] at h
    rcases h with ⟨k, e, h⟩ | h
    · exact hD0.2 k _ h
    · exact Nat.le_trans hB0 h
  have hS : va_S A s.heap s.heap [] := va_S.rf
  have hcs : 1 ≤ (headSpec w_Arrays_copyOf2 ({ frames := 1, cells := 1, slots := N, locals := 40 })).room.cells ∧ N ≤ (headSpec w_Arrays_copyOf2 ({ frames := 1, cells := 1, slots := N, locals := 40 })).room.slots := ⟨Nat.le_refl _, Nat.le_refl _⟩
  have hP : va_P (dC, dI) classes [(a0, .inl (cO, n0, .inr (.inr (.inr (.inr f)))))] s.heap := hP
  have hl := lv_entry ([.ref a0, .int (nI N), .ref (sb.2 9)]) (n := 4) (Nat.le_of_ble_eq_true rfl)
  rw [lg_entry_eq]
  generalize (lg_sl ([.ref a0, .int (nI N), .ref (sb.2 9)]) ++ List.replicate (4 - (lg_sl ([.ref a0, .int (nI N), .ref (sb.2 9)])).length) Slot.unset).toArray = ls at hl ⊢
  have hl : lv_has ls 4 [(0, .ref a0), (1, .int (nI N)), (2, .ref (sb.2 9))] := hl
  refine lv_aload_n hx hb d_Arrays_copyOf2_0 rfl (lv_at hl 2 rfl) ?_
  refine va_ldcM hx hb hown (htb _ q4_159) hN.2.2 d_Arrays_copyOf2_1 ?_
  refine lv_acmp_ne (rx := some (sb.2 9)) (ry := some (sb.2 9)) (tgt := 13) hx hb d_Arrays_copyOf2_3 (by decide) (fun c3 => ?_) (fun c3 => ?_)
  · exact absurd rfl c3
  refine lv_iload_n hx hb d_Arrays_copyOf2_6 rfl (lv_at hl 1 rfl) ?_
  refine va_newq (C := "java/lang/Object") (N' := N) hx hb hown (htb _ q4_161) (hN.1 _ qn4_160) hK hP hD hS hA (nI_pos (by omega)) (nI_clamp (by omega)) (by omega) (by omega) (by omega) d_Arrays_copyOf2_7 (fun q7 cA7 H7 hKn hP hD hS => ?_)
  obtain rfl : cO = cA7 := arr_uniqO hKn 0 1 rfl rfl
  have hP : va_P (dC, dI) classes [(a0, .inl (cO, n0, .inr (.inr (.inr (.inr f))))), (q7, .inl (cO, N, .inr (.inr (.inr (.inr (fun _ => none))))))] H7 := hP
  have hD : va_D A [(a0, .inl (cO, n0, .inr (.inr (.inr (.inr f))))), (q7, .inl (cO, N, .inr (.inr (.inr (.inr (fun _ => none))))))] := hD
  refine lv_goto (tgt := 24) hx hb d_Arrays_copyOf2_10 (by decide) ?_
  refine lv_astore_n (lv' := [(3, .ref q7), (0, .ref a0), (1, .int (nI N)), (2, .ref (sb.2 9))]) hx hb d_Arrays_copyOf2_24 rfl hl (by decide) rfl (fun ls hl => ?_)
  refine lv_aload_n hx hb d_Arrays_copyOf2_25 rfl (lv_at hl 1 rfl) ?_
  refine lv_iconst (v := 0) hx hb d_Arrays_copyOf2_26 (by decide) ?_
  refine lv_aload_n hx hb d_Arrays_copyOf2_27 rfl (lv_at hl 0 rfl) ?_
  refine lv_iconst (v := 0) hx hb d_Arrays_copyOf2_28 (by decide) ?_
  refine lv_aload_n hx hb d_Arrays_copyOf2_29 rfl (lv_at hl 1 rfl) ?_
  refine va_alen (v := nI n0) hx hb hK hP 0 0 rfl rfl rfl d_Arrays_copyOf2_30 ?_
  refine lv_iload_n hx hb d_Arrays_copyOf2_31 rfl (lv_at hl 2 rfl) ?_
  refine va_mmin hx hb (by rw [hml]; exact hl.1.symm) hown (htb _ q2_74) (htb _ q2_75) (htb _ q1_18) (htb _ q2_76) (Nat.le_of_ble_eq_true rfl) (Nat.le_of_ble_eq_true rfl) (by omega) (by omega) d_Arrays_copyOf2_32 ?_
  rw [show (if (nI N) < (nI n0) then (nI N) else (nI n0)) = nI (min n0 N) from mn_nI (a := n0) (b := N) (by omega) (by omega)]
  rw [show (nI (min n0 N) : Int32) = nI n0 from congrArg nI (Nat.min_eq_left (by omega))]
  refine va_copyq (C := qc.1) (sp := 0) (dp := 0) (n := nI n0) hx hb (by rw [hml]; exact hl.1.symm) hown (htb _ q2_77) (htb _ q2_79) (htb _ q2_78) (htb _ q1_19) hK hP hD hS 0 1 0 0 rfl rfl rfl rfl (by decide) (by decide) (nI_pos (by omega)) (by rw [show (0 : Int32).toNatClampNeg = 0 from by decide, nI_clamp (by omega)]; omega) (by rw [show (0 : Int32).toNatClampNeg = 0 from by decide, nI_clamp (by omega)]; omega) (fun i hi y hy => by rw [nI_clamp (by omega)] at hi; rw [show (0 : Int32).toNatClampNeg = 0 from by decide, Nat.zero_add] at hy; exact hel.cell hK (mf_keep hF0 hFA0 hS) hqc hi hy) (vb_asgC (hN.1 _ hca)) (Nat.le_of_ble_eq_true rfl) (Nat.le_of_ble_eq_true rfl) d_Arrays_copyOf2_35 (fun H35 locs hP hD hS => ?_)
  rw [show (0 : Int32).toNatClampNeg = 0 from by decide, nI_clamp (show n0 < 2 ^ 31 by omega)] at hP hD
  have hP : va_P (dC, dI) classes [(a0, .inl (cO, n0, .inr (.inr (.inr (.inr f))))), (q7, .inl (cO, N, .inr (.inr (.inr (.inr (va_cpy f (fun _ => none) 0 0 n0))))))] H35 := hP
  have hD : va_D A [(a0, .inl (cO, n0, .inr (.inr (.inr (.inr f))))), (q7, .inl (cO, N, .inr (.inr (.inr (.inr (va_cpy f (fun _ => none) 0 0 n0))))))] := hD
  refine lv_aload_n hx hb d_Arrays_copyOf2_38 rfl (lv_at hl 0 rfl) ?_
  refine W.widen (k := 1) (n := N) (by omega) (by omega) ?_
  exact W.aret (v := .ref q7) hx hb hr (Or.inr ⟨_, rfl⟩) (Or.inr ⟨_, rfl⟩) (fun t ht hW => ⟨⟨(), q7, rfl, trivial, by rw [ht]; exact hP, va_K.moved hW.alike hK, hD⟩, hS.F ht⟩) hS.2.2 d_Arrays_copyOf2_39
def y_Arrays_copyOf1 : MethodName := ⟨"java/util/Arrays", "copyOf", "([Ljava/lang/Object;I)[Ljava/lang/Object;"⟩
abbrev b_Arrays_copyOf1 : ByteArray := prog_33_method_119_code
def w_Arrays_copyOf1 : List Cond := Cond.code y_Arrays_copyOf1 b_Arrays_copyOf1 2 ((some (FieldType.array (FieldType.object "java/lang/Object")))) :: tb
theorem d_Arrays_copyOf1_0 : decode b_Arrays_copyOf1 0 = .ok (.aload_n 0, 1) := by decide +kernel
theorem d_Arrays_copyOf1_1 : decode b_Arrays_copyOf1 1 = .ok (.iload_n 1, 1) := by decide +kernel
theorem d_Arrays_copyOf1_2 : decode b_Arrays_copyOf1 2 = .ok (.aload_n 0, 1) := by decide +kernel
theorem d_Arrays_copyOf1_3 : decode b_Arrays_copyOf1 3 = .ok (.invokevirtual 86, 3) := by decide +kernel
theorem d_Arrays_copyOf1_6 : decode b_Arrays_copyOf1 6 = .ok (.invokestatic 300, 3) := by decide +kernel
theorem d_Arrays_copyOf1_9 : decode b_Arrays_copyOf1 9 = .ok (.areturn, 1) := by decide +kernel
set_option maxHeartbeats 4000000 in
set_option maxRecDepth 100000 in
theorem c_copyOf2 (l : Launch) (dC : Nat → ClassId) (dI : Nat → Nat → Nat) (sb : sB) (F : va_W) (ci : Nat) (qc : vw_C) (a0 n0 N : Nat) (cO : ClassId) (f : Nat → Option Nat) (sz : Nat) (hqc : classes[ci]? = some qc) (hca : Cond.castable qc.1 "java/lang/Object" ∈ nwords) (hel : elF F ci f n0) (h1 : n0 ≤ N) (h2 : N < 2 ^ 26) : Met l y_Arrays_copyOf1 w_Arrays_copyOf1 ({ frames := 2, cells := 1, slots := N, locals := 70 }) (mf_P F [.ref a0, .int (nI N)] (dC, dI) sb [(a0, .inl (cO, n0, .inr (.inr (.inr (.inr f)))))] [(cO, .object "java/lang/Object")] sz) (va_Qr (fun (_u : Unit) => True) (mu_Br (dC, dI) [(cO, .object "java/lang/Object")] (va_A [(a0, .inl (cO, n0, .inr (.inr (.inr (.inr f)))))] sz) (fun (_ : Unit) (q : Nat) => [(a0, .inl (cO, n0, .inr (.inr (.inr (.inr f))))), (q, .inl (cO, N, .inr (.inr (.inr (.inr (va_cpy f (fun _ => none) 0 0 n0))))))])) (va_A [(a0, .inl (cO, n0, .inr (.inr (.inr (.inr f)))))] sz)) 1 N (va_A [(a0, .inl (cO, n0, .inr (.inr (.inr (.inr f)))))] sz) := by
  refine Met.ofW (cc := b_Arrays_copyOf1) (maxL := 2) (ret := (some (FieldType.array (FieldType.object "java/lang/Object")))) (by decide) rfl ?_
  intro p e s m args below meth c s₁ B hml hv
  obtain ⟨⟨rfl, hsz, hB0, hP, hK, hD0, hN, hT0⟩, hF0, hFA0⟩ := hv
  have hx := B.exec
  have hb := B.bytes
  have hr := B.returns
  have hts := atoms_spec (ws := w_Arrays_copyOf1) B.pre
  have tbin : ∀ w ∈ tb, w ∈ w_Arrays_copyOf1 := fun w h => List.mem_cons_of_mem _ h
  have htb : ∀ w ∈ tb, w.before _ s = true := fun w h => hts w (tbin w h)
  have hown : s.vm.findClass "java/util/Arrays" = some m.cls := findClass_of_methodNamed B.named
  have hlocks := B.notSynchronized
  subst hsz
  have hD := hD0.self (sz := s.heap.size)
  generalize hAe : va_A [(a0, .inl (cO, n0, .inr (.inr (.inr (.inr f)))))] s.heap.size = A at hD hFA0 ⊢
  have hA : ∀ q : Nat, s.heap.size ≤ q → A q := fun q h => by rw [← hAe]; exact Or.inr h
  have hAs : ∀ q : Nat, A q → sb.1 ≤ q := fun q h => by
    rw [← hAe] at h
    rcases h with ⟨k, e, h⟩ | h
    · exact hD0.2 k _ h
    · exact Nat.le_trans hB0 h
  have hS : va_S A s.heap s.heap [] := va_S.rf
  have hcs : 1 ≤ (headSpec w_Arrays_copyOf1 ({ frames := 2, cells := 1, slots := N, locals := 70 })).room.cells ∧ N ≤ (headSpec w_Arrays_copyOf1 ({ frames := 2, cells := 1, slots := N, locals := 70 })).room.slots := ⟨Nat.le_refl _, Nat.le_refl _⟩
  have hP : va_P (dC, dI) classes [(a0, .inl (cO, n0, .inr (.inr (.inr (.inr f)))))] s.heap := hP
  have hl := lv_entry ([.ref a0, .int (nI N)]) (n := 2) (Nat.le_of_ble_eq_true rfl)
  rw [lg_entry_eq]
  generalize (lg_sl ([.ref a0, .int (nI N)]) ++ List.replicate (2 - (lg_sl ([.ref a0, .int (nI N)])).length) Slot.unset).toArray = ls at hl ⊢
  have hl : lv_has ls 2 [(0, .ref a0), (1, .int (nI N))] := hl
  refine lv_aload_n hx hb d_Arrays_copyOf1_0 rfl (lv_at hl 0 rfl) ?_
  refine lv_iload_n hx hb d_Arrays_copyOf1_1 rfl (lv_at hl 1 rfl) ?_
  refine lv_aload_n hx hb d_Arrays_copyOf1_2 rfl (lv_at hl 0 rfl) ?_
  refine va_getC (C := "[Ljava/lang/Object;") hx hb (by rw [hml]; exact hl.1.symm) hown (htb _ q4_136) (va_Nw.use rfl (hN.1 _ qn9_228)) (htb _ q9_227) (htb _ q4_137) (htb _ q4_155) hN.2.2 ⟨_, hP 0 _ rfl, rfl, va_nmO (hK.2 0 _ rfl).2 rfl⟩ (Nat.le_of_ble_eq_true rfl) (Nat.le_of_ble_eq_true rfl) d_Arrays_copyOf1_3 ?_
  have hFc := va_free (wc := [(a0, .inl (cO, n0, .inr (.inr (.inr (.inr f)))))]) hD hS hA [0] rfl
  refine va_callr (mf_runS (As := [.ref a0, .int (nI N), .ref (sb.2 9)]) (rest := []) ⟨hx, hb, hml, hown, hts⟩ tbin (c_copyOf3 l dC dI sb F ci qc a0 n0 N cO f s.heap.size hqc hca hel (by omega) (by omega)) (mf_keep hF0 hFA0 hS) (fun k9 q9 h9 z9 => hFA0 k9 q9 h9 (hFc _ z9)) q4_156 q4_157 q1_17 q4_158 (n := 3) (by decide +kernel) rfl ⟨rfl, rfl⟩ ⟨Nat.le_of_ble_eq_true rfl, Nat.le_of_ble_eq_true rfl⟩ ⟨by omega, by omega⟩ hN (hT0.keep hS hAs) hAs (Nat.le_trans hB0 hS.1) hK hP hD [0] (by decide) rfl [0] rfl hl.1 rfl (Nat.le_of_ble_eq_true rfl) d_Arrays_copyOf1_6) hS (fun q _ h => hFc q h) hFc (fun u6 q6 tS H6 locs ht hvm hw6 hB hz1 hk1 hS => ?_)
  skip
  obtain ⟨hP1, hK1, hD1⟩ := hB
  rw [ht] at hP1
  obtain ⟨hP, hD⟩ := va_join (wr := []) (w1 := [(a0, .inl (cO, n0, .inr (.inr (.inr (.inr f))))), (q6, .inl (cO, N, .inr (.inr (.inr (.inr (va_cpy f (fun _ => none) 0 0 n0))))))]) hP hD [0] [] rfl rfl (by decide) (by decide) hk1 hFc hP1 hD1
  have hP : va_P (dC, dI) classes [(a0, .inl (cO, n0, .inr (.inr (.inr (.inr f))))), (q6, .inl (cO, N, .inr (.inr (.inr (.inr (va_cpy f (fun _ => none) 0 0 n0))))))] H6 := hP
  have hD : va_D A [(a0, .inl (cO, n0, .inr (.inr (.inr (.inr f))))), (q6, .inl (cO, N, .inr (.inr (.inr (.inr (va_cpy f (fun _ => none) 0 0 n0))))))] := hD
  refine W.widen (k := 1) (n := N) (by omega) (by omega) ?_
  exact W.aret (v := .ref q6) hx hb hr (Or.inr ⟨_, rfl⟩) (Or.inr ⟨_, rfl⟩) (fun t ht hW => ⟨⟨(), q6, rfl, trivial, by rw [ht]; exact hP, va_K.moved hW.alike hK, hD⟩, hS.F ht⟩) hS.2.2 d_Arrays_copyOf1_9
def y_AL_grow1 : MethodName := ⟨"java/util/ArrayList", "grow", "(I)[Ljava/lang/Object;"⟩
abbrev b_AL_grow1 : ByteArray := prog_32_method_6_code
def w_AL_grow1 : List Cond := Cond.code y_AL_grow1 b_AL_grow1 4 ((some (FieldType.array (FieldType.object "java/lang/Object")))) :: tb
theorem d_AL_grow1_0 : decode b_AL_grow1 0 = .ok (.aload_n 0, 1) := by decide +kernel
theorem d_AL_grow1_1 : decode b_AL_grow1 1 = .ok (.getfield 9, 3) := by decide +kernel
theorem d_AL_grow1_4 : decode b_AL_grow1 4 = .ok (.arraylength, 1) := by decide +kernel
theorem d_AL_grow1_5 : decode b_AL_grow1 5 = .ok (.istore_n 2, 1) := by decide +kernel
theorem d_AL_grow1_6 : decode b_AL_grow1 6 = .ok (.iload_n 2, 1) := by decide +kernel
theorem d_AL_grow1_7 : decode b_AL_grow1 7 = .ok (.ifCond .gt 13, 3) := by decide +kernel
theorem d_AL_grow1_10 : decode b_AL_grow1 10 = .ok (.aload_n 0, 1) := by decide +kernel
theorem d_AL_grow1_11 : decode b_AL_grow1 11 = .ok (.getfield 9, 3) := by decide +kernel
theorem d_AL_grow1_14 : decode b_AL_grow1 14 = .ok (.getstatic 39, 3) := by decide +kernel
theorem d_AL_grow1_17 : decode b_AL_grow1 17 = .ok (.if_acmp .eq 28, 3) := by decide +kernel
theorem d_AL_grow1_20 : decode b_AL_grow1 20 = .ok (.iload_n 2, 1) := by decide +kernel
theorem d_AL_grow1_21 : decode b_AL_grow1 21 = .ok (.iload_n 1, 1) := by decide +kernel
theorem d_AL_grow1_22 : decode b_AL_grow1 22 = .ok (.iload_n 2, 1) := by decide +kernel
theorem d_AL_grow1_23 : decode b_AL_grow1 23 = .ok (.isub, 1) := by decide +kernel
theorem d_AL_grow1_24 : decode b_AL_grow1 24 = .ok (.iload_n 2, 1) := by decide +kernel
theorem d_AL_grow1_25 : decode b_AL_grow1 25 = .ok (.iconst 1, 1) := by decide +kernel
theorem d_AL_grow1_26 : decode b_AL_grow1 26 = .ok (.ishr, 1) := by decide +kernel
theorem d_AL_grow1_27 : decode b_AL_grow1 27 = .ok (.invokestatic 73, 3) := by decide +kernel
theorem d_AL_grow1_30 : decode b_AL_grow1 30 = .ok (.istore_n 3, 1) := by decide +kernel
theorem d_AL_grow1_31 : decode b_AL_grow1 31 = .ok (.aload_n 0, 1) := by decide +kernel
theorem d_AL_grow1_32 : decode b_AL_grow1 32 = .ok (.aload_n 0, 1) := by decide +kernel
theorem d_AL_grow1_33 : decode b_AL_grow1 33 = .ok (.getfield 9, 3) := by decide +kernel
theorem d_AL_grow1_36 : decode b_AL_grow1 36 = .ok (.iload_n 3, 1) := by decide +kernel
theorem d_AL_grow1_37 : decode b_AL_grow1 37 = .ok (.invokestatic 66, 3) := by decide +kernel
theorem d_AL_grow1_40 : decode b_AL_grow1 40 = .ok (.dup_x1, 1) := by decide +kernel
theorem d_AL_grow1_41 : decode b_AL_grow1 41 = .ok (.putfield 9, 3) := by decide +kernel
theorem d_AL_grow1_44 : decode b_AL_grow1 44 = .ok (.areturn, 1) := by decide +kernel
theorem d_AL_grow1_45 : decode b_AL_grow1 45 = .ok (.aload_n 0, 1) := by decide +kernel
theorem d_AL_grow1_46 : decode b_AL_grow1 46 = .ok (.bipush 10, 2) := by decide +kernel
theorem d_AL_grow1_48 : decode b_AL_grow1 48 = .ok (.iload_n 1, 1) := by decide +kernel
theorem d_AL_grow1_49 : decode b_AL_grow1 49 = .ok (.invokestatic 79, 3) := by decide +kernel
theorem d_AL_grow1_52 : decode b_AL_grow1 52 = .ok (.anewarray 7, 3) := by decide +kernel
theorem d_AL_grow1_55 : decode b_AL_grow1 55 = .ok (.dup_x1, 1) := by decide +kernel
theorem d_AL_grow1_56 : decode b_AL_grow1 56 = .ok (.putfield 9, 3) := by decide +kernel
theorem d_AL_grow1_59 : decode b_AL_grow1 59 = .ok (.areturn, 1) := by decide +kernel
set_option maxHeartbeats 4000000 in
set_option maxRecDepth 100000 in
theorem c_growA (l : Launch) (dC : Nat → ClassId) (dI : Nat → Nat → Nat) (sb : sB) (F : va_W) (ci : Nat) (qc : vw_C) (al el cap : Nat) (mo : Int32) (cO : ClassId) (f : Nat → Option Nat) (sz : Nat) (hqc : classes[ci]? = some qc) (hca : Cond.castable qc.1 "java/lang/Object" ∈ nwords) (hel : elF F ci f cap) (h1 : 0 < cap) (h2 : cap < 2 ^ 24) : Met l y_AL_grow1 w_AL_grow1 ({ frames := 3, cells := 1, slots := (cap + max 1 (cap / 2)), locals := 110 }) (mf_P F [.ref al, .int (nI (cap + 1))] (dC, dI) sb [(al, .inr (11, [.ref el, .int (nI cap), .int mo])), (el, .inl (cO, cap, .inr (.inr (.inr (.inr f)))))] [(cO, .object "java/lang/Object")] sz) (va_Qr (fun (_u : Unit) => True) (mu_Br (dC, dI) [(cO, .object "java/lang/Object")] (va_A [(al, .inr (11, [.ref el, .int (nI cap), .int mo])), (el, .inl (cO, cap, .inr (.inr (.inr (.inr f)))))] sz) (fun (_ : Unit) (q : Nat) => [(al, .inr (11, [.ref q, .int (nI cap), .int mo])), (q, .inl (cO, (cap + max 1 (cap / 2)), .inr (.inr (.inr (.inr (va_cpy f (fun _ => none) 0 0 cap))))))])) (va_A [(al, .inr (11, [.ref el, .int (nI cap), .int mo])), (el, .inl (cO, cap, .inr (.inr (.inr (.inr f)))))] sz)) 1 (cap + max 1 (cap / 2)) (va_A [(al, .inr (11, [.ref el, .int (nI cap), .int mo])), (el, .inl (cO, cap, .inr (.inr (.inr (.inr f)))))] sz) := by
  refine Met.ofW (cc := b_AL_grow1) (maxL := 4) (ret := (some (FieldType.array (FieldType.object "java/lang/Object")))) (by decide) rfl ?_
  intro p e s m args below meth c s₁ B hml hv
  obtain ⟨⟨rfl, hsz, hB0, hP, hK, hD0, hN, hT0⟩, hF0, hFA0⟩ := hv
  have hx := B.exec
  have hb := B.bytes
  have hr := B.returns
  have hts := atoms_spec (ws := w_AL_grow1) B.pre
  have tbin : ∀ w ∈ tb, w ∈ w_AL_grow1 := fun w h => List.mem_cons_of_mem _ h
  have htb : ∀ w ∈ tb, w.before _ s = true := fun w h => hts w (tbin w h)
  have hown : s.vm.findClass "java/util/ArrayList" = some m.cls := findClass_of_methodNamed B.named
  have hlocks := B.notSynchronized
  subst hsz
  have hD := hD0.self (sz := s.heap.size)
  generalize hAe : va_A [(al, .inr (11, [.ref el, .int (nI cap), .int mo])), (el, .inl (cO, cap, .inr (.inr (.inr (.inr f)))))] s.heap.size = A at hD hFA0 ⊢
  have hA : ∀ q : Nat, s.heap.size ≤ q → A q := fun q h => by rw [← hAe]; exact Or.inr h
  have hAs : ∀ q : Nat, A q → sb.1 ≤ q := fun q h => by
    rw [← hAe] at h
    rcases h with ⟨k, e, h⟩ | h
    · exact hD0.2 k _ h
    · exact Nat.le_trans hB0 h
  have hS : va_S A s.heap s.heap [] := va_S.rf
  have hcs : 1 ≤ (headSpec w_AL_grow1 ({ frames := 3, cells := 1, slots := (cap + max 1 (cap / 2)), locals := 110 })).room.cells ∧ (cap + max 1 (cap / 2)) ≤ (headSpec w_AL_grow1 ({ frames := 3, cells := 1, slots := (cap + max 1 (cap / 2)), locals := 110 })).room.slots := ⟨Nat.le_refl _, Nat.le_refl _⟩
  have hP : va_P (dC, dI) classes [(al, .inr (11, [.ref el, .int (nI cap), .int mo])), (el, .inl (cO, cap, .inr (.inr (.inr (.inr f)))))] s.heap := hP
  have hl := lv_entry ([.ref al, .int (nI (cap + 1))]) (n := 4) (Nat.le_of_ble_eq_true rfl)
  rw [lg_entry_eq]
  generalize (lg_sl ([.ref al, .int (nI (cap + 1))]) ++ List.replicate (4 - (lg_sl ([.ref al, .int (nI (cap + 1))])).length) Slot.unset).toArray = ls at hl ⊢
  have hl : lv_has ls 4 [(0, .ref al), (1, .int (nI (cap + 1)))] := hl
  refine lv_aload_n hx hb d_AL_grow1_0 rfl (lv_at hl 0 rfl) ?_
  refine va_get (v := .ref el) hx hb htb i_AL hown hK hP 0 rfl rfl 0 (by decide) (htb _ q1_55) (fun _ h9 => h9) rfl d_AL_grow1_1 ?_
  refine va_alen (v := nI cap) hx hb hK hP 1 0 rfl rfl rfl d_AL_grow1_4 ?_
  refine lv_istore_n (lv' := [(2, .int (nI cap)), (0, .ref al), (1, .int (nI (cap + 1)))]) hx hb d_AL_grow1_5 rfl hl (by decide) rfl (fun ls hl => ?_)
  refine lv_iload_n hx hb d_AL_grow1_6 rfl (lv_at hl 0 rfl) ?_
  refine lv_if_gt (tgt := 20) hx hb d_AL_grow1_7 (by decide) (fun c7 => ?_) (fun c7 => ?_)
  rotate_left
  · exact absurd ((nI_ltI (a := 0) (by omega) (by omega)).mpr (by omega)) c7
  refine lv_iload_n hx hb d_AL_grow1_20 rfl (lv_at hl 0 rfl) ?_
  refine lv_iload_n hx hb d_AL_grow1_21 rfl (lv_at hl 2 rfl) ?_
  refine lv_iload_n hx hb d_AL_grow1_22 rfl (lv_at hl 0 rfl) ?_
  refine lv_isub hx hb d_AL_grow1_23 ?_
  rw [show ((nI (cap + 1)) - (nI cap) : Int32) = nI 1 from (pk_sub (by omega)).trans (congrArg nI (by omega))]
  refine lv_iload_n hx hb d_AL_grow1_24 rfl (lv_at hl 0 rfl) ?_
  refine lv_iconst (v := 1) hx hb d_AL_grow1_25 (by decide) ?_
  refine lv_ishr hx hb d_AL_grow1_26 ?_
  rw [show ((nI cap) >>> (1 &&& 31) : Int32) = nI (cap / 2) from shr1_nI (by omega)]
  refine vp_callSi (pu_callS (As := [.int (nI cap), .int (nI 1), .int (nI (cap / 2))]) (rest := []) ⟨hx, hb, hml, hown, hts⟩ tbin (c_newLength l dC dI sb cap 1 (cap / 2) (by omega) (by omega)) q4_123 q4_124 q1_24 q4_125 (n := 3) (by decide +kernel) rfl ⟨rfl, rfl⟩ ⟨Nat.le_of_ble_eq_true rfl, Nat.le_of_ble_eq_true rfl⟩ ⟨by omega, by omega⟩ hN (hT0.keep hS hAs) hK hP [] rfl [] rfl hl.1 rfl (Nat.le_of_ble_eq_true rfl) d_AL_grow1_27) (fun r27 hr27 => ?_)
  subst hr27
  refine lv_istore_n (lv' := [(3, .int (nI (cap + max 1 (cap / 2)))), (2, .int (nI cap)), (0, .ref al), (1, .int (nI (cap + 1)))]) hx hb d_AL_grow1_30 rfl hl (by decide) rfl (fun ls hl => ?_)
  refine lv_aload_n hx hb d_AL_grow1_31 rfl (lv_at hl 2 rfl) ?_
  refine lv_aload_n hx hb d_AL_grow1_32 rfl (lv_at hl 2 rfl) ?_
  refine va_get (v := .ref el) hx hb htb i_AL hown hK hP 0 rfl rfl 0 (by decide) (htb _ q1_55) (fun _ h9 => h9) rfl d_AL_grow1_33 ?_
  refine lv_iload_n hx hb d_AL_grow1_36 rfl (lv_at hl 0 rfl) ?_
  have hFc := va_free (wc := [(el, .inl (cO, cap, .inr (.inr (.inr (.inr f)))))]) hD hS hA [1] rfl
  refine va_callr (mf_runS (As := [.ref el, .int (nI (cap + max 1 (cap / 2)))]) (rest := [.ref al]) ⟨hx, hb, hml, hown, hts⟩ tbin (c_copyOf2 l dC dI sb F ci qc el cap (cap + max 1 (cap / 2)) cO f s.heap.size hqc hca hel (by omega) (by omega)) (mf_keep hF0 hFA0 hS) (fun k9 q9 h9 z9 => hFA0 k9 q9 h9 (hFc _ z9)) q4_133 q4_134 q1_17 q4_135 (n := 2) (by decide +kernel) rfl ⟨rfl, rfl⟩ ⟨Nat.le_of_ble_eq_true rfl, Nat.le_of_ble_eq_true rfl⟩ ⟨by omega, by omega⟩ hN (hT0.keep hS hAs) hAs (Nat.le_trans hB0 hS.1) hK hP hD [1] (by decide) rfl [0] rfl hl.1 rfl (Nat.le_of_ble_eq_true rfl) d_AL_grow1_37) hS (fun q _ h => hFc q h) hFc (fun u37 q37 tS H37 locs ht hvm hw37 hB hz1 hk1 hS => ?_)
  skip
  obtain ⟨hP1, hK1, hD1⟩ := hB
  rw [ht] at hP1
  obtain ⟨hP, hD⟩ := va_join (wr := [(al, .inr (11, [.ref el, .int (nI cap), .int mo]))]) (w1 := [(el, .inl (cO, cap, .inr (.inr (.inr (.inr f))))), (q37, .inl (cO, (cap + max 1 (cap / 2)), .inr (.inr (.inr (.inr (va_cpy f (fun _ => none) 0 0 cap))))))]) hP hD [1] [0] rfl rfl (by decide) (by decide) hk1 hFc hP1 hD1
  have hP : va_P (dC, dI) classes [(al, .inr (11, [.ref el, .int (nI cap), .int mo])), (el, .inl (cO, cap, .inr (.inr (.inr (.inr f))))), (q37, .inl (cO, (cap + max 1 (cap / 2)), .inr (.inr (.inr (.inr (va_cpy f (fun _ => none) 0 0 cap))))))] H37 := hP
  have hD : va_D A [(al, .inr (11, [.ref el, .int (nI cap), .int mo])), (el, .inl (cO, cap, .inr (.inr (.inr (.inr f))))), (q37, .inl (cO, (cap + max 1 (cap / 2)), .inr (.inr (.inr (.inr (va_cpy f (fun _ => none) 0 0 cap))))))] := hD
  refine lv_dup_x1 hx hb d_AL_grow1_40 rfl rfl ?_
  refine va_put (v := .ref q37) (ty := (.array (.object "java/lang/Object"))) hx hb htb i_AL t_AL t_AL_ok n_AL hown hK hP hD hS 0 rfl rfl 0 (by decide) (htb _ q1_55) (fun _ h9 => h9) rfl (by decide +kernel) rfl rfl (Nat.le_of_ble_eq_true rfl) d_AL_grow1_41 (fun H41 locs hP hD hS => ?_)
  have hP : va_P (dC, dI) classes [(al, .inr (11, [.ref q37, .int (nI cap), .int mo])), (el, .inl (cO, cap, .inr (.inr (.inr (.inr f))))), (q37, .inl (cO, (cap + max 1 (cap / 2)), .inr (.inr (.inr (.inr (va_cpy f (fun _ => none) 0 0 cap))))))] H41 := hP
  have hD : va_D A [(al, .inr (11, [.ref q37, .int (nI cap), .int mo])), (el, .inl (cO, cap, .inr (.inr (.inr (.inr f))))), (q37, .inl (cO, (cap + max 1 (cap / 2)), .inr (.inr (.inr (.inr (va_cpy f (fun _ => none) 0 0 cap))))))] := hD
  refine W.widen (k := 1) (n := (cap + max 1 (cap / 2))) (by omega) (by omega) ?_
  exact W.aret (v := .ref q37) hx hb hr (Or.inr ⟨_, rfl⟩) (Or.inr ⟨_, rfl⟩) (fun t ht hW => ⟨⟨(), q37, rfl, trivial, by rw [ht]; exact hP.sub [0, 2] rfl, va_K.moved hW.alike hK, hD.sub [0, 2] (by decide) rfl⟩, hS.F ht⟩) hS.2.2 d_AL_grow1_44
set_option maxHeartbeats 4000000 in
set_option maxRecDepth 100000 in
theorem c_growB (l : Launch) (dC : Nat → ClassId) (dI : Nat → Nat → Nat) (sb : sB) (F : va_W) (ci : Nat) (qc : vw_C) (al : Nat) (mo : Int32) (cO : ClassId) (sz : Nat) (hqc : classes[ci]? = some qc) (hca : Cond.castable qc.1 "java/lang/Object" ∈ nwords) : Met l y_AL_grow1 w_AL_grow1 ({ frames := 3, cells := 1, slots := 10, locals := 110 }) (mf_P F [.ref al, .int (nI 1)] (dC, dI) sb [(al, .inr (11, [.ref (sb.2 5), .int (nI 0), .int mo]))] [(cO, .object "java/lang/Object")] sz) (va_Qr (fun (_u : Unit) => True) (mu_Br (dC, dI) [(cO, .object "java/lang/Object")] (va_A [(al, .inr (11, [.ref (sb.2 5), .int (nI 0), .int mo]))] sz) (fun (_ : Unit) (q : Nat) => [(al, .inr (11, [.ref q, .int (nI 0), .int mo])), (q, .inl (cO, 10, .inr (.inr (.inr (.inr (fun _ => none))))))])) (va_A [(al, .inr (11, [.ref (sb.2 5), .int (nI 0), .int mo]))] sz)) 1 10 (va_A [(al, .inr (11, [.ref (sb.2 5), .int (nI 0), .int mo]))] sz) := by
  refine Met.ofW (cc := b_AL_grow1) (maxL := 4) (ret := (some (FieldType.array (FieldType.object "java/lang/Object")))) (by decide) rfl ?_
  intro p e s m args below meth c s₁ B hml hv
  obtain ⟨⟨rfl, hsz, hB0, hP, hK, hD0, hN, hT0⟩, hF0, hFA0⟩ := hv
  have hx := B.exec
  have hb := B.bytes
  have hr := B.returns
  have hts := atoms_spec (ws := w_AL_grow1) B.pre
  have tbin : ∀ w ∈ tb, w ∈ w_AL_grow1 := fun w h => List.mem_cons_of_mem _ h
  have htb : ∀ w ∈ tb, w.before _ s = true := fun w h => hts w (tbin w h)
  have hown : s.vm.findClass "java/util/ArrayList" = some m.cls := findClass_of_methodNamed B.named
  have hlocks := B.notSynchronized
  subst hsz
  have hD := hD0.self (sz := s.heap.size)
  generalize hAe : va_A [(al, .inr (11, [.ref (sb.2 5), .int (nI 0), .int mo]))] s.heap.size = A at hD hFA0 ⊢
  have hA : ∀ q : Nat, s.heap.size ≤ q → A q := fun q h => by rw [← hAe]; exact Or.inr h
  have hAs : ∀ q : Nat, A q → sb.1 ≤ q := fun q h => by
    rw [← hAe] at h
    rcases h with ⟨k, e, h⟩ | h
    · exact hD0.2 k _ h
    · exact Nat.le_trans hB0 h
  have hS : va_S A s.heap s.heap [] := va_S.rf
  have hcs : 1 ≤ (headSpec w_AL_grow1 ({ frames := 3, cells := 1, slots := 10, locals := 110 })).room.cells ∧ 10 ≤ (headSpec w_AL_grow1 ({ frames := 3, cells := 1, slots := 10, locals := 110 })).room.slots := ⟨Nat.le_refl _, Nat.le_refl _⟩
  have hP : va_P (dC, dI) classes [(al, .inr (11, [.ref (sb.2 5), .int (nI 0), .int mo]))] s.heap := hP
  have hl := lv_entry ([.ref al, .int (nI 1)]) (n := 4) (Nat.le_of_ble_eq_true rfl)
  rw [lg_entry_eq]
  generalize (lg_sl ([.ref al, .int (nI 1)]) ++ List.replicate (4 - (lg_sl ([.ref al, .int (nI 1)])).length) Slot.unset).toArray = ls at hl ⊢
  have hl : lv_has ls 4 [(0, .ref al), (1, .int (nI 1))] := hl
  refine lv_aload_n hx hb d_AL_grow1_0 rfl (lv_at hl 0 rfl) ?_
  refine va_get (v := .ref (sb.2 5)) hx hb htb i_AL hown hK hP 0 rfl rfl 0 (by decide) (htb _ q1_55) (fun _ h9 => h9) rfl d_AL_grow1_1 ?_
  refine va_tlen (v := 0) hx hb (hT0.2.2.2.2.2.1.2.narrow hAs) hS rfl d_AL_grow1_4 ?_
  refine lv_istore_n (lv' := [(2, .int 0), (0, .ref al), (1, .int (nI 1))]) hx hb d_AL_grow1_5 rfl hl (by decide) rfl (fun ls hl => ?_)
  refine lv_iload_n hx hb d_AL_grow1_6 rfl (lv_at hl 0 rfl) ?_
  refine lv_if_gt (tgt := 20) hx hb d_AL_grow1_7 (by decide) (fun c7 => ?_) (fun c7 => ?_)
  · exact absurd c7 (by decide)
  refine lv_aload_n hx hb d_AL_grow1_10 rfl (lv_at hl 1 rfl) ?_
  refine va_get (v := .ref (sb.2 5)) hx hb htb i_AL hown hK hP 0 rfl rfl 0 (by decide) (htb _ q1_55) (fun _ h9 => h9) rfl d_AL_grow1_11 ?_
  refine va_gets hx hb (hT0.2.2.2.2.2.1.1.narrow hAs) hS hown (htb _ q1_53) (fun _ h9 => h9) d_AL_grow1_14 ?_
  refine lv_acmp_eq (rx := some (sb.2 5)) (ry := some (sb.2 5)) (tgt := 45) hx hb d_AL_grow1_17 (by decide) (fun c17 => ?_) (fun c17 => ?_)
  rotate_left
  · exact absurd rfl c17
  refine lv_aload_n hx hb d_AL_grow1_45 rfl (lv_at hl 1 rfl) ?_
  refine lv_bipush (v := 10) hx hb d_AL_grow1_46 (by decide) ?_
  refine lv_iload_n hx hb d_AL_grow1_48 rfl (lv_at hl 2 rfl) ?_
  refine va_mmax hx hb (by rw [hml]; exact hl.1.symm) hown (htb _ q4_162) (htb _ q4_127) (htb _ q1_18) (htb _ q4_128) (Nat.le_of_ble_eq_true rfl) (Nat.le_of_ble_eq_true rfl) (by omega) (by omega) d_AL_grow1_49 ?_
  rw [show (if (10 : Int32) < (nI 1) then (nI 1) else (10 : Int32)) = nI (max 10 1) from mx_nI (a := 10) (b := 1) (by omega) (by omega)]
  rw [show (nI (max 10 1) : Int32) = nI 10 from rfl]
  refine va_newq (C := "java/lang/Object") (N' := 10) hx hb hown (htb _ q4_163) (hN.1 _ qn4_160) hK hP hD hS hA (nI_pos (by omega)) (nI_clamp (by omega)) (by omega) (by omega) (by omega) d_AL_grow1_52 (fun q52 cA52 H52 hKn hP hD hS => ?_)
  obtain rfl : cO = cA52 := arr_uniqO hKn 0 1 rfl rfl
  have hP : va_P (dC, dI) classes [(al, .inr (11, [.ref (sb.2 5), .int (nI 0), .int mo])), (q52, .inl (cO, 10, .inr (.inr (.inr (.inr (fun _ => none))))))] H52 := hP
  have hD : va_D A [(al, .inr (11, [.ref (sb.2 5), .int (nI 0), .int mo])), (q52, .inl (cO, 10, .inr (.inr (.inr (.inr (fun _ => none))))))] := hD
  refine lv_dup_x1 hx hb d_AL_grow1_55 rfl rfl ?_
  refine va_put (v := .ref q52) (ty := (.array (.object "java/lang/Object"))) hx hb htb i_AL t_AL t_AL_ok n_AL hown hK hP hD hS 0 rfl rfl 0 (by decide) (htb _ q1_55) (fun _ h9 => h9) rfl (by decide +kernel) rfl rfl (Nat.le_of_ble_eq_true rfl) d_AL_grow1_56 (fun H56 locs hP hD hS => ?_)
  have hP : va_P (dC, dI) classes [(al, .inr (11, [.ref q52, .int (nI 0), .int mo])), (q52, .inl (cO, 10, .inr (.inr (.inr (.inr (fun _ => none))))))] H56 := hP
  have hD : va_D A [(al, .inr (11, [.ref q52, .int (nI 0), .int mo])), (q52, .inl (cO, 10, .inr (.inr (.inr (.inr (fun _ => none))))))] := hD
  refine W.widen (k := 1) (n := 10) (by omega) (by omega) ?_
  exact W.aret (v := .ref q52) hx hb hr (Or.inr ⟨_, rfl⟩) (Or.inr ⟨_, rfl⟩) (fun t ht hW => ⟨⟨(), q52, rfl, trivial, by rw [ht]; exact hP, va_K.moved hW.alike hK, hD⟩, hS.F ht⟩) hS.2.2 d_AL_grow1_59
def y_AL_grow0 : MethodName := ⟨"java/util/ArrayList", "grow", "()[Ljava/lang/Object;"⟩
abbrev b_AL_grow0 : ByteArray := prog_32_method_7_code
def w_AL_grow0 : List Cond := Cond.code y_AL_grow0 b_AL_grow0 1 ((some (FieldType.array (FieldType.object "java/lang/Object")))) :: tb
theorem d_AL_grow0_0 : decode b_AL_grow0 0 = .ok (.aload_n 0, 1) := by decide +kernel
theorem d_AL_grow0_1 : decode b_AL_grow0 1 = .ok (.aload_n 0, 1) := by decide +kernel
theorem d_AL_grow0_2 : decode b_AL_grow0 2 = .ok (.getfield 48, 3) := by decide +kernel
theorem d_AL_grow0_5 : decode b_AL_grow0 5 = .ok (.iconst 1, 1) := by decide +kernel
theorem d_AL_grow0_6 : decode b_AL_grow0 6 = .ok (.iadd, 1) := by decide +kernel
theorem d_AL_grow0_7 : decode b_AL_grow0 7 = .ok (.invokevirtual 69, 3) := by decide +kernel
theorem d_AL_grow0_10 : decode b_AL_grow0 10 = .ok (.areturn, 1) := by decide +kernel
set_option maxHeartbeats 4000000 in
set_option maxRecDepth 100000 in
theorem c_grow0A (l : Launch) (dC : Nat → ClassId) (dI : Nat → Nat → Nat) (sb : sB) (F : va_W) (ci : Nat) (qc : vw_C) (al el cap : Nat) (mo : Int32) (cO : ClassId) (f : Nat → Option Nat) (sz : Nat) (hqc : classes[ci]? = some qc) (hca : Cond.castable qc.1 "java/lang/Object" ∈ nwords) (hel : elF F ci f cap) (h1 : 0 < cap) (h2 : cap < 2 ^ 24) : Met l y_AL_grow0 w_AL_grow0 ({ frames := 4, cells := 1, slots := (cap + max 1 (cap / 2)), locals := 140 }) (mf_P F [.ref al] (dC, dI) sb [(al, .inr (11, [.ref el, .int (nI cap), .int mo])), (el, .inl (cO, cap, .inr (.inr (.inr (.inr f)))))] [(cO, .object "java/lang/Object")] sz) (va_Qr (fun (_u : Unit) => True) (mu_Br (dC, dI) [(cO, .object "java/lang/Object")] (va_A [(al, .inr (11, [.ref el, .int (nI cap), .int mo])), (el, .inl (cO, cap, .inr (.inr (.inr (.inr f)))))] sz) (fun (_ : Unit) (q : Nat) => [(al, .inr (11, [.ref q, .int (nI cap), .int mo])), (q, .inl (cO, (cap + max 1 (cap / 2)), .inr (.inr (.inr (.inr (va_cpy f (fun _ => none) 0 0 cap))))))])) (va_A [(al, .inr (11, [.ref el, .int (nI cap), .int mo])), (el, .inl (cO, cap, .inr (.inr (.inr (.inr f)))))] sz)) 1 (cap + max 1 (cap / 2)) (va_A [(al, .inr (11, [.ref el, .int (nI cap), .int mo])), (el, .inl (cO, cap, .inr (.inr (.inr (.inr f)))))] sz) := by
  refine Met.ofW (cc := b_AL_grow0) (maxL := 1) (ret := (some (FieldType.array (FieldType.object "java/lang/Object")))) (by decide) rfl ?_
  intro p e s m args below meth c s₁ B hml hv
  obtain ⟨⟨rfl, hsz, hB0, hP, hK, hD0, hN, hT0⟩, hF0, hFA0⟩ := hv
  have hx := B.exec
  have hb := B.bytes
  have hr := B.returns
  have hts := atoms_spec (ws := w_AL_grow0) B.pre
  have tbin : ∀ w ∈ tb, w ∈ w_AL_grow0 := fun w h => List.mem_cons_of_mem _ h
  have htb : ∀ w ∈ tb, w.before _ s = true := fun w h => hts w (tbin w h)
  have hown : s.vm.findClass "java/util/ArrayList" = some m.cls := findClass_of_methodNamed B.named
  have hlocks := B.notSynchronized
  subst hsz
  have hD := hD0.self (sz := s.heap.size)
  generalize hAe : va_A [(al, .inr (11, [.ref el, .int (nI cap), .int mo])), (el, .inl (cO, cap, .inr (.inr (.inr (.inr f)))))] s.heap.size = A at hD hFA0 ⊢
  have hA : ∀ q : Nat, s.heap.size ≤ q → A q := fun q h => by rw [← hAe]; exact Or.inr h
  have hAs : ∀ q : Nat, A q → sb.1 ≤ q := fun q h => by
    rw [← hAe] at h
    rcases h with ⟨k, e, h⟩ | h
    · exact hD0.2 k _ h
    · exact Nat.le_trans hB0 h
  have hS : va_S A s.heap s.heap [] := va_S.rf
  have hcs : 1 ≤ (headSpec w_AL_grow0 ({ frames := 4, cells := 1, slots := (cap + max 1 (cap / 2)), locals := 140 })).room.cells ∧ (cap + max 1 (cap / 2)) ≤ (headSpec w_AL_grow0 ({ frames := 4, cells := 1, slots := (cap + max 1 (cap / 2)), locals := 140 })).room.slots := ⟨Nat.le_refl _, Nat.le_refl _⟩
  have hP : va_P (dC, dI) classes [(al, .inr (11, [.ref el, .int (nI cap), .int mo])), (el, .inl (cO, cap, .inr (.inr (.inr (.inr f)))))] s.heap := hP
  have hl := lv_entry ([.ref al]) (n := 1) (Nat.le_of_ble_eq_true rfl)
  rw [lg_entry_eq]
  generalize (lg_sl ([.ref al]) ++ List.replicate (1 - (lg_sl ([.ref al])).length) Slot.unset).toArray = ls at hl ⊢
  have hl : lv_has ls 1 [(0, .ref al)] := hl
  refine lv_aload_n hx hb d_AL_grow0_0 rfl (lv_at hl 0 rfl) ?_
  refine lv_aload_n hx hb d_AL_grow0_1 rfl (lv_at hl 0 rfl) ?_
  refine va_get (v := .int (nI cap)) hx hb htb i_AL hown hK hP 0 rfl rfl 1 (by decide) (htb _ q1_56) (fun _ h9 => h9) rfl d_AL_grow0_2 ?_
  refine lv_iconst (v := 1) hx hb d_AL_grow0_5 (by decide) ?_
  refine lv_iadd hx hb d_AL_grow0_6 ?_
  rw [show ((nI cap) + 1 : Int32) = nI (cap + 1) from nI_1 _]
  have hFc := va_free (wc := [(al, .inr (11, [.ref el, .int (nI cap), .int mo])), (el, .inl (cO, cap, .inr (.inr (.inr (.inr f)))))]) hD hS hA [0, 1] rfl
  refine va_callr (mf_runV (As := [.int (nI (cap + 1))]) (rest := []) ⟨hx, hb, hml, hown, hts⟩ tbin (c_growA l dC dI sb F ci qc al el cap mo cO f s.heap.size hqc hca hel h1 h2) (mf_keep hF0 hFA0 hS) (fun k9 q9 h9 z9 => hFA0 k9 q9 h9 (hFc _ z9)) q4_119 q4_121 qp_11 q1_4 q4_122 (n := 1) (by decide +kernel) rfl ⟨rfl, rfl⟩ ⟨Nat.le_of_ble_eq_true rfl, Nat.le_of_ble_eq_true rfl⟩ ⟨by omega, by omega⟩ hN (hT0.keep hS hAs) hAs (Nat.le_trans hB0 hS.1) hK hP hD [0, 1] (by decide) rfl [0] rfl 0 11 rfl rfl rfl hl.1 rfl (Nat.le_of_ble_eq_true rfl) d_AL_grow0_7) hS (fun q _ h => hFc q h) hFc (fun u7 q7 tS H7 locs ht hvm hw7 hB hz1 hk1 hS => ?_)
  skip
  obtain ⟨hP1, hK1, hD1⟩ := hB
  rw [ht] at hP1
  obtain ⟨hP, hD⟩ := va_join (wr := []) (w1 := [(al, .inr (11, [.ref q7, .int (nI cap), .int mo])), (q7, .inl (cO, (cap + max 1 (cap / 2)), .inr (.inr (.inr (.inr (va_cpy f (fun _ => none) 0 0 cap))))))]) hP hD [0, 1] [] rfl rfl (by decide) (by decide) hk1 hFc hP1 hD1
  have hP : va_P (dC, dI) classes [(al, .inr (11, [.ref q7, .int (nI cap), .int mo])), (q7, .inl (cO, (cap + max 1 (cap / 2)), .inr (.inr (.inr (.inr (va_cpy f (fun _ => none) 0 0 cap))))))] H7 := hP
  have hD : va_D A [(al, .inr (11, [.ref q7, .int (nI cap), .int mo])), (q7, .inl (cO, (cap + max 1 (cap / 2)), .inr (.inr (.inr (.inr (va_cpy f (fun _ => none) 0 0 cap))))))] := hD
  refine W.widen (k := 1) (n := (cap + max 1 (cap / 2))) (by omega) (by omega) ?_
  exact W.aret (v := .ref q7) hx hb hr (Or.inr ⟨_, rfl⟩) (Or.inr ⟨_, rfl⟩) (fun t ht hW => ⟨⟨(), q7, rfl, trivial, by rw [ht]; exact hP, va_K.moved hW.alike hK, hD⟩, hS.F ht⟩) hS.2.2 d_AL_grow0_10
set_option maxHeartbeats 4000000 in
set_option maxRecDepth 100000 in
theorem c_grow0B (l : Launch) (dC : Nat → ClassId) (dI : Nat → Nat → Nat) (sb : sB) (F : va_W) (ci : Nat) (qc : vw_C) (al : Nat) (mo : Int32) (cO : ClassId) (sz : Nat) (hqc : classes[ci]? = some qc) (hca : Cond.castable qc.1 "java/lang/Object" ∈ nwords) : Met l y_AL_grow0 w_AL_grow0 ({ frames := 4, cells := 1, slots := 10, locals := 140 }) (mf_P F [.ref al] (dC, dI) sb [(al, .inr (11, [.ref (sb.2 5), .int (nI 0), .int mo]))] [(cO, .object "java/lang/Object")] sz) (va_Qr (fun (_u : Unit) => True) (mu_Br (dC, dI) [(cO, .object "java/lang/Object")] (va_A [(al, .inr (11, [.ref (sb.2 5), .int (nI 0), .int mo]))] sz) (fun (_ : Unit) (q : Nat) => [(al, .inr (11, [.ref q, .int (nI 0), .int mo])), (q, .inl (cO, 10, .inr (.inr (.inr (.inr (fun _ => none))))))])) (va_A [(al, .inr (11, [.ref (sb.2 5), .int (nI 0), .int mo]))] sz)) 1 10 (va_A [(al, .inr (11, [.ref (sb.2 5), .int (nI 0), .int mo]))] sz) := by
  refine Met.ofW (cc := b_AL_grow0) (maxL := 1) (ret := (some (FieldType.array (FieldType.object "java/lang/Object")))) (by decide) rfl ?_
  intro p e s m args below meth c s₁ B hml hv
  obtain ⟨⟨rfl, hsz, hB0, hP, hK, hD0, hN, hT0⟩, hF0, hFA0⟩ := hv
  have hx := B.exec
  have hb := B.bytes
  have hr := B.returns
  have hts := atoms_spec (ws := w_AL_grow0) B.pre
  have tbin : ∀ w ∈ tb, w ∈ w_AL_grow0 := fun w h => List.mem_cons_of_mem _ h
  have htb : ∀ w ∈ tb, w.before _ s = true := fun w h => hts w (tbin w h)
  have hown : s.vm.findClass "java/util/ArrayList" = some m.cls := findClass_of_methodNamed B.named
  have hlocks := B.notSynchronized
  subst hsz
  have hD := hD0.self (sz := s.heap.size)
  generalize hAe : va_A [(al, .inr (11, [.ref (sb.2 5), .int (nI 0), .int mo]))] s.heap.size = A at hD hFA0 ⊢
  have hA : ∀ q : Nat, s.heap.size ≤ q → A q := fun q h => by rw [← hAe]; exact Or.inr h
  have hAs : ∀ q : Nat, A q → sb.1 ≤ q := fun q h => by
    rw [← hAe] at h
    rcases h with ⟨k, e, h⟩ | h
    · exact hD0.2 k _ h
    · exact Nat.le_trans hB0 h
  have hS : va_S A s.heap s.heap [] := va_S.rf
  have hcs : 1 ≤ (headSpec w_AL_grow0 ({ frames := 4, cells := 1, slots := 10, locals := 140 })).room.cells ∧ 10 ≤ (headSpec w_AL_grow0 ({ frames := 4, cells := 1, slots := 10, locals := 140 })).room.slots := ⟨Nat.le_refl _, Nat.le_refl _⟩
  have hP : va_P (dC, dI) classes [(al, .inr (11, [.ref (sb.2 5), .int (nI 0), .int mo]))] s.heap := hP
  have hl := lv_entry ([.ref al]) (n := 1) (Nat.le_of_ble_eq_true rfl)
  rw [lg_entry_eq]
  generalize (lg_sl ([.ref al]) ++ List.replicate (1 - (lg_sl ([.ref al])).length) Slot.unset).toArray = ls at hl ⊢
  have hl : lv_has ls 1 [(0, .ref al)] := hl
  refine lv_aload_n hx hb d_AL_grow0_0 rfl (lv_at hl 0 rfl) ?_
  refine lv_aload_n hx hb d_AL_grow0_1 rfl (lv_at hl 0 rfl) ?_
  refine va_get (v := .int (nI 0)) hx hb htb i_AL hown hK hP 0 rfl rfl 1 (by decide) (htb _ q1_56) (fun _ h9 => h9) rfl d_AL_grow0_2 ?_
  refine lv_iconst (v := 1) hx hb d_AL_grow0_5 (by decide) ?_
  refine lv_iadd hx hb d_AL_grow0_6 ?_
  rw [show ((nI 0) + 1 : Int32) = nI 1 from rfl]
  have hFc := va_free (wc := [(al, .inr (11, [.ref (sb.2 5), .int (nI 0), .int mo]))]) hD hS hA [0] rfl
  refine va_callr (mf_runV (As := [.int (nI 1)]) (rest := []) ⟨hx, hb, hml, hown, hts⟩ tbin (c_growB l dC dI sb F ci qc al mo cO s.heap.size hqc hca) (mf_keep hF0 hFA0 hS) (fun k9 q9 h9 z9 => hFA0 k9 q9 h9 (hFc _ z9)) q4_119 q4_121 qp_11 q1_4 q4_122 (n := 1) (by decide +kernel) rfl ⟨rfl, rfl⟩ ⟨Nat.le_of_ble_eq_true rfl, Nat.le_of_ble_eq_true rfl⟩ ⟨by omega, by omega⟩ hN (hT0.keep hS hAs) hAs (Nat.le_trans hB0 hS.1) hK hP hD [0] (by decide) rfl [0] rfl 0 11 rfl rfl rfl hl.1 rfl (Nat.le_of_ble_eq_true rfl) d_AL_grow0_7) hS (fun q _ h => hFc q h) hFc (fun u7 q7 tS H7 locs ht hvm hw7 hB hz1 hk1 hS => ?_)
  skip
  obtain ⟨hP1, hK1, hD1⟩ := hB
  rw [ht] at hP1
  obtain ⟨hP, hD⟩ := va_join (wr := []) (w1 := [(al, .inr (11, [.ref q7, .int (nI 0), .int mo])), (q7, .inl (cO, 10, .inr (.inr (.inr (.inr (fun _ => none))))))]) hP hD [0] [] rfl rfl (by decide) (by decide) hk1 hFc hP1 hD1
  have hP : va_P (dC, dI) classes [(al, .inr (11, [.ref q7, .int (nI 0), .int mo])), (q7, .inl (cO, 10, .inr (.inr (.inr (.inr (fun _ => none))))))] H7 := hP
  have hD : va_D A [(al, .inr (11, [.ref q7, .int (nI 0), .int mo])), (q7, .inl (cO, 10, .inr (.inr (.inr (.inr (fun _ => none))))))] := hD
  refine W.widen (k := 1) (n := 10) (by omega) (by omega) ?_
  exact W.aret (v := .ref q7) hx hb hr (Or.inr ⟨_, rfl⟩) (Or.inr ⟨_, rfl⟩) (fun t ht hW => ⟨⟨(), q7, rfl, trivial, by rw [ht]; exact hP, va_K.moved hW.alike hK, hD⟩, hS.F ht⟩) hS.2.2 d_AL_grow0_10
def y_AL_add1 : MethodName := ⟨"java/util/ArrayList", "add", "(Ljava/lang/Object;[Ljava/lang/Object;I)V"⟩
abbrev b_AL_add1 : ByteArray := prog_32_method_24_code
def w_AL_add1 : List Cond := Cond.code y_AL_add1 b_AL_add1 4 (none) :: tb
theorem d_AL_add1_0 : decode b_AL_add1 0 = .ok (.iload_n 3, 1) := by decide +kernel
theorem d_AL_add1_1 : decode b_AL_add1 1 = .ok (.aload_n 2, 1) := by decide +kernel
theorem d_AL_add1_2 : decode b_AL_add1 2 = .ok (.arraylength, 1) := by decide +kernel
theorem d_AL_add1_3 : decode b_AL_add1 3 = .ok (.if_icmp .ne 8, 3) := by decide +kernel
theorem d_AL_add1_6 : decode b_AL_add1 6 = .ok (.aload_n 0, 1) := by decide +kernel
theorem d_AL_add1_7 : decode b_AL_add1 7 = .ok (.invokevirtual 129, 3) := by decide +kernel
theorem d_AL_add1_10 : decode b_AL_add1 10 = .ok (.astore_n 2, 1) := by decide +kernel
theorem d_AL_add1_11 : decode b_AL_add1 11 = .ok (.aload_n 2, 1) := by decide +kernel
theorem d_AL_add1_12 : decode b_AL_add1 12 = .ok (.iload_n 3, 1) := by decide +kernel
theorem d_AL_add1_13 : decode b_AL_add1 13 = .ok (.aload_n 1, 1) := by decide +kernel
theorem d_AL_add1_14 : decode b_AL_add1 14 = .ok (.aastore, 1) := by decide +kernel
theorem d_AL_add1_15 : decode b_AL_add1 15 = .ok (.aload_n 0, 1) := by decide +kernel
theorem d_AL_add1_16 : decode b_AL_add1 16 = .ok (.iload_n 3, 1) := by decide +kernel
theorem d_AL_add1_17 : decode b_AL_add1 17 = .ok (.iconst 1, 1) := by decide +kernel
theorem d_AL_add1_18 : decode b_AL_add1 18 = .ok (.iadd, 1) := by decide +kernel
theorem d_AL_add1_19 : decode b_AL_add1 19 = .ok (.putfield 48, 3) := by decide +kernel
theorem d_AL_add1_22 : decode b_AL_add1 22 = .ok (.return_, 1) := by decide +kernel
set_option maxHeartbeats 4000000 in
set_option maxRecDepth 100000 in
theorem c_add3I (l : Launch) (dC : Nat → ClassId) (dI : Nat → Nat → Nat) (sb : sB) (F : va_W) (ci : Nat) (qc : vw_C) (v : Nat) (kv : Nat) (fv : List Value) (al el z cap : Nat) (mo : Int32) (cO : ClassId) (f : Nat → Option Nat) (sz : Nat) (hqc : classes[ci]? = some qc) (hca : Cond.castable qc.1 "java/lang/Object" ∈ nwords) (hv9 : F[kv]? = some (v, .inr (ci, fv))) (hzc : z < cap) (h2 : cap < 2 ^ 24) : Met l y_AL_add1 w_AL_add1 ({ frames := 5, cells := 0, slots := 0, locals := 165 }) (mf_P F [.ref al, .ref v, .ref el, .int (nI z)] (dC, dI) sb [(al, .inr (11, [.ref el, .int (nI z), .int mo])), (el, .inl (cO, cap, .inr (.inr (.inr (.inr f)))))] [(cO, .object "java/lang/Object")] sz) (va_Qv (fun (_u : Unit) => True) (mu_B (dC, dI) [(cO, .object "java/lang/Object")] (va_A [(al, .inr (11, [.ref el, .int (nI z), .int mo])), (el, .inl (cO, cap, .inr (.inr (.inr (.inr f)))))] sz) (fun _ : Unit => [(al, .inr (11, [.ref el, .int (nI (z + 1)), .int mo])), (el, .inl (cO, cap, .inr (.inr (.inr (.inr (va_up f z (some v)))))))])) (va_A [(al, .inr (11, [.ref el, .int (nI z), .int mo])), (el, .inl (cO, cap, .inr (.inr (.inr (.inr f)))))] sz)) 0 0 (va_A [(al, .inr (11, [.ref el, .int (nI z), .int mo])), (el, .inl (cO, cap, .inr (.inr (.inr (.inr f)))))] sz) := by
  refine Met.ofW (cc := b_AL_add1) (maxL := 4) (ret := none) (by decide) rfl ?_
  intro p e s m args below meth c s₁ B hml hv
  obtain ⟨⟨rfl, hsz, hB0, hP, hK, hD0, hN, hT0⟩, hF0, hFA0⟩ := hv
  have hx := B.exec
  have hb := B.bytes
  have hr := B.returns
  have hts := atoms_spec (ws := w_AL_add1) B.pre
  have tbin : ∀ w ∈ tb, w ∈ w_AL_add1 := fun w h => List.mem_cons_of_mem _ h
  have htb : ∀ w ∈ tb, w.before _ s = true := fun w h => hts w (tbin w h)
  have hown : s.vm.findClass "java/util/ArrayList" = some m.cls := findClass_of_methodNamed B.named
  have hlocks := B.notSynchronized
  subst hsz
  have hD := hD0.self (sz := s.heap.size)
  generalize hAe : va_A [(al, .inr (11, [.ref el, .int (nI z), .int mo])), (el, .inl (cO, cap, .inr (.inr (.inr (.inr f)))))] s.heap.size = A at hD hFA0 ⊢
  have hA : ∀ q : Nat, s.heap.size ≤ q → A q := fun q h => by rw [← hAe]; exact Or.inr h
  have hAs : ∀ q : Nat, A q → sb.1 ≤ q := fun q h => by
    rw [← hAe] at h
    rcases h with ⟨k, e, h⟩ | h
    · exact hD0.2 k _ h
    · exact Nat.le_trans hB0 h
  have hS : va_S A s.heap s.heap [] := va_S.rf
  have hcs : 0 ≤ (headSpec w_AL_add1 ({ frames := 5, cells := 0, slots := 0, locals := 165 })).room.cells ∧ 0 ≤ (headSpec w_AL_add1 ({ frames := 5, cells := 0, slots := 0, locals := 165 })).room.slots := ⟨Nat.le_refl _, Nat.le_refl _⟩
  have hP : va_P (dC, dI) classes [(al, .inr (11, [.ref el, .int (nI z), .int mo])), (el, .inl (cO, cap, .inr (.inr (.inr (.inr f)))))] s.heap := hP
  have hl := lv_entry ([.ref al, .ref v, .ref el, .int (nI z)]) (n := 4) (Nat.le_of_ble_eq_true rfl)
  rw [lg_entry_eq]
  generalize (lg_sl ([.ref al, .ref v, .ref el, .int (nI z)]) ++ List.replicate (4 - (lg_sl ([.ref al, .ref v, .ref el, .int (nI z)])).length) Slot.unset).toArray = ls at hl ⊢
  have hl : lv_has ls 4 [(0, .ref al), (1, .ref v), (2, .ref el), (3, .int (nI z))] := hl
  refine lv_iload_n hx hb d_AL_add1_0 rfl (lv_at hl 3 rfl) ?_
  refine lv_aload_n hx hb d_AL_add1_1 rfl (lv_at hl 2 rfl) ?_
  refine va_alen (v := nI cap) hx hb hK hP 1 0 rfl rfl rfl d_AL_add1_2 ?_
  refine lv_icmp_ne (tgt := 11) hx hb d_AL_add1_3 (by decide) (fun c3 => ?_) (fun c3 => ?_)
  rotate_left
  · exact absurd ((nI_eq (by omega) (by omega)).mp c3) (by omega)
  refine lv_aload_n hx hb d_AL_add1_11 rfl (lv_at hl 2 rfl) ?_
  refine lv_iload_n hx hb d_AL_add1_12 rfl (lv_at hl 3 rfl) ?_
  refine lv_aload_n hx hb d_AL_add1_13 rfl (lv_at hl 1 rfl) ?_
  have h14 : vp_in (nI z) cap := vp_in_nI hzc (by omega)
  refine vb_astq hx hb hK hP hD hS 1 0 rfl rfl (va_recv hK (mf_keep hF0 hFA0 hS) hqc hv9) (vb_asgC (hN.1 _ hca)) h14 d_AL_add1_14 (fun H14 locs hP hD hS => ?_)
  have hP : va_P (dC, dI) classes [(al, .inr (11, [.ref el, .int (nI z), .int mo])), (el, .inl (cO, cap, .inr (.inr (.inr (.inr (va_up f (nI z).toNatClampNeg (some v)))))))] H14 := hP
  have hD : va_D A [(al, .inr (11, [.ref el, .int (nI z), .int mo])), (el, .inl (cO, cap, .inr (.inr (.inr (.inr (va_up f (nI z).toNatClampNeg (some v)))))))] := hD
  rw [nI_clamp (by omega)] at hP hD
  refine lv_aload_n hx hb d_AL_add1_15 rfl (lv_at hl 0 rfl) ?_
  refine lv_iload_n hx hb d_AL_add1_16 rfl (lv_at hl 3 rfl) ?_
  refine lv_iconst (v := 1) hx hb d_AL_add1_17 (by decide) ?_
  refine lv_iadd hx hb d_AL_add1_18 ?_
  rw [show ((nI z) + 1 : Int32) = nI (z + 1) from nI_1 _]
  refine va_put (v := .int (nI (z + 1))) (ty := .int) hx hb htb i_AL t_AL t_AL_ok n_AL hown hK hP hD hS 0 rfl rfl 1 (by decide) (htb _ q1_56) (fun _ h9 => h9) rfl (by decide +kernel) rfl rfl (Nat.le_of_ble_eq_true rfl) d_AL_add1_19 (fun H19 locs hP hD hS => ?_)
  have hP : va_P (dC, dI) classes [(al, .inr (11, [.ref el, .int (nI (z + 1)), .int mo])), (el, .inl (cO, cap, .inr (.inr (.inr (.inr (va_up f z (some v)))))))] H19 := hP
  have hD : va_D A [(al, .inr (11, [.ref el, .int (nI (z + 1)), .int mo])), (el, .inl (cO, cap, .inr (.inr (.inr (.inr (va_up f z (some v)))))))] := hD
  exact W.vret hx hb hr (fun t ht hW => ⟨⟨(), rfl, trivial, by rw [ht]; exact hP, va_K.moved hW.alike hK, hD⟩, hS.F ht⟩) hS.2.2 d_AL_add1_22
set_option maxHeartbeats 4000000 in
set_option maxRecDepth 100000 in
theorem c_add3A (l : Launch) (dC : Nat → ClassId) (dI : Nat → Nat → Nat) (sb : sB) (F : va_W) (ci : Nat) (qc : vw_C) (v : Nat) (kv : Nat) (fv : List Value) (al el cap : Nat) (mo : Int32) (cO : ClassId) (f : Nat → Option Nat) (sz : Nat) (hqc : classes[ci]? = some qc) (hca : Cond.castable qc.1 "java/lang/Object" ∈ nwords) (hv9 : F[kv]? = some (v, .inr (ci, fv))) (hel : elF F ci f cap) (h1 : 0 < cap) (h2 : cap < 2 ^ 24) : Met l y_AL_add1 w_AL_add1 ({ frames := 5, cells := 1, slots := (cap + max 1 (cap / 2)), locals := 165 }) (mf_P F [.ref al, .ref v, .ref el, .int (nI cap)] (dC, dI) sb [(al, .inr (11, [.ref el, .int (nI cap), .int mo])), (el, .inl (cO, cap, .inr (.inr (.inr (.inr f)))))] [(cO, .object "java/lang/Object")] sz) (va_Qv (fun (_u : Nat) => True) (mu_B (dC, dI) [(cO, .object "java/lang/Object")] (va_A [(al, .inr (11, [.ref el, .int (nI cap), .int mo])), (el, .inl (cO, cap, .inr (.inr (.inr (.inr f)))))] sz) (fun u' : Nat => [(al, .inr (11, [.ref u', .int (nI (cap + 1)), .int mo])), (u', .inl (cO, (cap + max 1 (cap / 2)), .inr (.inr (.inr (.inr (va_up (va_cpy f (fun _ => none) 0 0 cap) cap (some v)))))))])) (va_A [(al, .inr (11, [.ref el, .int (nI cap), .int mo])), (el, .inl (cO, cap, .inr (.inr (.inr (.inr f)))))] sz)) 1 (cap + max 1 (cap / 2)) (va_A [(al, .inr (11, [.ref el, .int (nI cap), .int mo])), (el, .inl (cO, cap, .inr (.inr (.inr (.inr f)))))] sz) := by
  refine Met.ofW (cc := b_AL_add1) (maxL := 4) (ret := none) (by decide) rfl ?_
  intro p e s m args below meth c s₁ B hml hv
  obtain ⟨⟨rfl, hsz, hB0, hP, hK, hD0, hN, hT0⟩, hF0, hFA0⟩ := hv
  have hx := B.exec
  have hb := B.bytes
  have hr := B.returns
  have hts := atoms_spec (ws := w_AL_add1) B.pre
  have tbin : ∀ w ∈ tb, w ∈ w_AL_add1 := fun w h => List.mem_cons_of_mem _ h
  have htb : ∀ w ∈ tb, w.before _ s = true := fun w h => hts w (tbin w h)
  have hown : s.vm.findClass "java/util/ArrayList" = some m.cls := findClass_of_methodNamed B.named
  have hlocks := B.notSynchronized
  subst hsz
  have hD := hD0.self (sz := s.heap.size)
  generalize hAe : va_A [(al, .inr (11, [.ref el, .int (nI cap), .int mo])), (el, .inl (cO, cap, .inr (.inr (.inr (.inr f)))))] s.heap.size = A at hD hFA0 ⊢
  have hA : ∀ q : Nat, s.heap.size ≤ q → A q := fun q h => by rw [← hAe]; exact Or.inr h
  have hAs : ∀ q : Nat, A q → sb.1 ≤ q := fun q h => by
    rw [← hAe] at h
    rcases h with ⟨k, e, h⟩ | h
    · exact hD0.2 k _ h
    · exact Nat.le_trans hB0 h
  have hS : va_S A s.heap s.heap [] := va_S.rf
  have hcs : 1 ≤ (headSpec w_AL_add1 ({ frames := 5, cells := 1, slots := (cap + max 1 (cap / 2)), locals := 165 })).room.cells ∧ (cap + max 1 (cap / 2)) ≤ (headSpec w_AL_add1 ({ frames := 5, cells := 1, slots := (cap + max 1 (cap / 2)), locals := 165 })).room.slots := ⟨Nat.le_refl _, Nat.le_refl _⟩
  have hP : va_P (dC, dI) classes [(al, .inr (11, [.ref el, .int (nI cap), .int mo])), (el, .inl (cO, cap, .inr (.inr (.inr (.inr f)))))] s.heap := hP
  have hl := lv_entry ([.ref al, .ref v, .ref el, .int (nI cap)]) (n := 4) (Nat.le_of_ble_eq_true rfl)
  rw [lg_entry_eq]
  generalize (lg_sl ([.ref al, .ref v, .ref el, .int (nI cap)]) ++ List.replicate (4 - (lg_sl ([.ref al, .ref v, .ref el, .int (nI cap)])).length) Slot.unset).toArray = ls at hl ⊢
  have hl : lv_has ls 4 [(0, .ref al), (1, .ref v), (2, .ref el), (3, .int (nI cap))] := hl
  refine lv_iload_n hx hb d_AL_add1_0 rfl (lv_at hl 3 rfl) ?_
  refine lv_aload_n hx hb d_AL_add1_1 rfl (lv_at hl 2 rfl) ?_
  refine va_alen (v := nI cap) hx hb hK hP 1 0 rfl rfl rfl d_AL_add1_2 ?_
  refine lv_icmp_ne (tgt := 11) hx hb d_AL_add1_3 (by decide) (fun c3 => ?_) (fun c3 => ?_)
  · exact absurd rfl c3
  refine lv_aload_n hx hb d_AL_add1_6 rfl (lv_at hl 0 rfl) ?_
  have hFc := va_free (wc := [(al, .inr (11, [.ref el, .int (nI cap), .int mo])), (el, .inl (cO, cap, .inr (.inr (.inr (.inr f)))))]) hD hS hA [0, 1] rfl
  refine va_callr (mf_runV (As := []) (rest := []) ⟨hx, hb, hml, hown, hts⟩ tbin (c_grow0A l dC dI sb F ci qc al el cap mo cO f s.heap.size hqc hca hel h1 h2) (mf_keep hF0 hFA0 hS) (fun k9 q9 h9 z9 => hFA0 k9 q9 h9 (hFc _ z9)) q4_115 q4_117 qp_10 q1_4 q4_118 (n := 0) (by decide +kernel) rfl ⟨rfl, rfl⟩ ⟨Nat.le_of_ble_eq_true rfl, Nat.le_of_ble_eq_true rfl⟩ ⟨by omega, by omega⟩ hN (hT0.keep hS hAs) hAs (Nat.le_trans hB0 hS.1) hK hP hD [0, 1] (by decide) rfl [0] rfl 0 11 rfl rfl rfl hl.1 rfl (Nat.le_of_ble_eq_true rfl) d_AL_add1_7) hS (fun q _ h => hFc q h) hFc (fun u7 q7 tS H7 locs ht hvm hw7 hB hz1 hk1 hS => ?_)
  skip
  obtain ⟨hP1, hK1, hD1⟩ := hB
  rw [ht] at hP1
  obtain ⟨hP, hD⟩ := va_join (wr := []) (w1 := [(al, .inr (11, [.ref q7, .int (nI cap), .int mo])), (q7, .inl (cO, (cap + max 1 (cap / 2)), .inr (.inr (.inr (.inr (va_cpy f (fun _ => none) 0 0 cap))))))]) hP hD [0, 1] [] rfl rfl (by decide) (by decide) hk1 hFc hP1 hD1
  have hP : va_P (dC, dI) classes [(al, .inr (11, [.ref q7, .int (nI cap), .int mo])), (q7, .inl (cO, (cap + max 1 (cap / 2)), .inr (.inr (.inr (.inr (va_cpy f (fun _ => none) 0 0 cap))))))] H7 := hP
  have hD : va_D A [(al, .inr (11, [.ref q7, .int (nI cap), .int mo])), (q7, .inl (cO, (cap + max 1 (cap / 2)), .inr (.inr (.inr (.inr (va_cpy f (fun _ => none) 0 0 cap))))))] := hD
  refine lv_astore_n (lv' := [(2, .ref q7), (0, .ref al), (1, .ref v), (3, .int (nI cap))]) hx hb d_AL_add1_10 rfl hl (by decide) rfl (fun ls hl => ?_)
  refine lv_aload_n hx hb d_AL_add1_11 rfl (lv_at hl 0 rfl) ?_
  refine lv_iload_n hx hb d_AL_add1_12 rfl (lv_at hl 3 rfl) ?_
  refine lv_aload_n hx hb d_AL_add1_13 rfl (lv_at hl 2 rfl) ?_
  have h14 : vp_in (nI cap) (cap + max 1 (cap / 2)) := vp_in_nI (by omega) (by omega)
  refine vb_astq hx hb hK hP hD hS 1 0 rfl rfl (va_recv hK (mf_keep hF0 hFA0 hS) hqc hv9) (vb_asgC (hN.1 _ hca)) h14 d_AL_add1_14 (fun H14 locs hP hD hS => ?_)
  have hP : va_P (dC, dI) classes [(al, .inr (11, [.ref q7, .int (nI cap), .int mo])), (q7, .inl (cO, (cap + max 1 (cap / 2)), .inr (.inr (.inr (.inr (va_up (va_cpy f (fun _ => none) 0 0 cap) (nI cap).toNatClampNeg (some v)))))))] H14 := hP
  have hD : va_D A [(al, .inr (11, [.ref q7, .int (nI cap), .int mo])), (q7, .inl (cO, (cap + max 1 (cap / 2)), .inr (.inr (.inr (.inr (va_up (va_cpy f (fun _ => none) 0 0 cap) (nI cap).toNatClampNeg (some v)))))))] := hD
  rw [nI_clamp (by omega)] at hP hD
  refine lv_aload_n hx hb d_AL_add1_15 rfl (lv_at hl 1 rfl) ?_
  refine lv_iload_n hx hb d_AL_add1_16 rfl (lv_at hl 3 rfl) ?_
  refine lv_iconst (v := 1) hx hb d_AL_add1_17 (by decide) ?_
  refine lv_iadd hx hb d_AL_add1_18 ?_
  rw [show ((nI cap) + 1 : Int32) = nI (cap + 1) from nI_1 _]
  refine va_put (v := .int (nI (cap + 1))) (ty := .int) hx hb htb i_AL t_AL t_AL_ok n_AL hown hK hP hD hS 0 rfl rfl 1 (by decide) (htb _ q1_56) (fun _ h9 => h9) rfl (by decide +kernel) rfl rfl (Nat.le_of_ble_eq_true rfl) d_AL_add1_19 (fun H19 locs hP hD hS => ?_)
  have hP : va_P (dC, dI) classes [(al, .inr (11, [.ref q7, .int (nI (cap + 1)), .int mo])), (q7, .inl (cO, (cap + max 1 (cap / 2)), .inr (.inr (.inr (.inr (va_up (va_cpy f (fun _ => none) 0 0 cap) cap (some v)))))))] H19 := hP
  have hD : va_D A [(al, .inr (11, [.ref q7, .int (nI (cap + 1)), .int mo])), (q7, .inl (cO, (cap + max 1 (cap / 2)), .inr (.inr (.inr (.inr (va_up (va_cpy f (fun _ => none) 0 0 cap) cap (some v)))))))] := hD
  refine W.widen (k := 1) (n := (cap + max 1 (cap / 2))) (by omega) (by omega) ?_
  exact W.vret hx hb hr (fun t ht hW => ⟨⟨q7, rfl, trivial, by rw [ht]; exact hP, va_K.moved hW.alike hK, hD⟩, hS.F ht⟩) hS.2.2 d_AL_add1_22
set_option maxHeartbeats 4000000 in
set_option maxRecDepth 100000 in
theorem c_add3B (l : Launch) (dC : Nat → ClassId) (dI : Nat → Nat → Nat) (sb : sB) (F : va_W) (ci : Nat) (qc : vw_C) (v : Nat) (kv : Nat) (fv : List Value) (al : Nat) (mo : Int32) (cO : ClassId) (sz : Nat) (hqc : classes[ci]? = some qc) (hca : Cond.castable qc.1 "java/lang/Object" ∈ nwords) (hv9 : F[kv]? = some (v, .inr (ci, fv))) : Met l y_AL_add1 w_AL_add1 ({ frames := 5, cells := 1, slots := 10, locals := 165 }) (mf_P F [.ref al, .ref v, .ref (sb.2 5), .int (nI 0)] (dC, dI) sb [(al, .inr (11, [.ref (sb.2 5), .int (nI 0), .int mo]))] [(cO, .object "java/lang/Object")] sz) (va_Qv (fun (_u : Nat) => True) (mu_B (dC, dI) [(cO, .object "java/lang/Object")] (va_A [(al, .inr (11, [.ref (sb.2 5), .int (nI 0), .int mo]))] sz) (fun u' : Nat => [(al, .inr (11, [.ref u', .int (nI (0 + 1)), .int mo])), (u', .inl (cO, 10, .inr (.inr (.inr (.inr (va_up (fun _ => none) 0 (some v)))))))])) (va_A [(al, .inr (11, [.ref (sb.2 5), .int (nI 0), .int mo]))] sz)) 1 10 (va_A [(al, .inr (11, [.ref (sb.2 5), .int (nI 0), .int mo]))] sz) := by
  refine Met.ofW (cc := b_AL_add1) (maxL := 4) (ret := none) (by decide) rfl ?_
  intro p e s m args below meth c s₁ B hml hv
  obtain ⟨⟨rfl, hsz, hB0, hP, hK, hD0, hN, hT0⟩, hF0, hFA0⟩ := hv
  have hx := B.exec
  have hb := B.bytes
  have hr := B.returns
  have hts := atoms_spec (ws := w_AL_add1) B.pre
  have tbin : ∀ w ∈ tb, w ∈ w_AL_add1 := fun w h => List.mem_cons_of_mem _ h
  have htb : ∀ w ∈ tb, w.before _ s = true := fun w h => hts w (tbin w h)
  have hown : s.vm.findClass "java/util/ArrayList" = some m.cls := findClass_of_methodNamed B.named
  have hlocks := B.notSynchronized
  subst hsz
  have hD := hD0.self (sz := s.heap.size)
  generalize hAe : va_A [(al, .inr (11, [.ref (sb.2 5), .int (nI 0), .int mo]))] s.heap.size = A at hD hFA0 ⊢
  have hA : ∀ q : Nat, s.heap.size ≤ q → A q := fun q h => by rw [← hAe]; exact Or.inr h
  have hAs : ∀ q : Nat, A q → sb.1 ≤ q := fun q h => by
    rw [← hAe] at h
    rcases h with ⟨k, e, h⟩ | h
    · exact hD0.2 k _ h
    · exact Nat.le_trans hB0 h
  have hS : va_S A s.heap s.heap [] := va_S.rf
  have hcs : 1 ≤ (headSpec w_AL_add1 ({ frames := 5, cells := 1, slots := 10, locals := 165 })).room.cells ∧ 10 ≤ (headSpec w_AL_add1 ({ frames := 5, cells := 1, slots := 10, locals := 165 })).room.slots := ⟨Nat.le_refl _, Nat.le_refl _⟩
  have hP : va_P (dC, dI) classes [(al, .inr (11, [.ref (sb.2 5), .int (nI 0), .int mo]))] s.heap := hP
  have hl := lv_entry ([.ref al, .ref v, .ref (sb.2 5), .int (nI 0)]) (n := 4) (Nat.le_of_ble_eq_true rfl)
  rw [lg_entry_eq]
  generalize (lg_sl ([.ref al, .ref v, .ref (sb.2 5), .int (nI 0)]) ++ List.replicate (4 - (lg_sl ([.ref al, .ref v, .ref (sb.2 5), .int (nI 0)])).length) Slot.unset).toArray = ls at hl ⊢
  have hl : lv_has ls 4 [(0, .ref al), (1, .ref v), (2, .ref (sb.2 5)), (3, .int (nI 0))] := hl
  refine lv_iload_n hx hb d_AL_add1_0 rfl (lv_at hl 3 rfl) ?_
  refine lv_aload_n hx hb d_AL_add1_1 rfl (lv_at hl 2 rfl) ?_
  refine va_tlen (v := 0) hx hb (hT0.2.2.2.2.2.1.2.narrow hAs) hS rfl d_AL_add1_2 ?_
  refine lv_icmp_ne (tgt := 11) hx hb d_AL_add1_3 (by decide) (fun c3 => ?_) (fun c3 => ?_)
  · exact absurd rfl c3
  refine lv_aload_n hx hb d_AL_add1_6 rfl (lv_at hl 0 rfl) ?_
  have hFc := va_free (wc := [(al, .inr (11, [.ref (sb.2 5), .int (nI 0), .int mo]))]) hD hS hA [0] rfl
  refine va_callr (mf_runV (As := []) (rest := []) ⟨hx, hb, hml, hown, hts⟩ tbin (c_grow0B l dC dI sb F ci qc al mo cO s.heap.size hqc hca) (mf_keep hF0 hFA0 hS) (fun k9 q9 h9 z9 => hFA0 k9 q9 h9 (hFc _ z9)) q4_115 q4_117 qp_10 q1_4 q4_118 (n := 0) (by decide +kernel) rfl ⟨rfl, rfl⟩ ⟨Nat.le_of_ble_eq_true rfl, Nat.le_of_ble_eq_true rfl⟩ ⟨by omega, by omega⟩ hN (hT0.keep hS hAs) hAs (Nat.le_trans hB0 hS.1) hK hP hD [0] (by decide) rfl [0] rfl 0 11 rfl rfl rfl hl.1 rfl (Nat.le_of_ble_eq_true rfl) d_AL_add1_7) hS (fun q _ h => hFc q h) hFc (fun u7 q7 tS H7 locs ht hvm hw7 hB hz1 hk1 hS => ?_)
  skip
  obtain ⟨hP1, hK1, hD1⟩ := hB
  rw [ht] at hP1
  obtain ⟨hP, hD⟩ := va_join (wr := []) (w1 := [(al, .inr (11, [.ref q7, .int (nI 0), .int mo])), (q7, .inl (cO, 10, .inr (.inr (.inr (.inr (fun _ => none))))))]) hP hD [0] [] rfl rfl (by decide) (by decide) hk1 hFc hP1 hD1
  have hP : va_P (dC, dI) classes [(al, .inr (11, [.ref q7, .int (nI 0), .int mo])), (q7, .inl (cO, 10, .inr (.inr (.inr (.inr (fun _ => none))))))] H7 := hP
  have hD : va_D A [(al, .inr (11, [.ref q7, .int (nI 0), .int mo])), (q7, .inl (cO, 10, .inr (.inr (.inr (.inr (fun _ => none))))))] := hD
  refine lv_astore_n (lv' := [(2, .ref q7), (0, .ref al), (1, .ref v), (3, .int (nI 0))]) hx hb d_AL_add1_10 rfl hl (by decide) rfl (fun ls hl => ?_)
  refine lv_aload_n hx hb d_AL_add1_11 rfl (lv_at hl 0 rfl) ?_
  refine lv_iload_n hx hb d_AL_add1_12 rfl (lv_at hl 3 rfl) ?_
  refine lv_aload_n hx hb d_AL_add1_13 rfl (lv_at hl 2 rfl) ?_
  have h14 : vp_in (nI 0) 10 := vp_in_nI (by omega) (by omega)
  refine vb_astq hx hb hK hP hD hS 1 0 rfl rfl (va_recv hK (mf_keep hF0 hFA0 hS) hqc hv9) (vb_asgC (hN.1 _ hca)) h14 d_AL_add1_14 (fun H14 locs hP hD hS => ?_)
  have hP : va_P (dC, dI) classes [(al, .inr (11, [.ref q7, .int (nI 0), .int mo])), (q7, .inl (cO, 10, .inr (.inr (.inr (.inr (va_up (fun _ => none) (nI 0).toNatClampNeg (some v)))))))] H14 := hP
  have hD : va_D A [(al, .inr (11, [.ref q7, .int (nI 0), .int mo])), (q7, .inl (cO, 10, .inr (.inr (.inr (.inr (va_up (fun _ => none) (nI 0).toNatClampNeg (some v)))))))] := hD
  rw [nI_clamp (by omega)] at hP hD
  refine lv_aload_n hx hb d_AL_add1_15 rfl (lv_at hl 1 rfl) ?_
  refine lv_iload_n hx hb d_AL_add1_16 rfl (lv_at hl 3 rfl) ?_
  refine lv_iconst (v := 1) hx hb d_AL_add1_17 (by decide) ?_
  refine lv_iadd hx hb d_AL_add1_18 ?_
  rw [show ((nI 0) + 1 : Int32) = nI (0 + 1) from nI_1 _]
  refine va_put (v := .int (nI (0 + 1))) (ty := .int) hx hb htb i_AL t_AL t_AL_ok n_AL hown hK hP hD hS 0 rfl rfl 1 (by decide) (htb _ q1_56) (fun _ h9 => h9) rfl (by decide +kernel) rfl rfl (Nat.le_of_ble_eq_true rfl) d_AL_add1_19 (fun H19 locs hP hD hS => ?_)
  have hP : va_P (dC, dI) classes [(al, .inr (11, [.ref q7, .int (nI (0 + 1)), .int mo])), (q7, .inl (cO, 10, .inr (.inr (.inr (.inr (va_up (fun _ => none) 0 (some v)))))))] H19 := hP
  have hD : va_D A [(al, .inr (11, [.ref q7, .int (nI (0 + 1)), .int mo])), (q7, .inl (cO, 10, .inr (.inr (.inr (.inr (va_up (fun _ => none) 0 (some v)))))))] := hD
  refine W.widen (k := 1) (n := 10) (by omega) (by omega) ?_
  exact W.vret hx hb hr (fun t ht hW => ⟨⟨q7, rfl, trivial, by rw [ht]; exact hP, va_K.moved hW.alike hK, hD⟩, hS.F ht⟩) hS.2.2 d_AL_add1_22
def y_AL_add0 : MethodName := ⟨"java/util/ArrayList", "add", "(Ljava/lang/Object;)Z"⟩
abbrev b_AL_add0 : ByteArray := prog_32_method_25_code
def w_AL_add0 : List Cond := Cond.code y_AL_add0 b_AL_add0 2 ((some FieldType.boolean)) :: tb
theorem d_AL_add0_0 : decode b_AL_add0 0 = .ok (.aload_n 0, 1) := by decide +kernel
theorem d_AL_add0_1 : decode b_AL_add0 1 = .ok (.dup, 1) := by decide +kernel
theorem d_AL_add0_2 : decode b_AL_add0 2 = .ok (.getfield 63, 3) := by decide +kernel
theorem d_AL_add0_5 : decode b_AL_add0 5 = .ok (.iconst 1, 1) := by decide +kernel
theorem d_AL_add0_6 : decode b_AL_add0 6 = .ok (.iadd, 1) := by decide +kernel
theorem d_AL_add0_7 : decode b_AL_add0 7 = .ok (.putfield 63, 3) := by decide +kernel
theorem d_AL_add0_10 : decode b_AL_add0 10 = .ok (.aload_n 0, 1) := by decide +kernel
theorem d_AL_add0_11 : decode b_AL_add0 11 = .ok (.aload_n 1, 1) := by decide +kernel
theorem d_AL_add0_12 : decode b_AL_add0 12 = .ok (.aload_n 0, 1) := by decide +kernel
theorem d_AL_add0_13 : decode b_AL_add0 13 = .ok (.getfield 9, 3) := by decide +kernel
theorem d_AL_add0_16 : decode b_AL_add0 16 = .ok (.aload_n 0, 1) := by decide +kernel
theorem d_AL_add0_17 : decode b_AL_add0 17 = .ok (.getfield 48, 3) := by decide +kernel
theorem d_AL_add0_20 : decode b_AL_add0 20 = .ok (.invokevirtual 131, 3) := by decide +kernel
theorem d_AL_add0_23 : decode b_AL_add0 23 = .ok (.iconst 1, 1) := by decide +kernel
theorem d_AL_add0_24 : decode b_AL_add0 24 = .ok (.ireturn, 1) := by decide +kernel
set_option maxHeartbeats 4000000 in
set_option maxRecDepth 100000 in
theorem c_addI (l : Launch) (dC : Nat → ClassId) (dI : Nat → Nat → Nat) (sb : sB) (F : va_W) (ci : Nat) (qc : vw_C) (v : Nat) (kv : Nat) (fv : List Value) (al el z cap : Nat) (mo : Int32) (cO : ClassId) (f : Nat → Option Nat) (sz : Nat) (hqc : classes[ci]? = some qc) (hca : Cond.castable qc.1 "java/lang/Object" ∈ nwords) (hv9 : F[kv]? = some (v, .inr (ci, fv))) (hzc : z < cap) (h2 : cap < 2 ^ 24) : Met l y_AL_add0 w_AL_add0 ({ frames := 6, cells := 0, slots := 0, locals := 195 }) (mf_P F [.ref al, .ref v] (dC, dI) sb [(al, .inr (11, [.ref el, .int (nI z), .int mo])), (el, .inl (cO, cap, .inr (.inr (.inr (.inr f)))))] [(cO, .object "java/lang/Object")] sz) (va_Qi (fun r (_u : Int32) => r = 1) (mu_B (dC, dI) [(cO, .object "java/lang/Object")] (va_A [(al, .inr (11, [.ref el, .int (nI z), .int mo])), (el, .inl (cO, cap, .inr (.inr (.inr (.inr f)))))] sz) (fun u' : Int32 => [(al, .inr (11, [.ref el, .int (nI (z + 1)), .int u'])), (el, .inl (cO, cap, .inr (.inr (.inr (.inr (va_up f z (some v)))))))])) (va_A [(al, .inr (11, [.ref el, .int (nI z), .int mo])), (el, .inl (cO, cap, .inr (.inr (.inr (.inr f)))))] sz)) 0 0 (va_A [(al, .inr (11, [.ref el, .int (nI z), .int mo])), (el, .inl (cO, cap, .inr (.inr (.inr (.inr f)))))] sz) := by
  refine Met.ofW (cc := b_AL_add0) (maxL := 2) (ret := (some FieldType.boolean)) (by decide) rfl ?_
  intro p e s m args below meth c s₁ B hml hv
  obtain ⟨⟨rfl, hsz, hB0, hP, hK, hD0, hN, hT0⟩, hF0, hFA0⟩ := hv
  have hx := B.exec
  have hb := B.bytes
  have hr := B.returns
  have hts := atoms_spec (ws := w_AL_add0) B.pre
  have tbin : ∀ w ∈ tb, w ∈ w_AL_add0 := fun w h => List.mem_cons_of_mem _ h
  have htb : ∀ w ∈ tb, w.before _ s = true := fun w h => hts w (tbin w h)
  have hown : s.vm.findClass "java/util/ArrayList" = some m.cls := findClass_of_methodNamed B.named
  have hlocks := B.notSynchronized
  subst hsz
  have hD := hD0.self (sz := s.heap.size)
  generalize hAe : va_A [(al, .inr (11, [.ref el, .int (nI z), .int mo])), (el, .inl (cO, cap, .inr (.inr (.inr (.inr f)))))] s.heap.size = A at hD hFA0 ⊢
  have hA : ∀ q : Nat, s.heap.size ≤ q → A q := fun q h => by rw [← hAe]; exact Or.inr h
  have hAs : ∀ q : Nat, A q → sb.1 ≤ q := fun q h => by
    rw [← hAe] at h
    rcases h with ⟨k, e, h⟩ | h
    · exact hD0.2 k _ h
    · exact Nat.le_trans hB0 h
  have hS : va_S A s.heap s.heap [] := va_S.rf
  have hcs : 0 ≤ (headSpec w_AL_add0 ({ frames := 6, cells := 0, slots := 0, locals := 195 })).room.cells ∧ 0 ≤ (headSpec w_AL_add0 ({ frames := 6, cells := 0, slots := 0, locals := 195 })).room.slots := ⟨Nat.le_refl _, Nat.le_refl _⟩
  have hP : va_P (dC, dI) classes [(al, .inr (11, [.ref el, .int (nI z), .int mo])), (el, .inl (cO, cap, .inr (.inr (.inr (.inr f)))))] s.heap := hP
  have hl := lv_entry ([.ref al, .ref v]) (n := 2) (Nat.le_of_ble_eq_true rfl)
  rw [lg_entry_eq]
  generalize (lg_sl ([.ref al, .ref v]) ++ List.replicate (2 - (lg_sl ([.ref al, .ref v])).length) Slot.unset).toArray = ls at hl ⊢
  have hl : lv_has ls 2 [(0, .ref al), (1, .ref v)] := hl
  refine lv_aload_n hx hb d_AL_add0_0 rfl (lv_at hl 0 rfl) ?_
  refine lv_dup hx hb d_AL_add0_1 rfl ?_
  refine va_get (v := .int mo) hx hb htb i_AL hown hK hP 0 rfl rfl 2 (by decide) (htb _ q1_58) (fun x9 h9 => u_same (htb _ q1_59) x9 h9) rfl d_AL_add0_2 ?_
  refine lv_iconst (v := 1) hx hb d_AL_add0_5 (by decide) ?_
  refine lv_iadd hx hb d_AL_add0_6 ?_
  refine lv_topi (fun v7 ev7 => ?_)
  refine va_put (v := .int v7) (ty := .int) hx hb htb i_AL t_AL t_AL_ok n_AL hown hK hP hD hS 0 rfl rfl 2 (by decide) (htb _ q1_58) (fun x9 h9 => u_same (htb _ q1_59) x9 h9) rfl (by decide +kernel) rfl rfl (Nat.le_of_ble_eq_true rfl) d_AL_add0_7 (fun H7 locs hP hD hS => ?_)
  have hP : va_P (dC, dI) classes [(al, .inr (11, [.ref el, .int (nI z), .int v7])), (el, .inl (cO, cap, .inr (.inr (.inr (.inr f)))))] H7 := hP
  have hD : va_D A [(al, .inr (11, [.ref el, .int (nI z), .int v7])), (el, .inl (cO, cap, .inr (.inr (.inr (.inr f)))))] := hD
  refine lv_aload_n hx hb d_AL_add0_10 rfl (lv_at hl 0 rfl) ?_
  refine lv_aload_n hx hb d_AL_add0_11 rfl (lv_at hl 1 rfl) ?_
  refine lv_aload_n hx hb d_AL_add0_12 rfl (lv_at hl 0 rfl) ?_
  refine va_get (v := .ref el) hx hb htb i_AL hown hK hP 0 rfl rfl 0 (by decide) (htb _ q1_55) (fun _ h9 => h9) rfl d_AL_add0_13 ?_
  refine lv_aload_n hx hb d_AL_add0_16 rfl (lv_at hl 0 rfl) ?_
  refine va_get (v := .int (nI z)) hx hb htb i_AL hown hK hP 0 rfl rfl 1 (by decide) (htb _ q1_56) (fun _ h9 => h9) rfl d_AL_add0_17 ?_
  have hFc := va_free (wc := [(al, .inr (11, [.ref el, .int (nI z), .int v7])), (el, .inl (cO, cap, .inr (.inr (.inr (.inr f)))))]) hD hS hA [0, 1] rfl
  refine va_callv (mf_runV (As := [.ref v, .ref el, .int (nI z)]) (rest := []) ⟨hx, hb, hml, hown, hts⟩ tbin (c_add3I l dC dI sb F ci qc v kv fv al el z cap v7 cO f H7.size hqc hca hv9 hzc h2) (mf_keep hF0 hFA0 hS) (fun k9 q9 h9 z9 => hFA0 k9 q9 h9 (hFc _ z9)) q4_111 q4_113 qp_9 q1_4 q4_114 (n := 3) (by decide +kernel) rfl ⟨rfl, rfl⟩ ⟨Nat.le_of_ble_eq_true rfl, Nat.le_of_ble_eq_true rfl⟩ ⟨by omega, by omega⟩ hN (hT0.keep hS hAs) hAs (Nat.le_trans hB0 hS.1) hK hP hD [0, 1] (by decide) rfl [0] rfl 0 11 rfl rfl rfl hl.1 rfl (Nat.le_of_ble_eq_true rfl) d_AL_add0_20) hS (fun q _ h => hFc q h) hFc (fun u20 tS H20 locs ht hvm hw20 hB hz1 hk1 hS => ?_)
  skip
  obtain ⟨hP1, hK1, hD1⟩ := hB
  rw [ht] at hP1
  obtain ⟨hP, hD⟩ := va_join (wr := []) (w1 := [(al, .inr (11, [.ref el, .int (nI (z + 1)), .int v7])), (el, .inl (cO, cap, .inr (.inr (.inr (.inr (va_up f z (some v)))))))]) hP hD [0, 1] [] rfl rfl (by decide) (by decide) hk1 hFc hP1 hD1
  have hP : va_P (dC, dI) classes [(al, .inr (11, [.ref el, .int (nI (z + 1)), .int v7])), (el, .inl (cO, cap, .inr (.inr (.inr (.inr (va_up f z (some v)))))))] H20 := hP
  have hD : va_D A [(al, .inr (11, [.ref el, .int (nI (z + 1)), .int v7])), (el, .inl (cO, cap, .inr (.inr (.inr (.inr (va_up f z (some v)))))))] := hD
  refine lv_iconst (v := 1) hx hb d_AL_add0_23 (by decide) ?_
  exact W.zret (v := 1) hx hb hr rfl (fun t ht hW => ⟨⟨_, v7, rfl, rfl, by rw [ht]; exact hP, va_K.moved hW.alike hK, hD⟩, hS.F ht⟩) hS.2.2 d_AL_add0_24
set_option maxHeartbeats 4000000 in
set_option maxRecDepth 100000 in
theorem c_addA (l : Launch) (dC : Nat → ClassId) (dI : Nat → Nat → Nat) (sb : sB) (F : va_W) (ci : Nat) (qc : vw_C) (v : Nat) (kv : Nat) (fv : List Value) (al el cap : Nat) (mo : Int32) (cO : ClassId) (f : Nat → Option Nat) (sz : Nat) (hqc : classes[ci]? = some qc) (hca : Cond.castable qc.1 "java/lang/Object" ∈ nwords) (hv9 : F[kv]? = some (v, .inr (ci, fv))) (hel : elF F ci f cap) (h1 : 0 < cap) (h2 : cap < 2 ^ 24) : Met l y_AL_add0 w_AL_add0 ({ frames := 6, cells := 1, slots := (cap + max 1 (cap / 2)), locals := 195 }) (mf_P F [.ref al, .ref v] (dC, dI) sb [(al, .inr (11, [.ref el, .int (nI cap), .int mo])), (el, .inl (cO, cap, .inr (.inr (.inr (.inr f)))))] [(cO, .object "java/lang/Object")] sz) (va_Qi (fun r (_u : Nat × Int32) => r = 1) (mu_B (dC, dI) [(cO, .object "java/lang/Object")] (va_A [(al, .inr (11, [.ref el, .int (nI cap), .int mo])), (el, .inl (cO, cap, .inr (.inr (.inr (.inr f)))))] sz) (fun u' : Nat × Int32 => [(al, .inr (11, [.ref u'.1, .int (nI (cap + 1)), .int u'.2])), (u'.1, .inl (cO, (cap + max 1 (cap / 2)), .inr (.inr (.inr (.inr (va_up (va_cpy f (fun _ => none) 0 0 cap) cap (some v)))))))])) (va_A [(al, .inr (11, [.ref el, .int (nI cap), .int mo])), (el, .inl (cO, cap, .inr (.inr (.inr (.inr f)))))] sz)) 1 (cap + max 1 (cap / 2)) (va_A [(al, .inr (11, [.ref el, .int (nI cap), .int mo])), (el, .inl (cO, cap, .inr (.inr (.inr (.inr f)))))] sz) := by
  refine Met.ofW (cc := b_AL_add0) (maxL := 2) (ret := (some FieldType.boolean)) (by decide) rfl ?_
  intro p e s m args below meth c s₁ B hml hv
  obtain ⟨⟨rfl, hsz, hB0, hP, hK, hD0, hN, hT0⟩, hF0, hFA0⟩ := hv
  have hx := B.exec
  have hb := B.bytes
  have hr := B.returns
  have hts := atoms_spec (ws := w_AL_add0) B.pre
  have tbin : ∀ w ∈ tb, w ∈ w_AL_add0 := fun w h => List.mem_cons_of_mem _ h
  have htb : ∀ w ∈ tb, w.before _ s = true := fun w h => hts w (tbin w h)
  have hown : s.vm.findClass "java/util/ArrayList" = some m.cls := findClass_of_methodNamed B.named
  have hlocks := B.notSynchronized
  subst hsz
  have hD := hD0.self (sz := s.heap.size)
  generalize hAe : va_A [(al, .inr (11, [.ref el, .int (nI cap), .int mo])), (el, .inl (cO, cap, .inr (.inr (.inr (.inr f)))))] s.heap.size = A at hD hFA0 ⊢
  have hA : ∀ q : Nat, s.heap.size ≤ q → A q := fun q h => by rw [← hAe]; exact Or.inr h
  have hAs : ∀ q : Nat, A q → sb.1 ≤ q := fun q h => by
    rw [← hAe] at h
    rcases h with ⟨k, e, h⟩ | h
    · exact hD0.2 k _ h
    · exact Nat.le_trans hB0 h
  have hS : va_S A s.heap s.heap [] := va_S.rf
  have hcs : 1 ≤ (headSpec w_AL_add0 ({ frames := 6, cells := 1, slots := (cap + max 1 (cap / 2)), locals := 195 })).room.cells ∧ (cap + max 1 (cap / 2)) ≤ (headSpec w_AL_add0 ({ frames := 6, cells := 1, slots := (cap + max 1 (cap / 2)), locals := 195 })).room.slots := ⟨Nat.le_refl _, Nat.le_refl _⟩
  have hP : va_P (dC, dI) classes [(al, .inr (11, [.ref el, .int (nI cap), .int mo])), (el, .inl (cO, cap, .inr (.inr (.inr (.inr f)))))] s.heap := hP
  have hl := lv_entry ([.ref al, .ref v]) (n := 2) (Nat.le_of_ble_eq_true rfl)
  rw [lg_entry_eq]
  generalize (lg_sl ([.ref al, .ref v]) ++ List.replicate (2 - (lg_sl ([.ref al, .ref v])).length) Slot.unset).toArray = ls at hl ⊢
  have hl : lv_has ls 2 [(0, .ref al), (1, .ref v)] := hl
  refine lv_aload_n hx hb d_AL_add0_0 rfl (lv_at hl 0 rfl) ?_
  refine lv_dup hx hb d_AL_add0_1 rfl ?_
  refine va_get (v := .int mo) hx hb htb i_AL hown hK hP 0 rfl rfl 2 (by decide) (htb _ q1_58) (fun x9 h9 => u_same (htb _ q1_59) x9 h9) rfl d_AL_add0_2 ?_
  refine lv_iconst (v := 1) hx hb d_AL_add0_5 (by decide) ?_
  refine lv_iadd hx hb d_AL_add0_6 ?_
  refine lv_topi (fun v7 ev7 => ?_)
  refine va_put (v := .int v7) (ty := .int) hx hb htb i_AL t_AL t_AL_ok n_AL hown hK hP hD hS 0 rfl rfl 2 (by decide) (htb _ q1_58) (fun x9 h9 => u_same (htb _ q1_59) x9 h9) rfl (by decide +kernel) rfl rfl (Nat.le_of_ble_eq_true rfl) d_AL_add0_7 (fun H7 locs hP hD hS => ?_)
  have hP : va_P (dC, dI) classes [(al, .inr (11, [.ref el, .int (nI cap), .int v7])), (el, .inl (cO, cap, .inr (.inr (.inr (.inr f)))))] H7 := hP
  have hD : va_D A [(al, .inr (11, [.ref el, .int (nI cap), .int v7])), (el, .inl (cO, cap, .inr (.inr (.inr (.inr f)))))] := hD
  refine lv_aload_n hx hb d_AL_add0_10 rfl (lv_at hl 0 rfl) ?_
  refine lv_aload_n hx hb d_AL_add0_11 rfl (lv_at hl 1 rfl) ?_
  refine lv_aload_n hx hb d_AL_add0_12 rfl (lv_at hl 0 rfl) ?_
  refine va_get (v := .ref el) hx hb htb i_AL hown hK hP 0 rfl rfl 0 (by decide) (htb _ q1_55) (fun _ h9 => h9) rfl d_AL_add0_13 ?_
  refine lv_aload_n hx hb d_AL_add0_16 rfl (lv_at hl 0 rfl) ?_
  refine va_get (v := .int (nI cap)) hx hb htb i_AL hown hK hP 0 rfl rfl 1 (by decide) (htb _ q1_56) (fun _ h9 => h9) rfl d_AL_add0_17 ?_
  have hFc := va_free (wc := [(al, .inr (11, [.ref el, .int (nI cap), .int v7])), (el, .inl (cO, cap, .inr (.inr (.inr (.inr f)))))]) hD hS hA [0, 1] rfl
  refine va_callv (mf_runV (As := [.ref v, .ref el, .int (nI cap)]) (rest := []) ⟨hx, hb, hml, hown, hts⟩ tbin (c_add3A l dC dI sb F ci qc v kv fv al el cap v7 cO f H7.size hqc hca hv9 hel h1 h2) (mf_keep hF0 hFA0 hS) (fun k9 q9 h9 z9 => hFA0 k9 q9 h9 (hFc _ z9)) q4_111 q4_113 qp_9 q1_4 q4_114 (n := 3) (by decide +kernel) rfl ⟨rfl, rfl⟩ ⟨Nat.le_of_ble_eq_true rfl, Nat.le_of_ble_eq_true rfl⟩ ⟨by omega, by omega⟩ hN (hT0.keep hS hAs) hAs (Nat.le_trans hB0 hS.1) hK hP hD [0, 1] (by decide) rfl [0] rfl 0 11 rfl rfl rfl hl.1 rfl (Nat.le_of_ble_eq_true rfl) d_AL_add0_20) hS (fun q _ h => hFc q h) hFc (fun u20 tS H20 locs ht hvm hw20 hB hz1 hk1 hS => ?_)
  obtain ⟨a20, rfl⟩ : ∃ z, z = u20 := ⟨_, rfl⟩
  obtain ⟨hP1, hK1, hD1⟩ := hB
  rw [ht] at hP1
  obtain ⟨hP, hD⟩ := va_join (wr := []) (w1 := [(al, .inr (11, [.ref a20, .int (nI (cap + 1)), .int v7])), (a20, .inl (cO, (cap + max 1 (cap / 2)), .inr (.inr (.inr (.inr (va_up (va_cpy f (fun _ => none) 0 0 cap) cap (some v)))))))]) hP hD [0, 1] [] rfl rfl (by decide) (by decide) hk1 hFc hP1 hD1
  have hP : va_P (dC, dI) classes [(al, .inr (11, [.ref a20, .int (nI (cap + 1)), .int v7])), (a20, .inl (cO, (cap + max 1 (cap / 2)), .inr (.inr (.inr (.inr (va_up (va_cpy f (fun _ => none) 0 0 cap) cap (some v)))))))] H20 := hP
  have hD : va_D A [(al, .inr (11, [.ref a20, .int (nI (cap + 1)), .int v7])), (a20, .inl (cO, (cap + max 1 (cap / 2)), .inr (.inr (.inr (.inr (va_up (va_cpy f (fun _ => none) 0 0 cap) cap (some v)))))))] := hD
  refine lv_iconst (v := 1) hx hb d_AL_add0_23 (by decide) ?_
  refine W.widen (k := 1) (n := (cap + max 1 (cap / 2))) (by omega) (by omega) ?_
  exact W.zret (v := 1) hx hb hr rfl (fun t ht hW => ⟨⟨_, (a20, v7), rfl, rfl, by rw [ht]; exact hP, va_K.moved hW.alike hK, hD⟩, hS.F ht⟩) hS.2.2 d_AL_add0_24
set_option maxHeartbeats 4000000 in
set_option maxRecDepth 100000 in
theorem c_addB (l : Launch) (dC : Nat → ClassId) (dI : Nat → Nat → Nat) (sb : sB) (F : va_W) (ci : Nat) (qc : vw_C) (v : Nat) (kv : Nat) (fv : List Value) (al : Nat) (mo : Int32) (cO : ClassId) (sz : Nat) (hqc : classes[ci]? = some qc) (hca : Cond.castable qc.1 "java/lang/Object" ∈ nwords) (hv9 : F[kv]? = some (v, .inr (ci, fv))) : Met l y_AL_add0 w_AL_add0 ({ frames := 6, cells := 1, slots := 10, locals := 195 }) (mf_P F [.ref al, .ref v] (dC, dI) sb [(al, .inr (11, [.ref (sb.2 5), .int (nI 0), .int mo]))] [(cO, .object "java/lang/Object")] sz) (va_Qi (fun r (_u : Nat × Int32) => r = 1) (mu_B (dC, dI) [(cO, .object "java/lang/Object")] (va_A [(al, .inr (11, [.ref (sb.2 5), .int (nI 0), .int mo]))] sz) (fun u' : Nat × Int32 => [(al, .inr (11, [.ref u'.1, .int (nI (0 + 1)), .int u'.2])), (u'.1, .inl (cO, 10, .inr (.inr (.inr (.inr (va_up (fun _ => none) 0 (some v)))))))])) (va_A [(al, .inr (11, [.ref (sb.2 5), .int (nI 0), .int mo]))] sz)) 1 10 (va_A [(al, .inr (11, [.ref (sb.2 5), .int (nI 0), .int mo]))] sz) := by
  refine Met.ofW (cc := b_AL_add0) (maxL := 2) (ret := (some FieldType.boolean)) (by decide) rfl ?_
  intro p e s m args below meth c s₁ B hml hv
  obtain ⟨⟨rfl, hsz, hB0, hP, hK, hD0, hN, hT0⟩, hF0, hFA0⟩ := hv
  have hx := B.exec
  have hb := B.bytes
  have hr := B.returns
  have hts := atoms_spec (ws := w_AL_add0) B.pre
  have tbin : ∀ w ∈ tb, w ∈ w_AL_add0 := fun w h => List.mem_cons_of_mem _ h
  have htb : ∀ w ∈ tb, w.before _ s = true := fun w h => hts w (tbin w h)
  have hown : s.vm.findClass "java/util/ArrayList" = some m.cls := findClass_of_methodNamed B.named
  have hlocks := B.notSynchronized
  subst hsz
  have hD := hD0.self (sz := s.heap.size)
  generalize hAe : va_A [(al, .inr (11, [.ref (sb.2 5), .int (nI 0), .int mo]))] s.heap.size = A at hD hFA0 ⊢
  have hA : ∀ q : Nat, s.heap.size ≤ q → A q := fun q h => by rw [← hAe]; exact Or.inr h
  have hAs : ∀ q : Nat, A q → sb.1 ≤ q := fun q h => by
    rw [← hAe] at h
    rcases h with ⟨k, e, h⟩ | h
    · exact hD0.2 k _ h
    · exact Nat.le_trans hB0 h
  have hS : va_S A s.heap s.heap [] := va_S.rf
  have hcs : 1 ≤ (headSpec w_AL_add0 ({ frames := 6, cells := 1, slots := 10, locals := 195 })).room.cells ∧ 10 ≤ (headSpec w_AL_add0 ({ frames := 6, cells := 1, slots := 10, locals := 195 })).room.slots := ⟨Nat.le_refl _, Nat.le_refl _⟩
  have hP : va_P (dC, dI) classes [(al, .inr (11, [.ref (sb.2 5), .int (nI 0), .int mo]))] s.heap := hP
  have hl := lv_entry ([.ref al, .ref v]) (n := 2) (Nat.le_of_ble_eq_true rfl)
  rw [lg_entry_eq]
  generalize (lg_sl ([.ref al, .ref v]) ++ List.replicate (2 - (lg_sl ([.ref al, .ref v])).length) Slot.unset).toArray = ls at hl ⊢
  have hl : lv_has ls 2 [(0, .ref al), (1, .ref v)] := hl
  refine lv_aload_n hx hb d_AL_add0_0 rfl (lv_at hl 0 rfl) ?_
  refine lv_dup hx hb d_AL_add0_1 rfl ?_
  refine va_get (v := .int mo) hx hb htb i_AL hown hK hP 0 rfl rfl 2 (by decide) (htb _ q1_58) (fun x9 h9 => u_same (htb _ q1_59) x9 h9) rfl d_AL_add0_2 ?_
  refine lv_iconst (v := 1) hx hb d_AL_add0_5 (by decide) ?_
  refine lv_iadd hx hb d_AL_add0_6 ?_
  refine lv_topi (fun v7 ev7 => ?_)
  refine va_put (v := .int v7) (ty := .int) hx hb htb i_AL t_AL t_AL_ok n_AL hown hK hP hD hS 0 rfl rfl 2 (by decide) (htb _ q1_58) (fun x9 h9 => u_same (htb _ q1_59) x9 h9) rfl (by decide +kernel) rfl rfl (Nat.le_of_ble_eq_true rfl) d_AL_add0_7 (fun H7 locs hP hD hS => ?_)
  have hP : va_P (dC, dI) classes [(al, .inr (11, [.ref (sb.2 5), .int (nI 0), .int v7]))] H7 := hP
  have hD : va_D A [(al, .inr (11, [.ref (sb.2 5), .int (nI 0), .int v7]))] := hD
  refine lv_aload_n hx hb d_AL_add0_10 rfl (lv_at hl 0 rfl) ?_
  refine lv_aload_n hx hb d_AL_add0_11 rfl (lv_at hl 1 rfl) ?_
  refine lv_aload_n hx hb d_AL_add0_12 rfl (lv_at hl 0 rfl) ?_
  refine va_get (v := .ref (sb.2 5)) hx hb htb i_AL hown hK hP 0 rfl rfl 0 (by decide) (htb _ q1_55) (fun _ h9 => h9) rfl d_AL_add0_13 ?_
  refine lv_aload_n hx hb d_AL_add0_16 rfl (lv_at hl 0 rfl) ?_
  refine va_get (v := .int (nI 0)) hx hb htb i_AL hown hK hP 0 rfl rfl 1 (by decide) (htb _ q1_56) (fun _ h9 => h9) rfl d_AL_add0_17 ?_
  have hFc := va_free (wc := [(al, .inr (11, [.ref (sb.2 5), .int (nI 0), .int v7]))]) hD hS hA [0] rfl
  refine va_callv (mf_runV (As := [.ref v, .ref (sb.2 5), .int (nI 0)]) (rest := []) ⟨hx, hb, hml, hown, hts⟩ tbin (c_add3B l dC dI sb F ci qc v kv fv al v7 cO H7.size hqc hca hv9) (mf_keep hF0 hFA0 hS) (fun k9 q9 h9 z9 => hFA0 k9 q9 h9 (hFc _ z9)) q4_111 q4_113 qp_9 q1_4 q4_114 (n := 3) (by decide +kernel) rfl ⟨rfl, rfl⟩ ⟨Nat.le_of_ble_eq_true rfl, Nat.le_of_ble_eq_true rfl⟩ ⟨by omega, by omega⟩ hN (hT0.keep hS hAs) hAs (Nat.le_trans hB0 hS.1) hK hP hD [0] (by decide) rfl [0] rfl 0 11 rfl rfl rfl hl.1 rfl (Nat.le_of_ble_eq_true rfl) d_AL_add0_20) hS (fun q _ h => hFc q h) hFc (fun u20 tS H20 locs ht hvm hw20 hB hz1 hk1 hS => ?_)
  obtain ⟨a20, rfl⟩ : ∃ z, z = u20 := ⟨_, rfl⟩
  obtain ⟨hP1, hK1, hD1⟩ := hB
  rw [ht] at hP1
  obtain ⟨hP, hD⟩ := va_join (wr := []) (w1 := [(al, .inr (11, [.ref a20, .int (nI (0 + 1)), .int v7])), (a20, .inl (cO, 10, .inr (.inr (.inr (.inr (va_up (fun _ => none) 0 (some v)))))))]) hP hD [0] [] rfl rfl (by decide) (by decide) hk1 hFc hP1 hD1
  have hP : va_P (dC, dI) classes [(al, .inr (11, [.ref a20, .int (nI (0 + 1)), .int v7])), (a20, .inl (cO, 10, .inr (.inr (.inr (.inr (va_up (fun _ => none) 0 (some v)))))))] H20 := hP
  have hD : va_D A [(al, .inr (11, [.ref a20, .int (nI (0 + 1)), .int v7])), (a20, .inl (cO, 10, .inr (.inr (.inr (.inr (va_up (fun _ => none) 0 (some v)))))))] := hD
  refine lv_iconst (v := 1) hx hb d_AL_add0_23 (by decide) ?_
  refine W.widen (k := 1) (n := 10) (by omega) (by omega) ?_
  exact W.zret (v := 1) hx hb hr rfl (fun t ht hW => ⟨⟨_, (a20, v7), rfl, rfl, by rw [ht]; exact hP, va_K.moved hW.alike hK, hD⟩, hS.F ht⟩) hS.2.2 d_AL_add0_24
