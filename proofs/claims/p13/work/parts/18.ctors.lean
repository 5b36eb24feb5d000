/-! Constructors. -/
theorem arr_uniq {D : va_G} {cl : List vw_C} {tys : List (ClassId × FieldType)} {s : State} (hK : va_K D cl tys s) (i j : Nat) {cA cB : ClassId} {ty : FieldType} (h1 : tys[i]? = some (cA, ty)) (h2 : tys[j]? = some (cB, ty)) (hp : ty = .int ∨ ty = .long ∨ ty = .byte) : cA = cB := by
  have a := (hK.2 i _ h1).2
  have b := (hK.2 j _ h2).2
  rcases hp with rfl | rfl | rfl <;> exact Option.some.inj (Eq.trans (Eq.symm a) b)
section MIN
variable {p : Program} {l : Launch} {e : Env} {R : Room} {s : State} {m : MethodId} {args : Array Value} {below : List Frame} {meth : Method} {c : Code} {H : Heap} {locs : List Loc} {cells slots : Nat} {Q : State → Prop}
variable {pc : Nat} {ls : Array Slot} {rest st0 : List Value} {cc bytes : ByteArray} {nL maxL index : Nat} {Ts : List Cond} {own host : String} {y : MethodName} {rm : Room} {D : va_G} {ws wsB : va_W} {tys tysB : List (ClassId × FieldType)} {As : List Value} {b n mc ms : Nat} {A : Nat → Prop} {sb : sB}
/-- a call of a private constructor of a nest mate -/
theorem mu_runIN {Qc : Array Value → State → Outcome → State → Prop} (S : CallFix p m c cc nL s args Ts own) (hin : ∀ w ∈ tb, w ∈ Ts) (hM : Met l y (Cond.code y bytes maxL none :: tb) rm (mu_P (.ref b :: As) D sb ws tys H.size) Qc mc ms (va_A ws H.size))
    (h1 : Cond.methodLinkNest own index y host ∈ nwords) (h2 : Cond.instanceMethod y ∈ tb) (h4 : Cond.initialized y.cls ∈ tb) (h5 : Cond.code y bytes maxL none ∈ tb) (hy : y.name = "<init>")
    (hd : y.cls ≠ "java/lang/invoke/MethodHandle" ∧ y.cls ≠ "java/lang/invoke/VarHandle" ∧ (parseMethodDescriptor y.desc).map (fun d => d.parameters.length) = some n) (hn : As.length = n)
    (hz : rm.cells = mc ∧ rm.slots = ms) (hR : rm.frames + 1 ≤ R.frames ∧ 8 + (maxL + 11) + rm.locals ≤ R.locals) (hf : cells + mc ≤ R.cells ∧ slots + ms ≤ R.slots)
    (hN : nwOK sb s) (hT : stOK sb s H) (hAs : ∀ q, A q → sb.1 ≤ q) (hbH : sb.1 ≤ H.size) (hK : va_K D classes tysB s) (hP : va_P D classes wsB H) (hD : va_D A wsB) (is : List Nat) (hnd : va_nd is = true) (hs : is.map (fun i => wsB[i]?) = ws.map some) (ts : List Nat) (ht : ts.filterMap (fun i => tysB[i]?) = tys)
    (hsize : ls.size = nL) (hstack : st0 = As.reverse ++ .ref b :: rest) (hW : (rest.map fun v => v.category).sum ≤ 8) (hdg : decode cc pc = .ok (.invokespecial index, 3)) :
    va_Run p l e R s m args below meth c H locs cells slots mc ms (F0 m pc ls st0) rest (Qc (Value.ref b :: As).toArray) (va_A ws H.size) := by
  subst hstack
  subst hn
  exact va_runIN (As := As) (rest := rest) S hM ⟨va_cnB As.length S.2.2.2.2 (gd_in hin (gd_cons h5)) rfl hz.1 hz.2 (hN.1 _ h1) (S.2.2.2.2 _ (hin _ h4)) hd hR, hy, S.2.2.2.2 _ (hin _ h2)⟩ ⟨mu_blind, mu_pre hN hT hAs hbH hK hP hD is hnd hs ts ht⟩ rfl rfl hsize rfl (lv_room hW) hdg ⟨hf.1, hf.2⟩
end MIN

def y_AbstractCollection_init : MethodName := ⟨"java/util/AbstractCollection", "<init>", "()V"⟩
abbrev b_AbstractCollection_init : ByteArray := prog_30_method_1_code
def w_AbstractCollection_init : List Cond := Cond.code y_AbstractCollection_init b_AbstractCollection_init 1 (none) :: tb
theorem d_AbstractCollection_init_0 : decode b_AbstractCollection_init 0 = .ok (.aload_n 0, 1) := by decide +kernel
theorem d_AbstractCollection_init_1 : decode b_AbstractCollection_init 1 = .ok (.invokespecial 1, 3) := by decide +kernel
theorem d_AbstractCollection_init_4 : decode b_AbstractCollection_init 4 = .ok (.return_, 1) := by decide +kernel
set_option maxHeartbeats 4000000 in
set_option maxRecDepth 100000 in
theorem c_AC_init (l : Launch) (dC : Nat → ClassId) (dI : Nat → Nat → Nat) (sb : sB) (q0 : Nat) (sz : Nat) : Met l y_AbstractCollection_init w_AbstractCollection_init ({ frames := 1, cells := 0, slots := 0, locals := 20 }) (mu_P [.ref q0] (dC, dI) sb [(q0, .inr (11, [.null, .int 0, .int 0]))] [] sz) (va_Qv (fun (_u : Unit) => True) (mu_B (dC, dI) [] (va_A [(q0, .inr (11, [.null, .int 0, .int 0]))] sz) (fun _ : Unit => [(q0, .inr (11, [.null, .int 0, .int 0]))])) (va_A [(q0, .inr (11, [.null, .int 0, .int 0]))] sz)) 0 0 (va_A [(q0, .inr (11, [.null, .int 0, .int 0]))] sz) := by
  refine Met.ofW (cc := b_AbstractCollection_init) (maxL := 1) (ret := none) (by decide) rfl ?_
  intro p e s m args below meth c s₁ B hml hv
  obtain ⟨rfl, hsz, hB0, hP, hK, hD0, hN, hT0⟩ := hv
  have hx := B.exec
  have hb := B.bytes
  have hr := B.returns
  have hts := atoms_spec (ws := w_AbstractCollection_init) B.pre
  have tbin : ∀ w ∈ tb, w ∈ w_AbstractCollection_init := fun w h => List.mem_cons_of_mem _ h
  have htb : ∀ w ∈ tb, w.before _ s = true := fun w h => hts w (tbin w h)
  have hown : s.vm.findClass "java/util/AbstractCollection" = some m.cls := findClass_of_methodNamed B.named
  have hlocks := B.notSynchronized
  have hin : meth.name = "<init>" := (name_of_methodNamed B.named B.method).1
  subst hsz
  have hD := hD0.self (sz := s.heap.size)
  generalize hAe : va_A [(q0, .inr (11, [.null, .int 0, .int 0]))] s.heap.size = A at hD ⊢
  have hA : ∀ q : Nat, s.heap.size ≤ q → A q := fun q h => by rw [← hAe]; exact Or.inr h
  have hAs : ∀ q : Nat, A q → sb.1 ≤ q := fun q h => by
    rw [← hAe] at h
    rcases h with ⟨k, e, h⟩ | h
    · exact hD0.2 k _ h
    · exact Nat.le_trans hB0 h
  have hS : va_S A s.heap s.heap [] := va_S.rf
  have hcs : 0 ≤ (headSpec w_AbstractCollection_init ({ frames := 1, cells := 0, slots := 0, locals := 20 })).room.cells ∧ 0 ≤ (headSpec w_AbstractCollection_init ({ frames := 1, cells := 0, slots := 0, locals := 20 })).room.slots := ⟨Nat.le_refl _, Nat.le_refl _⟩
  have hP : va_P (dC, dI) classes [(q0, .inr (11, [.null, .int 0, .int 0]))] s.heap := hP
  have hl := lv_entry ([.ref q0]) (n := 1) (Nat.le_of_ble_eq_true rfl)
  rw [lg_entry_eq]
  generalize (lg_sl ([.ref q0]) ++ List.replicate (1 - (lg_sl ([.ref q0])).length) Slot.unset).toArray = ls at hl ⊢
  have hl : lv_has ls 1 [(0, .ref q0)] := hl
  refine lv_aload_n hx hb d_AbstractCollection_init_0 rfl (lv_at hl 0 rfl) ?_
  refine W.objInit hx hb hown (htb _ q1_52) (htb _ q1_39) (htb _ q1_40) rfl (by rw [hml]; exact hl.1) rfl d_AbstractCollection_init_1 (Nat.le_of_ble_eq_true rfl) (Nat.le_of_ble_eq_true rfl) ?_
  refine W.eq (g2 := F0 m 4 ls []) rfl ?_
  exact W.vret hx hb hr (fun t ht hW => ⟨⟨(), rfl, trivial, by rw [ht]; exact hP, va_K.moved hW.alike hK, hD⟩, hS.F ht⟩) hS.2.2 d_AbstractCollection_init_4
def y_AbstractList_init : MethodName := ⟨"java/util/AbstractList", "<init>", "()V"⟩
abbrev b_AbstractList_init : ByteArray := prog_31_method_1_code
def w_AbstractList_init : List Cond := Cond.code y_AbstractList_init b_AbstractList_init 1 (none) :: tb
theorem d_AbstractList_init_0 : decode b_AbstractList_init 0 = .ok (.aload_n 0, 1) := by decide +kernel
theorem d_AbstractList_init_1 : decode b_AbstractList_init 1 = .ok (.invokespecial 1, 3) := by decide +kernel
theorem d_AbstractList_init_4 : decode b_AbstractList_init 4 = .ok (.aload_n 0, 1) := by decide +kernel
theorem d_AbstractList_init_5 : decode b_AbstractList_init 5 = .ok (.iconst 0, 1) := by decide +kernel
theorem d_AbstractList_init_6 : decode b_AbstractList_init 6 = .ok (.putfield 7, 3) := by decide +kernel
theorem d_AbstractList_init_9 : decode b_AbstractList_init 9 = .ok (.return_, 1) := by decide +kernel
set_option maxHeartbeats 4000000 in
set_option maxRecDepth 100000 in
theorem c_ABL_init (l : Launch) (dC : Nat → ClassId) (dI : Nat → Nat → Nat) (sb : sB) (q0 : Nat) (sz : Nat) : Met l y_AbstractList_init w_AbstractList_init ({ frames := 2, cells := 0, slots := 0, locals := 40 }) (mu_P [.ref q0] (dC, dI) sb [(q0, .inr (11, [.null, .int 0, .int 0]))] [] sz) (va_Qv (fun (_u : Unit) => True) (mu_B (dC, dI) [] (va_A [(q0, .inr (11, [.null, .int 0, .int 0]))] sz) (fun _ : Unit => [(q0, .inr (11, [.null, .int 0, .int 0]))])) (va_A [(q0, .inr (11, [.null, .int 0, .int 0]))] sz)) 0 0 (va_A [(q0, .inr (11, [.null, .int 0, .int 0]))] sz) := by
  refine Met.ofW (cc := b_AbstractList_init) (maxL := 1) (ret := none) (by decide) rfl ?_
  intro p e s m args below meth c s₁ B hml hv
  obtain ⟨rfl, hsz, hB0, hP, hK, hD0, hN, hT0⟩ := hv
  have hx := B.exec
  have hb := B.bytes
  have hr := B.returns
  have hts := atoms_spec (ws := w_AbstractList_init) B.pre
  have tbin : ∀ w ∈ tb, w ∈ w_AbstractList_init := fun w h => List.mem_cons_of_mem _ h
  have htb : ∀ w ∈ tb, w.before _ s = true := fun w h => hts w (tbin w h)
  have hown : s.vm.findClass "java/util/AbstractList" = some m.cls := findClass_of_methodNamed B.named
  have hlocks := B.notSynchronized
  have hin : meth.name = "<init>" := (name_of_methodNamed B.named B.method).1
  subst hsz
  have hD := hD0.self (sz := s.heap.size)
  generalize hAe : va_A [(q0, .inr (11, [.null, .int 0, .int 0]))] s.heap.size = A at hD ⊢
  have hA : ∀ q : Nat, s.heap.size ≤ q → A q := fun q h => by rw [← hAe]; exact Or.inr h
  have hAs : ∀ q : Nat, A q → sb.1 ≤ q := fun q h => by
    rw [← hAe] at h
    rcases h with ⟨k, e, h⟩ | h
    · exact hD0.2 k _ h
    · exact Nat.le_trans hB0 h
  have hS : va_S A s.heap s.heap [] := va_S.rf
  have hcs : 0 ≤ (headSpec w_AbstractList_init ({ frames := 2, cells := 0, slots := 0, locals := 40 })).room.cells ∧ 0 ≤ (headSpec w_AbstractList_init ({ frames := 2, cells := 0, slots := 0, locals := 40 })).room.slots := ⟨Nat.le_refl _, Nat.le_refl _⟩
  have hP : va_P (dC, dI) classes [(q0, .inr (11, [.null, .int 0, .int 0]))] s.heap := hP
  have hl := lv_entry ([.ref q0]) (n := 1) (Nat.le_of_ble_eq_true rfl)
  rw [lg_entry_eq]
  generalize (lg_sl ([.ref q0]) ++ List.replicate (1 - (lg_sl ([.ref q0])).length) Slot.unset).toArray = ls at hl ⊢
  have hl : lv_has ls 1 [(0, .ref q0)] := hl
  refine lv_aload_n hx hb d_AbstractList_init_0 rfl (lv_at hl 0 rfl) ?_
  have hFc := va_free (wc := [(q0, .inr (11, [.null, .int 0, .int 0]))]) hD hS hA [0] rfl
  refine va_callv (mu_runI (As := []) (rest := []) ⟨hx, hb, hml, hown, hts⟩ tbin (c_AC_init l dC dI sb q0  s.heap.size) q1_49 q1_50 q1_2 q1_51 rfl (n := 0) (by decide +kernel) rfl ⟨rfl, rfl⟩ ⟨Nat.le_of_ble_eq_true rfl, Nat.le_of_ble_eq_true rfl⟩ ⟨Nat.le_of_ble_eq_true rfl, Nat.le_of_ble_eq_true rfl⟩ hN (hT0.keep hS hAs) hAs (Nat.le_trans hB0 hS.1) hK hP hD [0] (by decide) rfl [] rfl hl.1 rfl (Nat.le_of_ble_eq_true rfl) d_AbstractList_init_1) hS (fun q _ h => hFc q h) hFc (fun u1 tS H1 locs ht hvm hw1 hB hz1 hk1 hS => ?_)
  skip
  obtain ⟨hP1, hK1, hD1⟩ := hB
  rw [ht] at hP1
  obtain ⟨hP, hD⟩ := va_join (wr := []) (w1 := [(q0, .inr (11, [.null, .int 0, .int 0]))]) hP hD [0] [] rfl rfl (by decide) (by decide) hk1 hFc hP1 hD1
  have hP : va_P (dC, dI) classes [(q0, .inr (11, [.null, .int 0, .int 0]))] H1 := hP
  have hD : va_D A [(q0, .inr (11, [.null, .int 0, .int 0]))] := hD
  refine lv_aload_n hx hb d_AbstractList_init_4 rfl (lv_at hl 0 rfl) ?_
  refine lv_iconst (v := 0) hx hb d_AbstractList_init_5 (by decide) ?_
  refine va_put (v := .int 0) (ty := .int) hx hb htb i_AL t_AL t_AL_ok n_AL hown hK hP hD hS 0 rfl rfl 2 (by decide) (htb _ q1_57) (fun _ h9 => h9) rfl (by decide +kernel) rfl rfl (Nat.le_of_ble_eq_true rfl) d_AbstractList_init_6 (fun H6 locs hP hD hS => ?_)
  have hP : va_P (dC, dI) classes [(q0, .inr (11, [.null, .int 0, .int 0]))] H6 := hP
  have hD : va_D A [(q0, .inr (11, [.null, .int 0, .int 0]))] := hD
  exact W.vret hx hb hr (fun t ht hW => ⟨⟨(), rfl, trivial, by rw [ht]; exact hP, va_K.moved hW.alike hK, hD⟩, hS.F ht⟩) hS.2.2 d_AbstractList_init_9
def y_AL_init : MethodName := ⟨"java/util/ArrayList", "<init>", "()V"⟩
abbrev b_AL_init : ByteArray := prog_32_method_2_code
def w_AL_init : List Cond := Cond.code y_AL_init b_AL_init 1 (none) :: tb
theorem d_AL_init_0 : decode b_AL_init 0 = .ok (.aload_n 0, 1) := by decide +kernel
theorem d_AL_init_1 : decode b_AL_init 1 = .ok (.invokespecial 1, 3) := by decide +kernel
theorem d_AL_init_4 : decode b_AL_init 4 = .ok (.aload_n 0, 1) := by decide +kernel
theorem d_AL_init_5 : decode b_AL_init 5 = .ok (.getstatic 39, 3) := by decide +kernel
theorem d_AL_init_8 : decode b_AL_init 8 = .ok (.putfield 9, 3) := by decide +kernel
theorem d_AL_init_11 : decode b_AL_init 11 = .ok (.return_, 1) := by decide +kernel
set_option maxHeartbeats 4000000 in
set_option maxRecDepth 100000 in
theorem c_AL_init (l : Launch) (dC : Nat → ClassId) (dI : Nat → Nat → Nat) (sb : sB) (q0 : Nat) (sz : Nat) : Met l y_AL_init w_AL_init ({ frames := 3, cells := 0, slots := 0, locals := 60 }) (mu_P [.ref q0] (dC, dI) sb [(q0, .inr (11, [.null, .int 0, .int 0]))] [] sz) (va_Qv (fun (_u : Unit) => True) (mu_B (dC, dI) [] (va_A [(q0, .inr (11, [.null, .int 0, .int 0]))] sz) (fun _ : Unit => [(q0, .inr (11, [.ref (sb.2 5), .int 0, .int 0]))])) (va_A [(q0, .inr (11, [.null, .int 0, .int 0]))] sz)) 0 0 (va_A [(q0, .inr (11, [.null, .int 0, .int 0]))] sz) := by
  refine Met.ofW (cc := b_AL_init) (maxL := 1) (ret := none) (by decide) rfl ?_
  intro p e s m args below meth c s₁ B hml hv
  obtain ⟨rfl, hsz, hB0, hP, hK, hD0, hN, hT0⟩ := hv
  have hx := B.exec
  have hb := B.bytes
  have hr := B.returns
  have hts := atoms_spec (ws := w_AL_init) B.pre
  have tbin : ∀ w ∈ tb, w ∈ w_AL_init := fun w h => List.mem_cons_of_mem _ h
  have htb : ∀ w ∈ tb, w.before _ s = true := fun w h => hts w (tbin w h)
  have hown : s.vm.findClass "java/util/ArrayList" = some m.cls := findClass_of_methodNamed B.named
  have hlocks := B.notSynchronized
  have hin : meth.name = "<init>" := (name_of_methodNamed B.named B.method).1
  subst hsz
  have hD := hD0.self (sz := s.heap.size)
  generalize hAe : va_A [(q0, .inr (11, [.null, .int 0, .int 0]))] s.heap.size = A at hD ⊢
  have hA : ∀ q : Nat, s.heap.size ≤ q → A q := fun q h => by rw [← hAe]; exact Or.inr h
  have hAs : ∀ q : Nat, A q → sb.1 ≤ q := fun q h => by
    rw [← hAe] at h
    rcases h with ⟨k, e, h⟩ | h
    · exact hD0.2 k _ h
    · exact Nat.le_trans hB0 h
  have hS : va_S A s.heap s.heap [] := va_S.rf
  have hcs : 0 ≤ (headSpec w_AL_init ({ frames := 3, cells := 0, slots := 0, locals := 60 })).room.cells ∧ 0 ≤ (headSpec w_AL_init ({ frames := 3, cells := 0, slots := 0, locals := 60 })).room.slots := ⟨Nat.le_refl _, Nat.le_refl _⟩
  have hP : va_P (dC, dI) classes [(q0, .inr (11, [.null, .int 0, .int 0]))] s.heap := hP
  have hl := lv_entry ([.ref q0]) (n := 1) (Nat.le_of_ble_eq_true rfl)
  rw [lg_entry_eq]
  generalize (lg_sl ([.ref q0]) ++ List.replicate (1 - (lg_sl ([.ref q0])).length) Slot.unset).toArray = ls at hl ⊢
  have hl : lv_has ls 1 [(0, .ref q0)] := hl
  refine lv_aload_n hx hb d_AL_init_0 rfl (lv_at hl 0 rfl) ?_
  have hFc := va_free (wc := [(q0, .inr (11, [.null, .int 0, .int 0]))]) hD hS hA [0] rfl
  refine va_callv (mu_runI (As := []) (rest := []) ⟨hx, hb, hml, hown, hts⟩ tbin (c_ABL_init l dC dI sb q0  s.heap.size) q1_46 q1_47 q1_3 q1_48 rfl (n := 0) (by decide +kernel) rfl ⟨rfl, rfl⟩ ⟨Nat.le_of_ble_eq_true rfl, Nat.le_of_ble_eq_true rfl⟩ ⟨Nat.le_of_ble_eq_true rfl, Nat.le_of_ble_eq_true rfl⟩ hN (hT0.keep hS hAs) hAs (Nat.le_trans hB0 hS.1) hK hP hD [0] (by decide) rfl [] rfl hl.1 rfl (Nat.le_of_ble_eq_true rfl) d_AL_init_1) hS (fun q _ h => hFc q h) hFc (fun u1 tS H1 locs ht hvm hw1 hB hz1 hk1 hS => ?_)
  skip
  obtain ⟨hP1, hK1, hD1⟩ := hB
  rw [ht] at hP1
  obtain ⟨hP, hD⟩ := va_join (wr := []) (w1 := [(q0, .inr (11, [.null, .int 0, .int 0]))]) hP hD [0] [] rfl rfl (by decide) (by decide) hk1 hFc hP1 hD1
  have hP : va_P (dC, dI) classes [(q0, .inr (11, [.null, .int 0, .int 0]))] H1 := hP
  have hD : va_D A [(q0, .inr (11, [.null, .int 0, .int 0]))] := hD
  refine lv_aload_n hx hb d_AL_init_4 rfl (lv_at hl 0 rfl) ?_
  refine va_gets hx hb (hT0.2.2.2.2.2.1.1.narrow hAs) hS hown (htb _ q1_53) (fun _ h9 => h9) d_AL_init_5 ?_
  refine va_put (v := .ref (sb.2 5)) (ty := (.array (.object "java/lang/Object"))) hx hb htb i_AL t_AL t_AL_ok n_AL hown hK hP hD hS 0 rfl rfl 0 (by decide) (htb _ q1_55) (fun _ h9 => h9) rfl (by decide +kernel) rfl rfl (Nat.le_of_ble_eq_true rfl) d_AL_init_8 (fun H8 locs hP hD hS => ?_)
  have hP : va_P (dC, dI) classes [(q0, .inr (11, [.ref (sb.2 5), .int 0, .int 0]))] H8 := hP
  have hD : va_D A [(q0, .inr (11, [.ref (sb.2 5), .int 0, .int 0]))] := hD
  exact W.vret hx hb hr (fun t ht hW => ⟨⟨(), rfl, trivial, by rw [ht]; exact hP, va_K.moved hW.alike hK, hD⟩, hS.F ht⟩) hS.2.2 d_AL_init_11
def y_NameSet_init : MethodName := ⟨"TrustChain$NameSet", "<init>", "()V"⟩
abbrev b_NameSet_init : ByteArray := prog_5_method_1_code
def w_NameSet_init : List Cond := Cond.code y_NameSet_init b_NameSet_init 1 (none) :: tb
theorem d_NameSet_init_0 : decode b_NameSet_init 0 = .ok (.aload_n 0, 1) := by decide +kernel
theorem d_NameSet_init_1 : decode b_NameSet_init 1 = .ok (.invokespecial 3, 3) := by decide +kernel
theorem d_NameSet_init_4 : decode b_NameSet_init 4 = .ok (.aload_n 0, 1) := by decide +kernel
theorem d_NameSet_init_5 : decode b_NameSet_init 5 = .ok (.new 9, 3) := by decide +kernel
theorem d_NameSet_init_8 : decode b_NameSet_init 8 = .ok (.dup, 1) := by decide +kernel
theorem d_NameSet_init_9 : decode b_NameSet_init 9 = .ok (.invokespecial 11, 3) := by decide +kernel
theorem d_NameSet_init_12 : decode b_NameSet_init 12 = .ok (.putfield 12, 3) := by decide +kernel
theorem d_NameSet_init_15 : decode b_NameSet_init 15 = .ok (.aload_n 0, 1) := by decide +kernel
theorem d_NameSet_init_16 : decode b_NameSet_init 16 = .ok (.new 9, 3) := by decide +kernel
theorem d_NameSet_init_19 : decode b_NameSet_init 19 = .ok (.dup, 1) := by decide +kernel
theorem d_NameSet_init_20 : decode b_NameSet_init 20 = .ok (.invokespecial 11, 3) := by decide +kernel
theorem d_NameSet_init_23 : decode b_NameSet_init 23 = .ok (.putfield 18, 3) := by decide +kernel
theorem d_NameSet_init_26 : decode b_NameSet_init 26 = .ok (.return_, 1) := by decide +kernel
set_option maxHeartbeats 4000000 in
set_option maxRecDepth 100000 in
theorem c_NS_init (l : Launch) (dC : Nat → ClassId) (dI : Nat → Nat → Nat) (sb : sB) (q0 : Nat) (sz : Nat) : Met l y_NameSet_init w_NameSet_init ({ frames := 4, cells := 2, slots := 6, locals := 80 }) (mu_P [.ref q0] (dC, dI) sb [(q0, .inr (1, [.null, .null]))] [] sz) (va_Qv (fun (_u : Nat × Nat) => True) (mu_B (dC, dI) [] (va_A [(q0, .inr (1, [.null, .null]))] sz) (fun u' : Nat × Nat => [(q0, .inr (1, [.ref u'.1, .ref u'.2])), (u'.1, .inr (11, [.ref (sb.2 5), .int 0, .int 0])), (u'.2, .inr (11, [.ref (sb.2 5), .int 0, .int 0]))])) (va_A [(q0, .inr (1, [.null, .null]))] sz)) 2 6 (va_A [(q0, .inr (1, [.null, .null]))] sz) := by
  refine Met.ofW (cc := b_NameSet_init) (maxL := 1) (ret := none) (by decide) rfl ?_
  intro p e s m args below meth c s₁ B hml hv
  obtain ⟨rfl, hsz, hB0, hP, hK, hD0, hN, hT0⟩ := hv
  have hx := B.exec
  have hb := B.bytes
  have hr := B.returns
  have hts := atoms_spec (ws := w_NameSet_init) B.pre
  have tbin : ∀ w ∈ tb, w ∈ w_NameSet_init := fun w h => List.mem_cons_of_mem _ h
  have htb : ∀ w ∈ tb, w.before _ s = true := fun w h => hts w (tbin w h)
  have hown : s.vm.findClass "TrustChain$NameSet" = some m.cls := findClass_of_methodNamed B.named
  have hlocks := B.notSynchronized
  have hin : meth.name = "<init>" := (name_of_methodNamed B.named B.method).1
  subst hsz
  have hD := hD0.self (sz := s.heap.size)
  generalize hAe : va_A [(q0, .inr (1, [.null, .null]))] s.heap.size = A at hD ⊢
  have hA : ∀ q : Nat, s.heap.size ≤ q → A q := fun q h => by rw [← hAe]; exact Or.inr h
  have hAs : ∀ q : Nat, A q → sb.1 ≤ q := fun q h => by
    rw [← hAe] at h
    rcases h with ⟨k, e, h⟩ | h
    · exact hD0.2 k _ h
    · exact Nat.le_trans hB0 h
  have hS : va_S A s.heap s.heap [] := va_S.rf
  have hcs : 2 ≤ (headSpec w_NameSet_init ({ frames := 4, cells := 2, slots := 6, locals := 80 })).room.cells ∧ 6 ≤ (headSpec w_NameSet_init ({ frames := 4, cells := 2, slots := 6, locals := 80 })).room.slots := ⟨Nat.le_refl _, Nat.le_refl _⟩
  have hP : va_P (dC, dI) classes [(q0, .inr (1, [.null, .null]))] s.heap := hP
  have hl := lv_entry ([.ref q0]) (n := 1) (Nat.le_of_ble_eq_true rfl)
  rw [lg_entry_eq]
  generalize (lg_sl ([.ref q0]) ++ List.replicate (1 - (lg_sl ([.ref q0])).length) Slot.unset).toArray = ls at hl ⊢
  have hl : lv_has ls 1 [(0, .ref q0)] := hl
  refine lv_aload_n hx hb d_NameSet_init_0 rfl (lv_at hl 0 rfl) ?_
  refine W.objInit hx hb hown (htb _ q2_123) (htb _ q1_39) (htb _ q1_40) rfl (by rw [hml]; exact hl.1) rfl d_NameSet_init_1 (Nat.le_of_ble_eq_true rfl) (Nat.le_of_ble_eq_true rfl) ?_
  refine W.eq (g2 := F0 m 4 ls []) rfl ?_
  refine lv_aload_n hx hb d_NameSet_init_4 rfl (lv_at hl 0 rfl) ?_
  refine va_new (ci := 11) (fs := [.null, .int 0, .int 0]) hx hb htb i_AL t_AL t_AL_ok hown (htb _ q2_124) (htb _ q1_42) (htb _ q1_4) hK hP hD hS hA rfl (fun j hj => by rcases (show j = 0 ∨ j = 1 ∨ j = 2 by omega) with rfl | rfl | rfl <;> rfl) (Nat.le_of_ble_eq_true rfl) (Nat.le_of_ble_eq_true rfl) d_NameSet_init_5 (fun q5 H5 hP hD hS => ?_)
  have hP : va_P (dC, dI) classes [(q0, .inr (1, [.null, .null])), (q5, .inr (11, [.null, .int 0, .int 0]))] H5 := hP
  have hD : va_D A [(q0, .inr (1, [.null, .null])), (q5, .inr (11, [.null, .int 0, .int 0]))] := hD
  refine lv_dup hx hb d_NameSet_init_8 rfl ?_
  have hFc := va_free (wc := [(q5, .inr (11, [.null, .int 0, .int 0]))]) hD hS hA [1] rfl
  refine va_callv (mu_runI (As := []) (rest := [.ref q5, .ref q0]) ⟨hx, hb, hml, hown, hts⟩ tbin (c_AL_init l dC dI sb q5  H5.size) q2_125 q1_44 q1_4 q1_45 rfl (n := 0) (by decide +kernel) rfl ⟨rfl, rfl⟩ ⟨Nat.le_of_ble_eq_true rfl, Nat.le_of_ble_eq_true rfl⟩ ⟨Nat.le_of_ble_eq_true rfl, Nat.le_of_ble_eq_true rfl⟩ hN (hT0.keep hS hAs) hAs (Nat.le_trans hB0 hS.1) hK hP hD [1] (by decide) rfl [] rfl hl.1 rfl (Nat.le_of_ble_eq_true rfl) d_NameSet_init_9) hS (fun q _ h => hFc q h) hFc (fun u9 tS H9 locs ht hvm hw9 hB hz1 hk1 hS => ?_)
  skip
  obtain ⟨hP1, hK1, hD1⟩ := hB
  rw [ht] at hP1
  obtain ⟨hP, hD⟩ := va_join (wr := [(q0, .inr (1, [.null, .null]))]) (w1 := [(q5, .inr (11, [.ref (sb.2 5), .int 0, .int 0]))]) hP hD [1] [0] rfl rfl (by decide) (by decide) hk1 hFc hP1 hD1
  have hP : va_P (dC, dI) classes [(q0, .inr (1, [.null, .null])), (q5, .inr (11, [.ref (sb.2 5), .int 0, .int 0]))] H9 := hP
  have hD : va_D A [(q0, .inr (1, [.null, .null])), (q5, .inr (11, [.ref (sb.2 5), .int 0, .int 0]))] := hD
  refine va_putF (v := .ref q5) (ty := (.object "java/util/ArrayList")) hx hb htb i_NameSet t_NameSet t_NameSet_ok n_NameSet hown hK hP hD hS 0 rfl rfl 0 (by decide) (htb _ q2_126) (fun _ h9 => h9) rfl hin rfl (by decide +kernel) rfl rfl (Nat.le_of_ble_eq_true rfl) d_NameSet_init_12 (fun H12 locs hP hD hS => ?_)
  have hP : va_P (dC, dI) classes [(q0, .inr (1, [.ref q5, .null])), (q5, .inr (11, [.ref (sb.2 5), .int 0, .int 0]))] H12 := hP
  have hD : va_D A [(q0, .inr (1, [.ref q5, .null])), (q5, .inr (11, [.ref (sb.2 5), .int 0, .int 0]))] := hD
  refine lv_aload_n hx hb d_NameSet_init_15 rfl (lv_at hl 0 rfl) ?_
  refine va_new (ci := 11) (fs := [.null, .int 0, .int 0]) hx hb htb i_AL t_AL t_AL_ok hown (htb _ q2_124) (htb _ q1_42) (htb _ q1_4) hK hP hD hS hA rfl (fun j hj => by rcases (show j = 0 ∨ j = 1 ∨ j = 2 by omega) with rfl | rfl | rfl <;> rfl) (Nat.le_of_ble_eq_true rfl) (Nat.le_of_ble_eq_true rfl) d_NameSet_init_16 (fun q16 H16 hP hD hS => ?_)
  have hP : va_P (dC, dI) classes [(q0, .inr (1, [.ref q5, .null])), (q5, .inr (11, [.ref (sb.2 5), .int 0, .int 0])), (q16, .inr (11, [.null, .int 0, .int 0]))] H16 := hP
  have hD : va_D A [(q0, .inr (1, [.ref q5, .null])), (q5, .inr (11, [.ref (sb.2 5), .int 0, .int 0])), (q16, .inr (11, [.null, .int 0, .int 0]))] := hD
  refine lv_dup hx hb d_NameSet_init_19 rfl ?_
  have hFc := va_free (wc := [(q16, .inr (11, [.null, .int 0, .int 0]))]) hD hS hA [2] rfl
  refine va_callv (mu_runI (As := []) (rest := [.ref q16, .ref q0]) ⟨hx, hb, hml, hown, hts⟩ tbin (c_AL_init l dC dI sb q16  H16.size) q2_125 q1_44 q1_4 q1_45 rfl (n := 0) (by decide +kernel) rfl ⟨rfl, rfl⟩ ⟨Nat.le_of_ble_eq_true rfl, Nat.le_of_ble_eq_true rfl⟩ ⟨Nat.le_of_ble_eq_true rfl, Nat.le_of_ble_eq_true rfl⟩ hN (hT0.keep hS hAs) hAs (Nat.le_trans hB0 hS.1) hK hP hD [2] (by decide) rfl [] rfl hl.1 rfl (Nat.le_of_ble_eq_true rfl) d_NameSet_init_20) hS (fun q _ h => hFc q h) hFc (fun u20 tS H20 locs ht hvm hw20 hB hz1 hk1 hS => ?_)
  skip
  obtain ⟨hP1, hK1, hD1⟩ := hB
  rw [ht] at hP1
  obtain ⟨hP, hD⟩ := va_join (wr := [(q0, .inr (1, [.ref q5, .null])), (q5, .inr (11, [.ref (sb.2 5), .int 0, .int 0]))]) (w1 := [(q16, .inr (11, [.ref (sb.2 5), .int 0, .int 0]))]) hP hD [2] [0, 1] rfl rfl (by decide) (by decide) hk1 hFc hP1 hD1
  have hP : va_P (dC, dI) classes [(q0, .inr (1, [.ref q5, .null])), (q5, .inr (11, [.ref (sb.2 5), .int 0, .int 0])), (q16, .inr (11, [.ref (sb.2 5), .int 0, .int 0]))] H20 := hP
  have hD : va_D A [(q0, .inr (1, [.ref q5, .null])), (q5, .inr (11, [.ref (sb.2 5), .int 0, .int 0])), (q16, .inr (11, [.ref (sb.2 5), .int 0, .int 0]))] := hD
  refine va_putF (v := .ref q16) (ty := (.object "java/util/ArrayList")) hx hb htb i_NameSet t_NameSet t_NameSet_ok n_NameSet hown hK hP hD hS 0 rfl rfl 1 (by decide) (htb _ q2_130) (fun _ h9 => h9) rfl hin rfl (by decide +kernel) rfl rfl (Nat.le_of_ble_eq_true rfl) d_NameSet_init_23 (fun H23 locs hP hD hS => ?_)
  have hP : va_P (dC, dI) classes [(q0, .inr (1, [.ref q5, .ref q16])), (q5, .inr (11, [.ref (sb.2 5), .int 0, .int 0])), (q16, .inr (11, [.ref (sb.2 5), .int 0, .int 0]))] H23 := hP
  have hD : va_D A [(q0, .inr (1, [.ref q5, .ref q16])), (q5, .inr (11, [.ref (sb.2 5), .int 0, .int 0])), (q16, .inr (11, [.ref (sb.2 5), .int 0, .int 0]))] := hD
  exact W.vret hx hb hr (fun t ht hW => ⟨⟨(q5, q16), rfl, trivial, by rw [ht]; exact hP, va_K.moved hW.alike hK, hD⟩, hS.F ht⟩) hS.2.2 d_NameSet_init_26
def y_Sha256_init : MethodName := ⟨"TrustChain$Sha256", "<init>", "()V"⟩
abbrev b_Sha256_init : ByteArray := prog_11_method_1_code
def w_Sha256_init : List Cond := Cond.code y_Sha256_init b_Sha256_init 1 (none) :: tb
theorem d_Sha256_init_0 : decode b_Sha256_init 0 = .ok (.aload_n 0, 1) := by decide +kernel
theorem d_Sha256_init_1 : decode b_Sha256_init 1 = .ok (.invokespecial 3, 3) := by decide +kernel
theorem d_Sha256_init_4 : decode b_Sha256_init 4 = .ok (.aload_n 0, 1) := by decide +kernel
theorem d_Sha256_init_5 : decode b_Sha256_init 5 = .ok (.bipush 64, 2) := by decide +kernel
theorem d_Sha256_init_7 : decode b_Sha256_init 7 = .ok (.newarray .int, 2) := by decide +kernel
theorem d_Sha256_init_9 : decode b_Sha256_init 9 = .ok (.putfield 11, 3) := by decide +kernel
theorem d_Sha256_init_12 : decode b_Sha256_init 12 = .ok (.return_, 1) := by decide +kernel
set_option maxHeartbeats 4000000 in
set_option maxRecDepth 100000 in
theorem c_Sha_init (l : Launch) (dC : Nat → ClassId) (dI : Nat → Nat → Nat) (sb : sB) (q0 : Nat) (cI : ClassId) (sz : Nat) : Met l y_Sha256_init w_Sha256_init ({ frames := 1, cells := 1, slots := 64, locals := 20 }) (mu_P [.ref q0] (dC, dI) sb [(q0, .inr (6, [.null]))] [(cI, .int)] sz) (va_Qv (fun (_u : Nat) => True) (mu_B (dC, dI) [(cI, .int)] (va_A [(q0, .inr (6, [.null]))] sz) (fun u' : Nat => [(q0, .inr (6, [.ref u'])), (u', .inl (cI, 64, .inl (fun _ => 0)))])) (va_A [(q0, .inr (6, [.null]))] sz)) 1 64 (va_A [(q0, .inr (6, [.null]))] sz) := by
  refine Met.ofW (cc := b_Sha256_init) (maxL := 1) (ret := none) (by decide) rfl ?_
  intro p e s m args below meth c s₁ B hml hv
  obtain ⟨rfl, hsz, hB0, hP, hK, hD0, hN, hT0⟩ := hv
  have hx := B.exec
  have hb := B.bytes
  have hr := B.returns
  have hts := atoms_spec (ws := w_Sha256_init) B.pre
  have tbin : ∀ w ∈ tb, w ∈ w_Sha256_init := fun w h => List.mem_cons_of_mem _ h
  have htb : ∀ w ∈ tb, w.before _ s = true := fun w h => hts w (tbin w h)
  have hown : s.vm.findClass "TrustChain$Sha256" = some m.cls := findClass_of_methodNamed B.named
  have hlocks := B.notSynchronized
  have hin : meth.name = "<init>" := (name_of_methodNamed B.named B.method).1
  subst hsz
  have hD := hD0.self (sz := s.heap.size)
  generalize hAe : va_A [(q0, .inr (6, [.null]))] s.heap.size = A at hD ⊢
  have hA : ∀ q : Nat, s.heap.size ≤ q → A q := fun q h => by rw [← hAe]; exact Or.inr h
  have hAs : ∀ q : Nat, A q → sb.1 ≤ q := fun q h => by
    rw [← hAe] at h
    rcases h with ⟨k, e, h⟩ | h
    · exact hD0.2 k _ h
    · exact Nat.le_trans hB0 h
  have hS : va_S A s.heap s.heap [] := va_S.rf
  have hcs : 1 ≤ (headSpec w_Sha256_init ({ frames := 1, cells := 1, slots := 64, locals := 20 })).room.cells ∧ 64 ≤ (headSpec w_Sha256_init ({ frames := 1, cells := 1, slots := 64, locals := 20 })).room.slots := ⟨Nat.le_refl _, Nat.le_refl _⟩
  have hP : va_P (dC, dI) classes [(q0, .inr (6, [.null]))] s.heap := hP
  have hl := lv_entry ([.ref q0]) (n := 1) (Nat.le_of_ble_eq_true rfl)
  rw [lg_entry_eq]
  generalize (lg_sl ([.ref q0]) ++ List.replicate (1 - (lg_sl ([.ref q0])).length) Slot.unset).toArray = ls at hl ⊢
  have hl : lv_has ls 1 [(0, .ref q0)] := hl
  refine lv_aload_n hx hb d_Sha256_init_0 rfl (lv_at hl 0 rfl) ?_
  refine W.objInit hx hb hown (htb _ q1_73) (htb _ q1_39) (htb _ q1_40) rfl (by rw [hml]; exact hl.1) rfl d_Sha256_init_1 (Nat.le_of_ble_eq_true rfl) (Nat.le_of_ble_eq_true rfl) ?_
  refine W.eq (g2 := F0 m 4 ls []) rfl ?_
  refine lv_aload_n hx hb d_Sha256_init_4 rfl (lv_at hl 0 rfl) ?_
  refine lv_bipush (v := 64) hx hb d_Sha256_init_5 (by decide) ?_
  refine va_newa (atype := .int) (ty := .int) (a0 := (64, .inl (fun _ => 0))) hx hb (htb _ q1_78) rfl hK hP hD hS hA (fun _ => rfl) (by decide) (by decide) (by decide) (Nat.le_of_ble_eq_true rfl) (Nat.le_of_ble_eq_true rfl) d_Sha256_init_7 (fun q7 cA7 H7 hKn hP hD hS => ?_)
  obtain rfl : cI = cA7 := arr_uniq hKn 0 1 rfl rfl (by simp)
  have hP : va_P (dC, dI) classes [(q0, .inr (6, [.null])), (q7, .inl (cI, 64, .inl (fun _ => 0)))] H7 := hP
  have hD : va_D A [(q0, .inr (6, [.null])), (q7, .inl (cI, 64, .inl (fun _ => 0)))] := hD
  refine va_putF (v := .ref q7) (ty := (.array .int)) hx hb htb i_Sha256 t_Sha256 t_Sha256_ok n_Sha256 hown hK hP hD hS 0 rfl rfl 0 (by decide) (htb _ q1_74) (fun _ h9 => h9) rfl hin rfl (by decide +kernel) rfl rfl (Nat.le_of_ble_eq_true rfl) d_Sha256_init_9 (fun H9 locs hP hD hS => ?_)
  have hP : va_P (dC, dI) classes [(q0, .inr (6, [.ref q7])), (q7, .inl (cI, 64, .inl (fun _ => 0)))] H9 := hP
  have hD : va_D A [(q0, .inr (6, [.ref q7])), (q7, .inl (cI, 64, .inl (fun _ => 0)))] := hD
  exact W.vret hx hb hr (fun t ht hW => ⟨⟨(q7), rfl, trivial, by rw [ht]; exact hP, va_K.moved hW.alike hK, hD⟩, hS.F ht⟩) hS.2.2 d_Sha256_init_12
def y_Rsa_init : MethodName := ⟨"TrustChain$Rsa", "<init>", "()V"⟩
abbrev b_Rsa_init : ByteArray := prog_9_method_1_code
def w_Rsa_init : List Cond := Cond.code y_Rsa_init b_Rsa_init 1 (none) :: tb
theorem d_Rsa_init_0 : decode b_Rsa_init 0 = .ok (.aload_n 0, 1) := by decide +kernel
theorem d_Rsa_init_1 : decode b_Rsa_init 1 = .ok (.invokespecial 3, 3) := by decide +kernel
theorem d_Rsa_init_4 : decode b_Rsa_init 4 = .ok (.aload_n 0, 1) := by decide +kernel
theorem d_Rsa_init_5 : decode b_Rsa_init 5 = .ok (.bipush 64, 2) := by decide +kernel
theorem d_Rsa_init_7 : decode b_Rsa_init 7 = .ok (.newarray .long, 2) := by decide +kernel
theorem d_Rsa_init_9 : decode b_Rsa_init 9 = .ok (.putfield 11, 3) := by decide +kernel
theorem d_Rsa_init_12 : decode b_Rsa_init 12 = .ok (.aload_n 0, 1) := by decide +kernel
theorem d_Rsa_init_13 : decode b_Rsa_init 13 = .ok (.bipush 64, 2) := by decide +kernel
theorem d_Rsa_init_15 : decode b_Rsa_init 15 = .ok (.newarray .long, 2) := by decide +kernel
theorem d_Rsa_init_17 : decode b_Rsa_init 17 = .ok (.putfield 15, 3) := by decide +kernel
theorem d_Rsa_init_20 : decode b_Rsa_init 20 = .ok (.aload_n 0, 1) := by decide +kernel
theorem d_Rsa_init_21 : decode b_Rsa_init 21 = .ok (.bipush 64, 2) := by decide +kernel
theorem d_Rsa_init_23 : decode b_Rsa_init 23 = .ok (.newarray .long, 2) := by decide +kernel
theorem d_Rsa_init_25 : decode b_Rsa_init 25 = .ok (.putfield 18, 3) := by decide +kernel
theorem d_Rsa_init_28 : decode b_Rsa_init 28 = .ok (.aload_n 0, 1) := by decide +kernel
theorem d_Rsa_init_29 : decode b_Rsa_init 29 = .ok (.bipush 64, 2) := by decide +kernel
theorem d_Rsa_init_31 : decode b_Rsa_init 31 = .ok (.newarray .long, 2) := by decide +kernel
theorem d_Rsa_init_33 : decode b_Rsa_init 33 = .ok (.putfield 21, 3) := by decide +kernel
theorem d_Rsa_init_36 : decode b_Rsa_init 36 = .ok (.aload_n 0, 1) := by decide +kernel
theorem d_Rsa_init_37 : decode b_Rsa_init 37 = .ok (.bipush 64, 2) := by decide +kernel
theorem d_Rsa_init_39 : decode b_Rsa_init 39 = .ok (.newarray .long, 2) := by decide +kernel
theorem d_Rsa_init_41 : decode b_Rsa_init 41 = .ok (.putfield 24, 3) := by decide +kernel
theorem d_Rsa_init_44 : decode b_Rsa_init 44 = .ok (.aload_n 0, 1) := by decide +kernel
theorem d_Rsa_init_45 : decode b_Rsa_init 45 = .ok (.bipush 66, 2) := by decide +kernel
theorem d_Rsa_init_47 : decode b_Rsa_init 47 = .ok (.newarray .long, 2) := by decide +kernel
theorem d_Rsa_init_49 : decode b_Rsa_init 49 = .ok (.putfield 27, 3) := by decide +kernel
theorem d_Rsa_init_52 : decode b_Rsa_init 52 = .ok (.aload_n 0, 1) := by decide +kernel
theorem d_Rsa_init_53 : decode b_Rsa_init 53 = .ok (.iconst 0, 1) := by decide +kernel
theorem d_Rsa_init_54 : decode b_Rsa_init 54 = .ok (.putfield 30, 3) := by decide +kernel
theorem d_Rsa_init_57 : decode b_Rsa_init 57 = .ok (.aload_n 0, 1) := by decide +kernel
theorem d_Rsa_init_58 : decode b_Rsa_init 58 = .ok (.lconst 0, 1) := by decide +kernel
theorem d_Rsa_init_59 : decode b_Rsa_init 59 = .ok (.putfield 34, 3) := by decide +kernel
theorem d_Rsa_init_62 : decode b_Rsa_init 62 = .ok (.aload_n 0, 1) := by decide +kernel
theorem d_Rsa_init_63 : decode b_Rsa_init 63 = .ok (.getfield 24, 3) := by decide +kernel
theorem d_Rsa_init_66 : decode b_Rsa_init 66 = .ok (.iconst 0, 1) := by decide +kernel
theorem d_Rsa_init_67 : decode b_Rsa_init 67 = .ok (.lconst 1, 1) := by decide +kernel
theorem d_Rsa_init_68 : decode b_Rsa_init 68 = .ok (.lastore, 1) := by decide +kernel
theorem d_Rsa_init_69 : decode b_Rsa_init 69 = .ok (.return_, 1) := by decide +kernel
set_option maxHeartbeats 4000000 in
set_option maxRecDepth 100000 in
theorem c_Rsa_init (l : Launch) (dC : Nat → ClassId) (dI : Nat → Nat → Nat) (sb : sB) (q0 : Nat) (cJ : ClassId) (sz : Nat) : Met l y_Rsa_init w_Rsa_init ({ frames := 1, cells := 6, slots := 386, locals := 20 }) (mu_P [.ref q0] (dC, dI) sb [(q0, .inr (7, [.null, .null, .null, .null, .null, .null, .int 0, .long 0]))] [(cJ, .long)] sz) (va_Qv (fun (_u : Nat × Nat × Nat × Nat × Nat × Nat) => True) (mu_B (dC, dI) [(cJ, .long)] (va_A [(q0, .inr (7, [.null, .null, .null, .null, .null, .null, .int 0, .long 0]))] sz) (fun u' : Nat × Nat × Nat × Nat × Nat × Nat => [(q0, .inr (7, [.ref u'.1, .ref u'.2.1, .ref u'.2.2.1, .ref u'.2.2.2.1, .ref u'.2.2.2.2.1, .ref u'.2.2.2.2.2, .int 0, .long 0])), (u'.1, .inl (cJ, 64, .inr (.inl (fun _ => 0)))), (u'.2.1, .inl (cJ, 64, .inr (.inl (fun _ => 0)))), (u'.2.2.1, .inl (cJ, 64, .inr (.inl (fun _ => 0)))), (u'.2.2.2.1, .inl (cJ, 64, .inr (.inl (fun _ => 0)))), (u'.2.2.2.2.1, .inl (cJ, 64, .inr (.inl (vp_updL (fun _ => 0) (0 : Int32).toNatClampNeg 1)))), (u'.2.2.2.2.2, .inl (cJ, 66, .inr (.inl (fun _ => 0))))])) (va_A [(q0, .inr (7, [.null, .null, .null, .null, .null, .null, .int 0, .long 0]))] sz)) 6 386 (va_A [(q0, .inr (7, [.null, .null, .null, .null, .null, .null, .int 0, .long 0]))] sz) := by
  refine Met.ofW (cc := b_Rsa_init) (maxL := 1) (ret := none) (by decide) rfl ?_
  intro p e s m args below meth c s₁ B hml hv
  obtain ⟨rfl, hsz, hB0, hP, hK, hD0, hN, hT0⟩ := hv
  have hx := B.exec
  have hb := B.bytes
  have hr := B.returns
  have hts := atoms_spec (ws := w_Rsa_init) B.pre
  have tbin : ∀ w ∈ tb, w ∈ w_Rsa_init := fun w h => List.mem_cons_of_mem _ h
  have htb : ∀ w ∈ tb, w.before _ s = true := fun w h => hts w (tbin w h)
  have hown : s.vm.findClass "TrustChain$Rsa" = some m.cls := findClass_of_methodNamed B.named
  have hlocks := B.notSynchronized
  have hin : meth.name = "<init>" := (name_of_methodNamed B.named B.method).1
  subst hsz
  have hD := hD0.self (sz := s.heap.size)
  generalize hAe : va_A [(q0, .inr (7, [.null, .null, .null, .null, .null, .null, .int 0, .long 0]))] s.heap.size = A at hD ⊢
  have hA : ∀ q : Nat, s.heap.size ≤ q → A q := fun q h => by rw [← hAe]; exact Or.inr h
  have hAs : ∀ q : Nat, A q → sb.1 ≤ q := fun q h => by
    rw [← hAe] at h
    rcases h with ⟨k, e, h⟩ | h
    · exact hD0.2 k _ h
    · exact Nat.le_trans hB0 h
  have hS : va_S A s.heap s.heap [] := va_S.rf
  have hcs : 6 ≤ (headSpec w_Rsa_init ({ frames := 1, cells := 6, slots := 386, locals := 20 })).room.cells ∧ 386 ≤ (headSpec w_Rsa_init ({ frames := 1, cells := 6, slots := 386, locals := 20 })).room.slots := ⟨Nat.le_refl _, Nat.le_refl _⟩
  have hP : va_P (dC, dI) classes [(q0, .inr (7, [.null, .null, .null, .null, .null, .null, .int 0, .long 0]))] s.heap := hP
  have hl := lv_entry ([.ref q0]) (n := 1) (Nat.le_of_ble_eq_true rfl)
  rw [lg_entry_eq]
  generalize (lg_sl ([.ref q0]) ++ List.replicate (1 - (lg_sl ([.ref q0])).length) Slot.unset).toArray = ls at hl ⊢
  have hl : lv_has ls 1 [(0, .ref q0)] := hl
  refine lv_aload_n hx hb d_Rsa_init_0 rfl (lv_at hl 0 rfl) ?_
  refine W.objInit hx hb hown (htb _ q1_84) (htb _ q1_39) (htb _ q1_40) rfl (by rw [hml]; exact hl.1) rfl d_Rsa_init_1 (Nat.le_of_ble_eq_true rfl) (Nat.le_of_ble_eq_true rfl) ?_
  refine W.eq (g2 := F0 m 4 ls []) rfl ?_
  refine lv_aload_n hx hb d_Rsa_init_4 rfl (lv_at hl 0 rfl) ?_
  refine lv_bipush (v := 64) hx hb d_Rsa_init_5 (by decide) ?_
  refine va_newa (atype := .long) (ty := .long) (a0 := (64, .inr (.inl (fun _ => 0)))) hx hb (htb _ q1_110) rfl hK hP hD hS hA (fun _ => rfl) (by decide) (by decide) (by decide) (Nat.le_of_ble_eq_true rfl) (Nat.le_of_ble_eq_true rfl) d_Rsa_init_7 (fun q7 cA7 H7 hKn hP hD hS => ?_)
  obtain rfl : cJ = cA7 := arr_uniq hKn 0 1 rfl rfl (by simp)
  have hP : va_P (dC, dI) classes [(q0, .inr (7, [.null, .null, .null, .null, .null, .null, .int 0, .long 0])), (q7, .inl (cJ, 64, .inr (.inl (fun _ => 0))))] H7 := hP
  have hD : va_D A [(q0, .inr (7, [.null, .null, .null, .null, .null, .null, .int 0, .long 0])), (q7, .inl (cJ, 64, .inr (.inl (fun _ => 0))))] := hD
  refine va_putF (v := .ref q7) (ty := (.array .long)) hx hb htb i_Rsa t_Rsa t_Rsa_ok n_Rsa hown hK hP hD hS 0 rfl rfl 0 (by decide) (htb _ q1_85) (fun _ h9 => h9) rfl hin rfl (by decide +kernel) rfl rfl (Nat.le_of_ble_eq_true rfl) d_Rsa_init_9 (fun H9 locs hP hD hS => ?_)
  have hP : va_P (dC, dI) classes [(q0, .inr (7, [.ref q7, .null, .null, .null, .null, .null, .int 0, .long 0])), (q7, .inl (cJ, 64, .inr (.inl (fun _ => 0))))] H9 := hP
  have hD : va_D A [(q0, .inr (7, [.ref q7, .null, .null, .null, .null, .null, .int 0, .long 0])), (q7, .inl (cJ, 64, .inr (.inl (fun _ => 0))))] := hD
  refine lv_aload_n hx hb d_Rsa_init_12 rfl (lv_at hl 0 rfl) ?_
  refine lv_bipush (v := 64) hx hb d_Rsa_init_13 (by decide) ?_
  refine va_newa (atype := .long) (ty := .long) (a0 := (64, .inr (.inl (fun _ => 0)))) hx hb (htb _ q1_110) rfl hK hP hD hS hA (fun _ => rfl) (by decide) (by decide) (by decide) (Nat.le_of_ble_eq_true rfl) (Nat.le_of_ble_eq_true rfl) d_Rsa_init_15 (fun q15 cA15 H15 hKn hP hD hS => ?_)
  obtain rfl : cJ = cA15 := arr_uniq hKn 0 1 rfl rfl (by simp)
  have hP : va_P (dC, dI) classes [(q0, .inr (7, [.ref q7, .null, .null, .null, .null, .null, .int 0, .long 0])), (q7, .inl (cJ, 64, .inr (.inl (fun _ => 0)))), (q15, .inl (cJ, 64, .inr (.inl (fun _ => 0))))] H15 := hP
  have hD : va_D A [(q0, .inr (7, [.ref q7, .null, .null, .null, .null, .null, .int 0, .long 0])), (q7, .inl (cJ, 64, .inr (.inl (fun _ => 0)))), (q15, .inl (cJ, 64, .inr (.inl (fun _ => 0))))] := hD
  refine va_putF (v := .ref q15) (ty := (.array .long)) hx hb htb i_Rsa t_Rsa t_Rsa_ok n_Rsa hown hK hP hD hS 0 rfl rfl 1 (by decide) (htb _ q1_86) (fun _ h9 => h9) rfl hin rfl (by decide +kernel) rfl rfl (Nat.le_of_ble_eq_true rfl) d_Rsa_init_17 (fun H17 locs hP hD hS => ?_)
  have hP : va_P (dC, dI) classes [(q0, .inr (7, [.ref q7, .ref q15, .null, .null, .null, .null, .int 0, .long 0])), (q7, .inl (cJ, 64, .inr (.inl (fun _ => 0)))), (q15, .inl (cJ, 64, .inr (.inl (fun _ => 0))))] H17 := hP
  have hD : va_D A [(q0, .inr (7, [.ref q7, .ref q15, .null, .null, .null, .null, .int 0, .long 0])), (q7, .inl (cJ, 64, .inr (.inl (fun _ => 0)))), (q15, .inl (cJ, 64, .inr (.inl (fun _ => 0))))] := hD
  refine lv_aload_n hx hb d_Rsa_init_20 rfl (lv_at hl 0 rfl) ?_
  refine lv_bipush (v := 64) hx hb d_Rsa_init_21 (by decide) ?_
  refine va_newa (atype := .long) (ty := .long) (a0 := (64, .inr (.inl (fun _ => 0)))) hx hb (htb _ q1_110) rfl hK hP hD hS hA (fun _ => rfl) (by decide) (by decide) (by decide) (Nat.le_of_ble_eq_true rfl) (Nat.le_of_ble_eq_true rfl) d_Rsa_init_23 (fun q23 cA23 H23 hKn hP hD hS => ?_)
  obtain rfl : cJ = cA23 := arr_uniq hKn 0 1 rfl rfl (by simp)
  have hP : va_P (dC, dI) classes [(q0, .inr (7, [.ref q7, .ref q15, .null, .null, .null, .null, .int 0, .long 0])), (q7, .inl (cJ, 64, .inr (.inl (fun _ => 0)))), (q15, .inl (cJ, 64, .inr (.inl (fun _ => 0)))), (q23, .inl (cJ, 64, .inr (.inl (fun _ => 0))))] H23 := hP
  have hD : va_D A [(q0, .inr (7, [.ref q7, .ref q15, .null, .null, .null, .null, .int 0, .long 0])), (q7, .inl (cJ, 64, .inr (.inl (fun _ => 0)))), (q15, .inl (cJ, 64, .inr (.inl (fun _ => 0)))), (q23, .inl (cJ, 64, .inr (.inl (fun _ => 0))))] := hD
  refine va_putF (v := .ref q23) (ty := (.array .long)) hx hb htb i_Rsa t_Rsa t_Rsa_ok n_Rsa hown hK hP hD hS 0 rfl rfl 2 (by decide) (htb _ q1_87) (fun _ h9 => h9) rfl hin rfl (by decide +kernel) rfl rfl (Nat.le_of_ble_eq_true rfl) d_Rsa_init_25 (fun H25 locs hP hD hS => ?_)
  have hP : va_P (dC, dI) classes [(q0, .inr (7, [.ref q7, .ref q15, .ref q23, .null, .null, .null, .int 0, .long 0])), (q7, .inl (cJ, 64, .inr (.inl (fun _ => 0)))), (q15, .inl (cJ, 64, .inr (.inl (fun _ => 0)))), (q23, .inl (cJ, 64, .inr (.inl (fun _ => 0))))] H25 := hP
  have hD : va_D A [(q0, .inr (7, [.ref q7, .ref q15, .ref q23, .null, .null, .null, .int 0, .long 0])), (q7, .inl (cJ, 64, .inr (.inl (fun _ => 0)))), (q15, .inl (cJ, 64, .inr (.inl (fun _ => 0)))), (q23, .inl (cJ, 64, .inr (.inl (fun _ => 0))))] := hD
  refine lv_aload_n hx hb d_Rsa_init_28 rfl (lv_at hl 0 rfl) ?_
  refine lv_bipush (v := 64) hx hb d_Rsa_init_29 (by decide) ?_
  refine va_newa (atype := .long) (ty := .long) (a0 := (64, .inr (.inl (fun _ => 0)))) hx hb (htb _ q1_110) rfl hK hP hD hS hA (fun _ => rfl) (by decide) (by decide) (by decide) (Nat.le_of_ble_eq_true rfl) (Nat.le_of_ble_eq_true rfl) d_Rsa_init_31 (fun q31 cA31 H31 hKn hP hD hS => ?_)
  obtain rfl : cJ = cA31 := arr_uniq hKn 0 1 rfl rfl (by simp)
  have hP : va_P (dC, dI) classes [(q0, .inr (7, [.ref q7, .ref q15, .ref q23, .null, .null, .null, .int 0, .long 0])), (q7, .inl (cJ, 64, .inr (.inl (fun _ => 0)))), (q15, .inl (cJ, 64, .inr (.inl (fun _ => 0)))), (q23, .inl (cJ, 64, .inr (.inl (fun _ => 0)))), (q31, .inl (cJ, 64, .inr (.inl (fun _ => 0))))] H31 := hP
  have hD : va_D A [(q0, .inr (7, [.ref q7, .ref q15, .ref q23, .null, .null, .null, .int 0, .long 0])), (q7, .inl (cJ, 64, .inr (.inl (fun _ => 0)))), (q15, .inl (cJ, 64, .inr (.inl (fun _ => 0)))), (q23, .inl (cJ, 64, .inr (.inl (fun _ => 0)))), (q31, .inl (cJ, 64, .inr (.inl (fun _ => 0))))] := hD
  refine va_putF (v := .ref q31) (ty := (.array .long)) hx hb htb i_Rsa t_Rsa t_Rsa_ok n_Rsa hown hK hP hD hS 0 rfl rfl 3 (by decide) (htb _ q1_88) (fun _ h9 => h9) rfl hin rfl (by decide +kernel) rfl rfl (Nat.le_of_ble_eq_true rfl) d_Rsa_init_33 (fun H33 locs hP hD hS => ?_)
  have hP : va_P (dC, dI) classes [(q0, .inr (7, [.ref q7, .ref q15, .ref q23, .ref q31, .null, .null, .int 0, .long 0])), (q7, .inl (cJ, 64, .inr (.inl (fun _ => 0)))), (q15, .inl (cJ, 64, .inr (.inl (fun _ => 0)))), (q23, .inl (cJ, 64, .inr (.inl (fun _ => 0)))), (q31, .inl (cJ, 64, .inr (.inl (fun _ => 0))))] H33 := hP
  have hD : va_D A [(q0, .inr (7, [.ref q7, .ref q15, .ref q23, .ref q31, .null, .null, .int 0, .long 0])), (q7, .inl (cJ, 64, .inr (.inl (fun _ => 0)))), (q15, .inl (cJ, 64, .inr (.inl (fun _ => 0)))), (q23, .inl (cJ, 64, .inr (.inl (fun _ => 0)))), (q31, .inl (cJ, 64, .inr (.inl (fun _ => 0))))] := hD
  refine lv_aload_n hx hb d_Rsa_init_36 rfl (lv_at hl 0 rfl) ?_
  refine lv_bipush (v := 64) hx hb d_Rsa_init_37 (by decide) ?_
  refine va_newa (atype := .long) (ty := .long) (a0 := (64, .inr (.inl (fun _ => 0)))) hx hb (htb _ q1_110) rfl hK hP hD hS hA (fun _ => rfl) (by decide) (by decide) (by decide) (Nat.le_of_ble_eq_true rfl) (Nat.le_of_ble_eq_true rfl) d_Rsa_init_39 (fun q39 cA39 H39 hKn hP hD hS => ?_)
  obtain rfl : cJ = cA39 := arr_uniq hKn 0 1 rfl rfl (by simp)
  have hP : va_P (dC, dI) classes [(q0, .inr (7, [.ref q7, .ref q15, .ref q23, .ref q31, .null, .null, .int 0, .long 0])), (q7, .inl (cJ, 64, .inr (.inl (fun _ => 0)))), (q15, .inl (cJ, 64, .inr (.inl (fun _ => 0)))), (q23, .inl (cJ, 64, .inr (.inl (fun _ => 0)))), (q31, .inl (cJ, 64, .inr (.inl (fun _ => 0)))), (q39, .inl (cJ, 64, .inr (.inl (fun _ => 0))))] H39 := hP
  have hD : va_D A [(q0, .inr (7, [.ref q7, .ref q15, .ref q23, .ref q31, .null, .null, .int 0, .long 0])), (q7, .inl (cJ, 64, .inr (.inl (fun _ => 0)))), (q15, .inl (cJ, 64, .inr (.inl (fun _ => 0)))), (q23, .inl (cJ, 64, .inr (.inl (fun _ => 0)))), (q31, .inl (cJ, 64, .inr (.inl (fun _ => 0)))), (q39, .inl (cJ, 64, .inr (.inl (fun _ => 0))))] := hD
  refine va_putF (v := .ref q39) (ty := (.array .long)) hx hb htb i_Rsa t_Rsa t_Rsa_ok n_Rsa hown hK hP hD hS 0 rfl rfl 4 (by decide) (htb _ q1_89) (fun _ h9 => h9) rfl hin rfl (by decide +kernel) rfl rfl (Nat.le_of_ble_eq_true rfl) d_Rsa_init_41 (fun H41 locs hP hD hS => ?_)
  have hP : va_P (dC, dI) classes [(q0, .inr (7, [.ref q7, .ref q15, .ref q23, .ref q31, .ref q39, .null, .int 0, .long 0])), (q7, .inl (cJ, 64, .inr (.inl (fun _ => 0)))), (q15, .inl (cJ, 64, .inr (.inl (fun _ => 0)))), (q23, .inl (cJ, 64, .inr (.inl (fun _ => 0)))), (q31, .inl (cJ, 64, .inr (.inl (fun _ => 0)))), (q39, .inl (cJ, 64, .inr (.inl (fun _ => 0))))] H41 := hP
  have hD : va_D A [(q0, .inr (7, [.ref q7, .ref q15, .ref q23, .ref q31, .ref q39, .null, .int 0, .long 0])), (q7, .inl (cJ, 64, .inr (.inl (fun _ => 0)))), (q15, .inl (cJ, 64, .inr (.inl (fun _ => 0)))), (q23, .inl (cJ, 64, .inr (.inl (fun _ => 0)))), (q31, .inl (cJ, 64, .inr (.inl (fun _ => 0)))), (q39, .inl (cJ, 64, .inr (.inl (fun _ => 0))))] := hD
  refine lv_aload_n hx hb d_Rsa_init_44 rfl (lv_at hl 0 rfl) ?_
  refine lv_bipush (v := 66) hx hb d_Rsa_init_45 (by decide) ?_
  refine va_newa (atype := .long) (ty := .long) (a0 := (66, .inr (.inl (fun _ => 0)))) hx hb (htb _ q1_110) rfl hK hP hD hS hA (fun _ => rfl) (by decide) (by decide) (by decide) (Nat.le_of_ble_eq_true rfl) (Nat.le_of_ble_eq_true rfl) d_Rsa_init_47 (fun q47 cA47 H47 hKn hP hD hS => ?_)
  obtain rfl : cJ = cA47 := arr_uniq hKn 0 1 rfl rfl (by simp)
  have hP : va_P (dC, dI) classes [(q0, .inr (7, [.ref q7, .ref q15, .ref q23, .ref q31, .ref q39, .null, .int 0, .long 0])), (q7, .inl (cJ, 64, .inr (.inl (fun _ => 0)))), (q15, .inl (cJ, 64, .inr (.inl (fun _ => 0)))), (q23, .inl (cJ, 64, .inr (.inl (fun _ => 0)))), (q31, .inl (cJ, 64, .inr (.inl (fun _ => 0)))), (q39, .inl (cJ, 64, .inr (.inl (fun _ => 0)))), (q47, .inl (cJ, 66, .inr (.inl (fun _ => 0))))] H47 := hP
  have hD : va_D A [(q0, .inr (7, [.ref q7, .ref q15, .ref q23, .ref q31, .ref q39, .null, .int 0, .long 0])), (q7, .inl (cJ, 64, .inr (.inl (fun _ => 0)))), (q15, .inl (cJ, 64, .inr (.inl (fun _ => 0)))), (q23, .inl (cJ, 64, .inr (.inl (fun _ => 0)))), (q31, .inl (cJ, 64, .inr (.inl (fun _ => 0)))), (q39, .inl (cJ, 64, .inr (.inl (fun _ => 0)))), (q47, .inl (cJ, 66, .inr (.inl (fun _ => 0))))] := hD
  refine va_putF (v := .ref q47) (ty := (.array .long)) hx hb htb i_Rsa t_Rsa t_Rsa_ok n_Rsa hown hK hP hD hS 0 rfl rfl 5 (by decide) (htb _ q1_90) (fun _ h9 => h9) rfl hin rfl (by decide +kernel) rfl rfl (Nat.le_of_ble_eq_true rfl) d_Rsa_init_49 (fun H49 locs hP hD hS => ?_)
  have hP : va_P (dC, dI) classes [(q0, .inr (7, [.ref q7, .ref q15, .ref q23, .ref q31, .ref q39, .ref q47, .int 0, .long 0])), (q7, .inl (cJ, 64, .inr (.inl (fun _ => 0)))), (q15, .inl (cJ, 64, .inr (.inl (fun _ => 0)))), (q23, .inl (cJ, 64, .inr (.inl (fun _ => 0)))), (q31, .inl (cJ, 64, .inr (.inl (fun _ => 0)))), (q39, .inl (cJ, 64, .inr (.inl (fun _ => 0)))), (q47, .inl (cJ, 66, .inr (.inl (fun _ => 0))))] H49 := hP
  have hD : va_D A [(q0, .inr (7, [.ref q7, .ref q15, .ref q23, .ref q31, .ref q39, .ref q47, .int 0, .long 0])), (q7, .inl (cJ, 64, .inr (.inl (fun _ => 0)))), (q15, .inl (cJ, 64, .inr (.inl (fun _ => 0)))), (q23, .inl (cJ, 64, .inr (.inl (fun _ => 0)))), (q31, .inl (cJ, 64, .inr (.inl (fun _ => 0)))), (q39, .inl (cJ, 64, .inr (.inl (fun _ => 0)))), (q47, .inl (cJ, 66, .inr (.inl (fun _ => 0))))] := hD
  refine lv_aload_n hx hb d_Rsa_init_52 rfl (lv_at hl 0 rfl) ?_
  refine lv_iconst (v := 0) hx hb d_Rsa_init_53 (by decide) ?_
  refine va_put (v := .int 0) (ty := .int) hx hb htb i_Rsa t_Rsa t_Rsa_ok n_Rsa hown hK hP hD hS 0 rfl rfl 6 (by decide) (htb _ q1_91) (fun _ h9 => h9) rfl (by decide +kernel) rfl rfl (Nat.le_of_ble_eq_true rfl) d_Rsa_init_54 (fun H54 locs hP hD hS => ?_)
  have hP : va_P (dC, dI) classes [(q0, .inr (7, [.ref q7, .ref q15, .ref q23, .ref q31, .ref q39, .ref q47, .int 0, .long 0])), (q7, .inl (cJ, 64, .inr (.inl (fun _ => 0)))), (q15, .inl (cJ, 64, .inr (.inl (fun _ => 0)))), (q23, .inl (cJ, 64, .inr (.inl (fun _ => 0)))), (q31, .inl (cJ, 64, .inr (.inl (fun _ => 0)))), (q39, .inl (cJ, 64, .inr (.inl (fun _ => 0)))), (q47, .inl (cJ, 66, .inr (.inl (fun _ => 0))))] H54 := hP
  have hD : va_D A [(q0, .inr (7, [.ref q7, .ref q15, .ref q23, .ref q31, .ref q39, .ref q47, .int 0, .long 0])), (q7, .inl (cJ, 64, .inr (.inl (fun _ => 0)))), (q15, .inl (cJ, 64, .inr (.inl (fun _ => 0)))), (q23, .inl (cJ, 64, .inr (.inl (fun _ => 0)))), (q31, .inl (cJ, 64, .inr (.inl (fun _ => 0)))), (q39, .inl (cJ, 64, .inr (.inl (fun _ => 0)))), (q47, .inl (cJ, 66, .inr (.inl (fun _ => 0))))] := hD
  refine lv_aload_n hx hb d_Rsa_init_57 rfl (lv_at hl 0 rfl) ?_
  refine lv_lconst (v := 0) hx hb d_Rsa_init_58 (by decide) ?_
  refine va_put (v := .long 0) (ty := .long) hx hb htb i_Rsa t_Rsa t_Rsa_ok n_Rsa hown hK hP hD hS 0 rfl rfl 7 (by decide) (htb _ q1_92) (fun _ h9 => h9) rfl (by decide +kernel) rfl rfl (Nat.le_of_ble_eq_true rfl) d_Rsa_init_59 (fun H59 locs hP hD hS => ?_)
  have hP : va_P (dC, dI) classes [(q0, .inr (7, [.ref q7, .ref q15, .ref q23, .ref q31, .ref q39, .ref q47, .int 0, .long 0])), (q7, .inl (cJ, 64, .inr (.inl (fun _ => 0)))), (q15, .inl (cJ, 64, .inr (.inl (fun _ => 0)))), (q23, .inl (cJ, 64, .inr (.inl (fun _ => 0)))), (q31, .inl (cJ, 64, .inr (.inl (fun _ => 0)))), (q39, .inl (cJ, 64, .inr (.inl (fun _ => 0)))), (q47, .inl (cJ, 66, .inr (.inl (fun _ => 0))))] H59 := hP
  have hD : va_D A [(q0, .inr (7, [.ref q7, .ref q15, .ref q23, .ref q31, .ref q39, .ref q47, .int 0, .long 0])), (q7, .inl (cJ, 64, .inr (.inl (fun _ => 0)))), (q15, .inl (cJ, 64, .inr (.inl (fun _ => 0)))), (q23, .inl (cJ, 64, .inr (.inl (fun _ => 0)))), (q31, .inl (cJ, 64, .inr (.inl (fun _ => 0)))), (q39, .inl (cJ, 64, .inr (.inl (fun _ => 0)))), (q47, .inl (cJ, 66, .inr (.inl (fun _ => 0))))] := hD
  refine lv_aload_n hx hb d_Rsa_init_62 rfl (lv_at hl 0 rfl) ?_
  refine va_get (v := .ref q39) hx hb htb i_Rsa hown hK hP 0 rfl rfl 4 (by decide) (htb _ q1_89) (fun _ h9 => h9) rfl d_Rsa_init_63 ?_
  refine lv_iconst (v := 0) hx hb d_Rsa_init_66 (by decide) ?_
  refine lv_lconst (v := 1) hx hb d_Rsa_init_67 (by decide) ?_
  have h68 : vp_in 0 64 := by unfold vp_in; decide
  refine va_last hx hb hK hP hD hS 5 0 rfl rfl h68 d_Rsa_init_68 (fun H68 locs hP hD hS => ?_)
  have hP : va_P (dC, dI) classes [(q0, .inr (7, [.ref q7, .ref q15, .ref q23, .ref q31, .ref q39, .ref q47, .int 0, .long 0])), (q7, .inl (cJ, 64, .inr (.inl (fun _ => 0)))), (q15, .inl (cJ, 64, .inr (.inl (fun _ => 0)))), (q23, .inl (cJ, 64, .inr (.inl (fun _ => 0)))), (q31, .inl (cJ, 64, .inr (.inl (fun _ => 0)))), (q39, .inl (cJ, 64, .inr (.inl (vp_updL (fun _ => 0) (0 : Int32).toNatClampNeg 1)))), (q47, .inl (cJ, 66, .inr (.inl (fun _ => 0))))] H68 := hP
  have hD : va_D A [(q0, .inr (7, [.ref q7, .ref q15, .ref q23, .ref q31, .ref q39, .ref q47, .int 0, .long 0])), (q7, .inl (cJ, 64, .inr (.inl (fun _ => 0)))), (q15, .inl (cJ, 64, .inr (.inl (fun _ => 0)))), (q23, .inl (cJ, 64, .inr (.inl (fun _ => 0)))), (q31, .inl (cJ, 64, .inr (.inl (fun _ => 0)))), (q39, .inl (cJ, 64, .inr (.inl (vp_updL (fun _ => 0) (0 : Int32).toNatClampNeg 1)))), (q47, .inl (cJ, 66, .inr (.inl (fun _ => 0))))] := hD
  exact W.vret hx hb hr (fun t ht hW => ⟨⟨(q7, q15, q23, q31, q39, q47), rfl, trivial, by rw [ht]; exact hP, va_K.moved hW.alike hK, hD⟩, hS.F ht⟩) hS.2.2 d_Rsa_init_69
def y_Search_init : MethodName := ⟨"TrustChain$Search", "<init>", "()V"⟩
abbrev b_Search_init : ByteArray := prog_10_method_1_code
def w_Search_init : List Cond := Cond.code y_Search_init b_Search_init 1 (none) :: tb
theorem d_Search_init_0 : decode b_Search_init 0 = .ok (.aload_n 0, 1) := by decide +kernel
theorem d_Search_init_1 : decode b_Search_init 1 = .ok (.invokespecial 3, 3) := by decide +kernel
theorem d_Search_init_4 : decode b_Search_init 4 = .ok (.aload_n 0, 1) := by decide +kernel
theorem d_Search_init_5 : decode b_Search_init 5 = .ok (.new 9, 3) := by decide +kernel
theorem d_Search_init_8 : decode b_Search_init 8 = .ok (.dup, 1) := by decide +kernel
theorem d_Search_init_9 : decode b_Search_init 9 = .ok (.invokespecial 11, 3) := by decide +kernel
theorem d_Search_init_12 : decode b_Search_init 12 = .ok (.putfield 12, 3) := by decide +kernel
theorem d_Search_init_15 : decode b_Search_init 15 = .ok (.aload_n 0, 1) := by decide +kernel
theorem d_Search_init_16 : decode b_Search_init 16 = .ok (.bipush 16, 2) := by decide +kernel
theorem d_Search_init_18 : decode b_Search_init 18 = .ok (.newarray .int, 2) := by decide +kernel
theorem d_Search_init_20 : decode b_Search_init 20 = .ok (.putfield 18, 3) := by decide +kernel
theorem d_Search_init_23 : decode b_Search_init 23 = .ok (.aload_n 0, 1) := by decide +kernel
theorem d_Search_init_24 : decode b_Search_init 24 = .ok (.iconst 0, 1) := by decide +kernel
theorem d_Search_init_25 : decode b_Search_init 25 = .ok (.putfield 22, 3) := by decide +kernel
theorem d_Search_init_28 : decode b_Search_init 28 = .ok (.aload_n 0, 1) := by decide +kernel
theorem d_Search_init_29 : decode b_Search_init 29 = .ok (.iconst 0, 1) := by decide +kernel
theorem d_Search_init_30 : decode b_Search_init 30 = .ok (.putfield 26, 3) := by decide +kernel
theorem d_Search_init_33 : decode b_Search_init 33 = .ok (.aload_n 0, 1) := by decide +kernel
theorem d_Search_init_34 : decode b_Search_init 34 = .ok (.iconst 0, 1) := by decide +kernel
theorem d_Search_init_35 : decode b_Search_init 35 = .ok (.putfield 29, 3) := by decide +kernel
theorem d_Search_init_38 : decode b_Search_init 38 = .ok (.return_, 1) := by decide +kernel
set_option maxHeartbeats 4000000 in
set_option maxRecDepth 100000 in
theorem c_Search_init (l : Launch) (dC : Nat → ClassId) (dI : Nat → Nat → Nat) (sb : sB) (q0 : Nat) (cI : ClassId) (sz : Nat) : Met l y_Search_init w_Search_init ({ frames := 4, cells := 2, slots := 19, locals := 80 }) (mu_P [.ref q0] (dC, dI) sb [(q0, .inr (8, [.null, .null, .int 0, .int 0, .int 0]))] [(cI, .int)] sz) (va_Qv (fun (_u : Nat × Nat) => True) (mu_B (dC, dI) [(cI, .int)] (va_A [(q0, .inr (8, [.null, .null, .int 0, .int 0, .int 0]))] sz) (fun u' : Nat × Nat => [(q0, .inr (8, [.ref u'.1, .ref u'.2, .int 0, .int 0, .int 0])), (u'.1, .inr (11, [.ref (sb.2 5), .int 0, .int 0])), (u'.2, .inl (cI, 16, .inl (fun _ => 0)))])) (va_A [(q0, .inr (8, [.null, .null, .int 0, .int 0, .int 0]))] sz)) 2 19 (va_A [(q0, .inr (8, [.null, .null, .int 0, .int 0, .int 0]))] sz) := by
  refine Met.ofW (cc := b_Search_init) (maxL := 1) (ret := none) (by decide) rfl ?_
  intro p e s m args below meth c s₁ B hml hv
  obtain ⟨rfl, hsz, hB0, hP, hK, hD0, hN, hT0⟩ := hv
  have hx := B.exec
  have hb := B.bytes
  have hr := B.returns
  have hts := atoms_spec (ws := w_Search_init) B.pre
  have tbin : ∀ w ∈ tb, w ∈ w_Search_init := fun w h => List.mem_cons_of_mem _ h
  have htb : ∀ w ∈ tb, w.before _ s = true := fun w h => hts w (tbin w h)
  have hown : s.vm.findClass "TrustChain$Search" = some m.cls := findClass_of_methodNamed B.named
  have hlocks := B.notSynchronized
  have hin : meth.name = "<init>" := (name_of_methodNamed B.named B.method).1
  subst hsz
  have hD := hD0.self (sz := s.heap.size)
  generalize hAe : va_A [(q0, .inr (8, [.null, .null, .int 0, .int 0, .int 0]))] s.heap.size = A at hD ⊢
  have hA : ∀ q : Nat, s.heap.size ≤ q → A q := fun q h => by rw [← hAe]; exact Or.inr h
  have hAs : ∀ q : Nat, A q → sb.1 ≤ q := fun q h => by
    rw [← hAe] at h
    rcases h with ⟨k, e, h⟩ | h
    · exact hD0.2 k _ h
    · exact Nat.le_trans hB0 h
  have hS : va_S A s.heap s.heap [] := va_S.rf
  have hcs : 2 ≤ (headSpec w_Search_init ({ frames := 4, cells := 2, slots := 19, locals := 80 })).room.cells ∧ 19 ≤ (headSpec w_Search_init ({ frames := 4, cells := 2, slots := 19, locals := 80 })).room.slots := ⟨Nat.le_refl _, Nat.le_refl _⟩
  have hP : va_P (dC, dI) classes [(q0, .inr (8, [.null, .null, .int 0, .int 0, .int 0]))] s.heap := hP
  have hl := lv_entry ([.ref q0]) (n := 1) (Nat.le_of_ble_eq_true rfl)
  rw [lg_entry_eq]
  generalize (lg_sl ([.ref q0]) ++ List.replicate (1 - (lg_sl ([.ref q0])).length) Slot.unset).toArray = ls at hl ⊢
  have hl : lv_has ls 1 [(0, .ref q0)] := hl
  refine lv_aload_n hx hb d_Search_init_0 rfl (lv_at hl 0 rfl) ?_
  refine W.objInit hx hb hown (htb _ q1_116) (htb _ q1_39) (htb _ q1_40) rfl (by rw [hml]; exact hl.1) rfl d_Search_init_1 (Nat.le_of_ble_eq_true rfl) (Nat.le_of_ble_eq_true rfl) ?_
  refine W.eq (g2 := F0 m 4 ls []) rfl ?_
  refine lv_aload_n hx hb d_Search_init_4 rfl (lv_at hl 0 rfl) ?_
  refine va_new (ci := 11) (fs := [.null, .int 0, .int 0]) hx hb htb i_AL t_AL t_AL_ok hown (htb _ q1_117) (htb _ q1_42) (htb _ q1_4) hK hP hD hS hA rfl (fun j hj => by rcases (show j = 0 ∨ j = 1 ∨ j = 2 by omega) with rfl | rfl | rfl <;> rfl) (Nat.le_of_ble_eq_true rfl) (Nat.le_of_ble_eq_true rfl) d_Search_init_5 (fun q5 H5 hP hD hS => ?_)
  have hP : va_P (dC, dI) classes [(q0, .inr (8, [.null, .null, .int 0, .int 0, .int 0])), (q5, .inr (11, [.null, .int 0, .int 0]))] H5 := hP
  have hD : va_D A [(q0, .inr (8, [.null, .null, .int 0, .int 0, .int 0])), (q5, .inr (11, [.null, .int 0, .int 0]))] := hD
  refine lv_dup hx hb d_Search_init_8 rfl ?_
  have hFc := va_free (wc := [(q5, .inr (11, [.null, .int 0, .int 0]))]) hD hS hA [1] rfl
  refine va_callv (mu_runI (As := []) (rest := [.ref q5, .ref q0]) ⟨hx, hb, hml, hown, hts⟩ tbin (c_AL_init l dC dI sb q5  H5.size) q1_118 q1_44 q1_4 q1_45 rfl (n := 0) (by decide +kernel) rfl ⟨rfl, rfl⟩ ⟨Nat.le_of_ble_eq_true rfl, Nat.le_of_ble_eq_true rfl⟩ ⟨Nat.le_of_ble_eq_true rfl, Nat.le_of_ble_eq_true rfl⟩ hN (hT0.keep hS hAs) hAs (Nat.le_trans hB0 hS.1) hK hP hD [1] (by decide) rfl [] rfl hl.1 rfl (Nat.le_of_ble_eq_true rfl) d_Search_init_9) hS (fun q _ h => hFc q h) hFc (fun u9 tS H9 locs ht hvm hw9 hB hz1 hk1 hS => ?_)
  skip
  obtain ⟨hP1, hK1, hD1⟩ := hB
  rw [ht] at hP1
  obtain ⟨hP, hD⟩ := va_join (wr := [(q0, .inr (8, [.null, .null, .int 0, .int 0, .int 0]))]) (w1 := [(q5, .inr (11, [.ref (sb.2 5), .int 0, .int 0]))]) hP hD [1] [0] rfl rfl (by decide) (by decide) hk1 hFc hP1 hD1
  have hP : va_P (dC, dI) classes [(q0, .inr (8, [.null, .null, .int 0, .int 0, .int 0])), (q5, .inr (11, [.ref (sb.2 5), .int 0, .int 0]))] H9 := hP
  have hD : va_D A [(q0, .inr (8, [.null, .null, .int 0, .int 0, .int 0])), (q5, .inr (11, [.ref (sb.2 5), .int 0, .int 0]))] := hD
  refine va_putF (v := .ref q5) (ty := (.object "java/util/ArrayList")) hx hb htb i_Search t_Search t_Search_ok n_Search hown hK hP hD hS 0 rfl rfl 0 (by decide) (htb _ q1_119) (fun _ h9 => h9) rfl hin rfl (by decide +kernel) rfl rfl (Nat.le_of_ble_eq_true rfl) d_Search_init_12 (fun H12 locs hP hD hS => ?_)
  have hP : va_P (dC, dI) classes [(q0, .inr (8, [.ref q5, .null, .int 0, .int 0, .int 0])), (q5, .inr (11, [.ref (sb.2 5), .int 0, .int 0]))] H12 := hP
  have hD : va_D A [(q0, .inr (8, [.ref q5, .null, .int 0, .int 0, .int 0])), (q5, .inr (11, [.ref (sb.2 5), .int 0, .int 0]))] := hD
  refine lv_aload_n hx hb d_Search_init_15 rfl (lv_at hl 0 rfl) ?_
  refine lv_bipush (v := 16) hx hb d_Search_init_16 (by decide) ?_
  refine va_newa (atype := .int) (ty := .int) (a0 := (16, .inl (fun _ => 0))) hx hb (htb _ q1_78) rfl hK hP hD hS hA (fun _ => rfl) (by decide) (by decide) (by decide) (Nat.le_of_ble_eq_true rfl) (Nat.le_of_ble_eq_true rfl) d_Search_init_18 (fun q18 cA18 H18 hKn hP hD hS => ?_)
  obtain rfl : cI = cA18 := arr_uniq hKn 0 1 rfl rfl (by simp)
  have hP : va_P (dC, dI) classes [(q0, .inr (8, [.ref q5, .null, .int 0, .int 0, .int 0])), (q5, .inr (11, [.ref (sb.2 5), .int 0, .int 0])), (q18, .inl (cI, 16, .inl (fun _ => 0)))] H18 := hP
  have hD : va_D A [(q0, .inr (8, [.ref q5, .null, .int 0, .int 0, .int 0])), (q5, .inr (11, [.ref (sb.2 5), .int 0, .int 0])), (q18, .inl (cI, 16, .inl (fun _ => 0)))] := hD
  refine va_putF (v := .ref q18) (ty := (.array .int)) hx hb htb i_Search t_Search t_Search_ok n_Search hown hK hP hD hS 0 rfl rfl 1 (by decide) (htb _ q1_121) (fun _ h9 => h9) rfl hin rfl (by decide +kernel) rfl rfl (Nat.le_of_ble_eq_true rfl) d_Search_init_20 (fun H20 locs hP hD hS => ?_)
  have hP : va_P (dC, dI) classes [(q0, .inr (8, [.ref q5, .ref q18, .int 0, .int 0, .int 0])), (q5, .inr (11, [.ref (sb.2 5), .int 0, .int 0])), (q18, .inl (cI, 16, .inl (fun _ => 0)))] H20 := hP
  have hD : va_D A [(q0, .inr (8, [.ref q5, .ref q18, .int 0, .int 0, .int 0])), (q5, .inr (11, [.ref (sb.2 5), .int 0, .int 0])), (q18, .inl (cI, 16, .inl (fun _ => 0)))] := hD
  refine lv_aload_n hx hb d_Search_init_23 rfl (lv_at hl 0 rfl) ?_
  refine lv_iconst (v := 0) hx hb d_Search_init_24 (by decide) ?_
  refine va_put (v := .int 0) (ty := .int) hx hb htb i_Search t_Search t_Search_ok n_Search hown hK hP hD hS 0 rfl rfl 2 (by decide) (htb _ q1_122) (fun _ h9 => h9) rfl (by decide +kernel) rfl rfl (Nat.le_of_ble_eq_true rfl) d_Search_init_25 (fun H25 locs hP hD hS => ?_)
  have hP : va_P (dC, dI) classes [(q0, .inr (8, [.ref q5, .ref q18, .int 0, .int 0, .int 0])), (q5, .inr (11, [.ref (sb.2 5), .int 0, .int 0])), (q18, .inl (cI, 16, .inl (fun _ => 0)))] H25 := hP
  have hD : va_D A [(q0, .inr (8, [.ref q5, .ref q18, .int 0, .int 0, .int 0])), (q5, .inr (11, [.ref (sb.2 5), .int 0, .int 0])), (q18, .inl (cI, 16, .inl (fun _ => 0)))] := hD
  refine lv_aload_n hx hb d_Search_init_28 rfl (lv_at hl 0 rfl) ?_
  refine lv_iconst (v := 0) hx hb d_Search_init_29 (by decide) ?_
  refine va_put (v := .int 0) (ty := .int) hx hb htb i_Search t_Search t_Search_ok n_Search hown hK hP hD hS 0 rfl rfl 3 (by decide) (htb _ q1_123) (fun _ h9 => h9) rfl (by decide +kernel) rfl rfl (Nat.le_of_ble_eq_true rfl) d_Search_init_30 (fun H30 locs hP hD hS => ?_)
  have hP : va_P (dC, dI) classes [(q0, .inr (8, [.ref q5, .ref q18, .int 0, .int 0, .int 0])), (q5, .inr (11, [.ref (sb.2 5), .int 0, .int 0])), (q18, .inl (cI, 16, .inl (fun _ => 0)))] H30 := hP
  have hD : va_D A [(q0, .inr (8, [.ref q5, .ref q18, .int 0, .int 0, .int 0])), (q5, .inr (11, [.ref (sb.2 5), .int 0, .int 0])), (q18, .inl (cI, 16, .inl (fun _ => 0)))] := hD
  refine lv_aload_n hx hb d_Search_init_33 rfl (lv_at hl 0 rfl) ?_
  refine lv_iconst (v := 0) hx hb d_Search_init_34 (by decide) ?_
  refine va_put (v := .int 0) (ty := .int) hx hb htb i_Search t_Search t_Search_ok n_Search hown hK hP hD hS 0 rfl rfl 4 (by decide) (htb _ q1_124) (fun _ h9 => h9) rfl (by decide +kernel) rfl rfl (Nat.le_of_ble_eq_true rfl) d_Search_init_35 (fun H35 locs hP hD hS => ?_)
  have hP : va_P (dC, dI) classes [(q0, .inr (8, [.ref q5, .ref q18, .int 0, .int 0, .int 0])), (q5, .inr (11, [.ref (sb.2 5), .int 0, .int 0])), (q18, .inl (cI, 16, .inl (fun _ => 0)))] H35 := hP
  have hD : va_D A [(q0, .inr (8, [.ref q5, .ref q18, .int 0, .int 0, .int 0])), (q5, .inr (11, [.ref (sb.2 5), .int 0, .int 0])), (q18, .inl (cI, 16, .inl (fun _ => 0)))] := hD
  exact W.vret hx hb hr (fun t ht hW => ⟨⟨(q5, q18), rfl, trivial, by rw [ht]; exact hP, va_K.moved hW.alike hK, hD⟩, hS.F ht⟩) hS.2.2 d_Search_init_38
def y_PathCheck_init : MethodName := ⟨"TrustChain$PathCheck", "<init>", "()V"⟩
abbrev b_PathCheck_init : ByteArray := prog_7_method_1_code
def w_PathCheck_init : List Cond := Cond.code y_PathCheck_init b_PathCheck_init 1 (none) :: tb
theorem d_PathCheck_init_0 : decode b_PathCheck_init 0 = .ok (.aload_n 0, 1) := by decide +kernel
theorem d_PathCheck_init_1 : decode b_PathCheck_init 1 = .ok (.invokespecial 3, 3) := by decide +kernel
theorem d_PathCheck_init_4 : decode b_PathCheck_init 4 = .ok (.aload_n 0, 1) := by decide +kernel
theorem d_PathCheck_init_5 : decode b_PathCheck_init 5 = .ok (.iconst (-1), 1) := by decide +kernel
theorem d_PathCheck_init_6 : decode b_PathCheck_init 6 = .ok (.putfield 9, 3) := by decide +kernel
theorem d_PathCheck_init_9 : decode b_PathCheck_init 9 = .ok (.aload_n 0, 1) := by decide +kernel
theorem d_PathCheck_init_10 : decode b_PathCheck_init 10 = .ok (.lconst 0, 1) := by decide +kernel
theorem d_PathCheck_init_11 : decode b_PathCheck_init 11 = .ok (.putfield 15, 3) := by decide +kernel
theorem d_PathCheck_init_14 : decode b_PathCheck_init 14 = .ok (.aload_n 0, 1) := by decide +kernel
theorem d_PathCheck_init_15 : decode b_PathCheck_init 15 = .ok (.iconst 0, 1) := by decide +kernel
theorem d_PathCheck_init_16 : decode b_PathCheck_init 16 = .ok (.putfield 19, 3) := by decide +kernel
theorem d_PathCheck_init_19 : decode b_PathCheck_init 19 = .ok (.aload_n 0, 1) := by decide +kernel
theorem d_PathCheck_init_20 : decode b_PathCheck_init 20 = .ok (.iconst 0, 1) := by decide +kernel
theorem d_PathCheck_init_21 : decode b_PathCheck_init 21 = .ok (.putfield 23, 3) := by decide +kernel
theorem d_PathCheck_init_24 : decode b_PathCheck_init 24 = .ok (.return_, 1) := by decide +kernel
set_option maxHeartbeats 4000000 in
set_option maxRecDepth 100000 in
theorem c_PC_init (l : Launch) (dC : Nat → ClassId) (dI : Nat → Nat → Nat) (sb : sB) (q0 : Nat) (sz : Nat) : Met l y_PathCheck_init w_PathCheck_init ({ frames := 1, cells := 0, slots := 0, locals := 20 }) (mu_P [.ref q0] (dC, dI) sb [(q0, .inr (9, [.int 0, .long 0, .int 0, .int 0]))] [] sz) (va_Qv (fun (_u : Unit) => True) (mu_B (dC, dI) [] (va_A [(q0, .inr (9, [.int 0, .long 0, .int 0, .int 0]))] sz) (fun _ : Unit => [(q0, .inr (9, [.int (-1), .long 0, .int 0, .int 0]))])) (va_A [(q0, .inr (9, [.int 0, .long 0, .int 0, .int 0]))] sz)) 0 0 (va_A [(q0, .inr (9, [.int 0, .long 0, .int 0, .int 0]))] sz) := by
  refine Met.ofW (cc := b_PathCheck_init) (maxL := 1) (ret := none) (by decide) rfl ?_
  intro p e s m args below meth c s₁ B hml hv
  obtain ⟨rfl, hsz, hB0, hP, hK, hD0, hN, hT0⟩ := hv
  have hx := B.exec
  have hb := B.bytes
  have hr := B.returns
  have hts := atoms_spec (ws := w_PathCheck_init) B.pre
  have tbin : ∀ w ∈ tb, w ∈ w_PathCheck_init := fun w h => List.mem_cons_of_mem _ h
  have htb : ∀ w ∈ tb, w.before _ s = true := fun w h => hts w (tbin w h)
  have hown : s.vm.findClass "TrustChain$PathCheck" = some m.cls := findClass_of_methodNamed B.named
  have hlocks := B.notSynchronized
  have hin : meth.name = "<init>" := (name_of_methodNamed B.named B.method).1
  subst hsz
  have hD := hD0.self (sz := s.heap.size)
  generalize hAe : va_A [(q0, .inr (9, [.int 0, .long 0, .int 0, .int 0]))] s.heap.size = A at hD ⊢
  have hA : ∀ q : Nat, s.heap.size ≤ q → A q := fun q h => by rw [← hAe]; exact Or.inr h
  have hAs : ∀ q : Nat, A q → sb.1 ≤ q := fun q h => by
    rw [← hAe] at h
    rcases h with ⟨k, e, h⟩ | h
    · exact hD0.2 k _ h
    · exact Nat.le_trans hB0 h
  have hS : va_S A s.heap s.heap [] := va_S.rf
  have hcs : 0 ≤ (headSpec w_PathCheck_init ({ frames := 1, cells := 0, slots := 0, locals := 20 })).room.cells ∧ 0 ≤ (headSpec w_PathCheck_init ({ frames := 1, cells := 0, slots := 0, locals := 20 })).room.slots := ⟨Nat.le_refl _, Nat.le_refl _⟩
  have hP : va_P (dC, dI) classes [(q0, .inr (9, [.int 0, .long 0, .int 0, .int 0]))] s.heap := hP
  have hl := lv_entry ([.ref q0]) (n := 1) (Nat.le_of_ble_eq_true rfl)
  rw [lg_entry_eq]
  generalize (lg_sl ([.ref q0]) ++ List.replicate (1 - (lg_sl ([.ref q0])).length) Slot.unset).toArray = ls at hl ⊢
  have hl : lv_has ls 1 [(0, .ref q0)] := hl
  refine lv_aload_n hx hb d_PathCheck_init_0 rfl (lv_at hl 0 rfl) ?_
  refine W.objInit hx hb hown (htb _ q1_141) (htb _ q1_39) (htb _ q1_40) rfl (by rw [hml]; exact hl.1) rfl d_PathCheck_init_1 (Nat.le_of_ble_eq_true rfl) (Nat.le_of_ble_eq_true rfl) ?_
  refine W.eq (g2 := F0 m 4 ls []) rfl ?_
  refine lv_aload_n hx hb d_PathCheck_init_4 rfl (lv_at hl 0 rfl) ?_
  refine lv_iconst (v := -1) hx hb d_PathCheck_init_5 (by decide) ?_
  refine va_put (v := .int (-1)) (ty := .int) hx hb htb i_PathCheck t_PathCheck t_PathCheck_ok n_PathCheck hown hK hP hD hS 0 rfl rfl 0 (by decide) (htb _ q1_142) (fun _ h9 => h9) rfl (by decide +kernel) rfl rfl (Nat.le_of_ble_eq_true rfl) d_PathCheck_init_6 (fun H6 locs hP hD hS => ?_)
  have hP : va_P (dC, dI) classes [(q0, .inr (9, [.int (-1), .long 0, .int 0, .int 0]))] H6 := hP
  have hD : va_D A [(q0, .inr (9, [.int (-1), .long 0, .int 0, .int 0]))] := hD
  refine lv_aload_n hx hb d_PathCheck_init_9 rfl (lv_at hl 0 rfl) ?_
  refine lv_lconst (v := 0) hx hb d_PathCheck_init_10 (by decide) ?_
  refine va_put (v := .long 0) (ty := .long) hx hb htb i_PathCheck t_PathCheck t_PathCheck_ok n_PathCheck hown hK hP hD hS 0 rfl rfl 1 (by decide) (htb _ q1_144) (fun _ h9 => h9) rfl (by decide +kernel) rfl rfl (Nat.le_of_ble_eq_true rfl) d_PathCheck_init_11 (fun H11 locs hP hD hS => ?_)
  have hP : va_P (dC, dI) classes [(q0, .inr (9, [.int (-1), .long 0, .int 0, .int 0]))] H11 := hP
  have hD : va_D A [(q0, .inr (9, [.int (-1), .long 0, .int 0, .int 0]))] := hD
  refine lv_aload_n hx hb d_PathCheck_init_14 rfl (lv_at hl 0 rfl) ?_
  refine lv_iconst (v := 0) hx hb d_PathCheck_init_15 (by decide) ?_
  refine va_put (v := .int 0) (ty := .boolean) hx hb htb i_PathCheck t_PathCheck t_PathCheck_ok n_PathCheck hown hK hP hD hS 0 rfl rfl 2 (by decide) (htb _ q1_145) (fun _ h9 => h9) rfl (by decide +kernel) rfl rfl (Nat.le_of_ble_eq_true rfl) d_PathCheck_init_16 (fun H16 locs hP hD hS => ?_)
  have hP : va_P (dC, dI) classes [(q0, .inr (9, [.int (-1), .long 0, .int 0, .int 0]))] H16 := hP
  have hD : va_D A [(q0, .inr (9, [.int (-1), .long 0, .int 0, .int 0]))] := hD
  refine lv_aload_n hx hb d_PathCheck_init_19 rfl (lv_at hl 0 rfl) ?_
  refine lv_iconst (v := 0) hx hb d_PathCheck_init_20 (by decide) ?_
  refine va_put (v := .int 0) (ty := .boolean) hx hb htb i_PathCheck t_PathCheck t_PathCheck_ok n_PathCheck hown hK hP hD hS 0 rfl rfl 3 (by decide) (htb _ q1_146) (fun _ h9 => h9) rfl (by decide +kernel) rfl rfl (Nat.le_of_ble_eq_true rfl) d_PathCheck_init_21 (fun H21 locs hP hD hS => ?_)
  have hP : va_P (dC, dI) classes [(q0, .inr (9, [.int (-1), .long 0, .int 0, .int 0]))] H21 := hP
  have hD : va_D A [(q0, .inr (9, [.int (-1), .long 0, .int 0, .int 0]))] := hD
  exact W.vret hx hb hr (fun t ht hW => ⟨⟨(), rfl, trivial, by rw [ht]; exact hP, va_K.moved hW.alike hK, hD⟩, hS.F ht⟩) hS.2.2 d_PathCheck_init_24
def y_Paper_init : MethodName := ⟨"TrustChain$Paper", "<init>", "(LTrustChain$Slice;)V"⟩
abbrev b_Paper_init : ByteArray := prog_6_method_1_code
def w_Paper_init : List Cond := Cond.code y_Paper_init b_Paper_init 2 (none) :: tb
theorem d_Paper_init_0 : decode b_Paper_init 0 = .ok (.aload_n 0, 1) := by decide +kernel
theorem d_Paper_init_1 : decode b_Paper_init 1 = .ok (.invokespecial 3, 3) := by decide +kernel
theorem d_Paper_init_4 : decode b_Paper_init 4 = .ok (.aload_n 0, 1) := by decide +kernel
theorem d_Paper_init_5 : decode b_Paper_init 5 = .ok (.bipush 8, 2) := by decide +kernel
theorem d_Paper_init_7 : decode b_Paper_init 7 = .ok (.newarray .int, 2) := by decide +kernel
theorem d_Paper_init_9 : decode b_Paper_init 9 = .ok (.putfield 9, 3) := by decide +kernel
theorem d_Paper_init_12 : decode b_Paper_init 12 = .ok (.aload_n 0, 1) := by decide +kernel
theorem d_Paper_init_13 : decode b_Paper_init 13 = .ok (.bipush 16, 2) := by decide +kernel
theorem d_Paper_init_15 : decode b_Paper_init 15 = .ok (.newarray .int, 2) := by decide +kernel
theorem d_Paper_init_17 : decode b_Paper_init 17 = .ok (.putfield 15, 3) := by decide +kernel
theorem d_Paper_init_20 : decode b_Paper_init 20 = .ok (.aload_n 0, 1) := by decide +kernel
theorem d_Paper_init_21 : decode b_Paper_init 21 = .ok (.new 18, 3) := by decide +kernel
theorem d_Paper_init_24 : decode b_Paper_init 24 = .ok (.dup, 1) := by decide +kernel
theorem d_Paper_init_25 : decode b_Paper_init 25 = .ok (.invokespecial 20, 3) := by decide +kernel
theorem d_Paper_init_28 : decode b_Paper_init 28 = .ok (.putfield 21, 3) := by decide +kernel
theorem d_Paper_init_31 : decode b_Paper_init 31 = .ok (.aload_n 0, 1) := by decide +kernel
theorem d_Paper_init_32 : decode b_Paper_init 32 = .ok (.lconst 0, 1) := by decide +kernel
theorem d_Paper_init_33 : decode b_Paper_init 33 = .ok (.putfield 25, 3) := by decide +kernel
theorem d_Paper_init_36 : decode b_Paper_init 36 = .ok (.aload_n 0, 1) := by decide +kernel
theorem d_Paper_init_37 : decode b_Paper_init 37 = .ok (.lconst 0, 1) := by decide +kernel
theorem d_Paper_init_38 : decode b_Paper_init 38 = .ok (.putfield 29, 3) := by decide +kernel
theorem d_Paper_init_41 : decode b_Paper_init 41 = .ok (.aload_n 0, 1) := by decide +kernel
theorem d_Paper_init_42 : decode b_Paper_init 42 = .ok (.iconst 0, 1) := by decide +kernel
theorem d_Paper_init_43 : decode b_Paper_init 43 = .ok (.putfield 32, 3) := by decide +kernel
theorem d_Paper_init_46 : decode b_Paper_init 46 = .ok (.aload_n 0, 1) := by decide +kernel
theorem d_Paper_init_47 : decode b_Paper_init 47 = .ok (.aload_n 1, 1) := by decide +kernel
theorem d_Paper_init_48 : decode b_Paper_init 48 = .ok (.putfield 36, 3) := by decide +kernel
theorem d_Paper_init_51 : decode b_Paper_init 51 = .ok (.aload_n 0, 1) := by decide +kernel
theorem d_Paper_init_52 : decode b_Paper_init 52 = .ok (.aload_n 1, 1) := by decide +kernel
theorem d_Paper_init_53 : decode b_Paper_init 53 = .ok (.putfield 40, 3) := by decide +kernel
theorem d_Paper_init_56 : decode b_Paper_init 56 = .ok (.aload_n 0, 1) := by decide +kernel
theorem d_Paper_init_57 : decode b_Paper_init 57 = .ok (.aload_n 1, 1) := by decide +kernel
theorem d_Paper_init_58 : decode b_Paper_init 58 = .ok (.putfield 43, 3) := by decide +kernel
theorem d_Paper_init_61 : decode b_Paper_init 61 = .ok (.return_, 1) := by decide +kernel
set_option maxHeartbeats 4000000 in
set_option maxRecDepth 100000 in
theorem c_Paper_init (l : Launch) (dC : Nat → ClassId) (dI : Nat → Nat → Nat) (sb : sB) (q0 : Nat) (no : Nat) (cI : ClassId) (sz : Nat) : Met l y_Paper_init w_Paper_init ({ frames := 4, cells := 3, slots := 27, locals := 80 }) (mu_P [.ref q0, .ref no] (dC, dI) sb [(q0, .inr (2, [.null, .null, .null, .null, .null, .null, .long 0, .long 0, .int 0]))] [(cI, .int)] sz) (va_Qv (fun (_u : Nat × Nat × Nat) => True) (mu_B (dC, dI) [(cI, .int)] (va_A [(q0, .inr (2, [.null, .null, .null, .null, .null, .null, .long 0, .long 0, .int 0]))] sz) (fun u' : Nat × Nat × Nat => [(q0, .inr (2, [.ref u'.1, .ref u'.2.1, .ref u'.2.2, .ref no, .ref no, .ref no, .long 0, .long 0, .int 0])), (u'.1, .inl (cI, 8, .inl (fun _ => 0))), (u'.2.1, .inl (cI, 16, .inl (fun _ => 0))), (u'.2.2, .inr (11, [.ref (sb.2 5), .int 0, .int 0]))])) (va_A [(q0, .inr (2, [.null, .null, .null, .null, .null, .null, .long 0, .long 0, .int 0]))] sz)) 3 27 (va_A [(q0, .inr (2, [.null, .null, .null, .null, .null, .null, .long 0, .long 0, .int 0]))] sz) := by
  refine Met.ofW (cc := b_Paper_init) (maxL := 2) (ret := none) (by decide) rfl ?_
  intro p e s m args below meth c s₁ B hml hv
  obtain ⟨rfl, hsz, hB0, hP, hK, hD0, hN, hT0⟩ := hv
  have hx := B.exec
  have hb := B.bytes
  have hr := B.returns
  have hts := atoms_spec (ws := w_Paper_init) B.pre
  have tbin : ∀ w ∈ tb, w ∈ w_Paper_init := fun w h => List.mem_cons_of_mem _ h
  have htb : ∀ w ∈ tb, w.before _ s = true := fun w h => hts w (tbin w h)
  have hown : s.vm.findClass "TrustChain$Paper" = some m.cls := findClass_of_methodNamed B.named
  have hlocks := B.notSynchronized
  have hin : meth.name = "<init>" := (name_of_methodNamed B.named B.method).1
  subst hsz
  have hD := hD0.self (sz := s.heap.size)
  generalize hAe : va_A [(q0, .inr (2, [.null, .null, .null, .null, .null, .null, .long 0, .long 0, .int 0]))] s.heap.size = A at hD ⊢
  have hA : ∀ q : Nat, s.heap.size ≤ q → A q := fun q h => by rw [← hAe]; exact Or.inr h
  have hAs : ∀ q : Nat, A q → sb.1 ≤ q := fun q h => by
    rw [← hAe] at h
    rcases h with ⟨k, e, h⟩ | h
    · exact hD0.2 k _ h
    · exact Nat.le_trans hB0 h
  have hS : va_S A s.heap s.heap [] := va_S.rf
  have hcs : 3 ≤ (headSpec w_Paper_init ({ frames := 4, cells := 3, slots := 27, locals := 80 })).room.cells ∧ 27 ≤ (headSpec w_Paper_init ({ frames := 4, cells := 3, slots := 27, locals := 80 })).room.slots := ⟨Nat.le_refl _, Nat.le_refl _⟩
  have hP : va_P (dC, dI) classes [(q0, .inr (2, [.null, .null, .null, .null, .null, .null, .long 0, .long 0, .int 0]))] s.heap := hP
  have hl := lv_entry ([.ref q0, .ref no]) (n := 2) (Nat.le_of_ble_eq_true rfl)
  rw [lg_entry_eq]
  generalize (lg_sl ([.ref q0, .ref no]) ++ List.replicate (2 - (lg_sl ([.ref q0, .ref no])).length) Slot.unset).toArray = ls at hl ⊢
  have hl : lv_has ls 2 [(0, .ref q0), (1, .ref no)] := hl
  refine lv_aload_n hx hb d_Paper_init_0 rfl (lv_at hl 0 rfl) ?_
  refine W.objInit hx hb hown (htb _ q2_115) (htb _ q1_39) (htb _ q1_40) rfl (by rw [hml]; exact hl.1) rfl d_Paper_init_1 (Nat.le_of_ble_eq_true rfl) (Nat.le_of_ble_eq_true rfl) ?_
  refine W.eq (g2 := F0 m 4 ls []) rfl ?_
  refine lv_aload_n hx hb d_Paper_init_4 rfl (lv_at hl 0 rfl) ?_
  refine lv_bipush (v := 8) hx hb d_Paper_init_5 (by decide) ?_
  refine va_newa (atype := .int) (ty := .int) (a0 := (8, .inl (fun _ => 0))) hx hb (htb _ q1_78) rfl hK hP hD hS hA (fun _ => rfl) (by decide) (by decide) (by decide) (Nat.le_of_ble_eq_true rfl) (Nat.le_of_ble_eq_true rfl) d_Paper_init_7 (fun q7 cA7 H7 hKn hP hD hS => ?_)
  obtain rfl : cI = cA7 := arr_uniq hKn 0 1 rfl rfl (by simp)
  have hP : va_P (dC, dI) classes [(q0, .inr (2, [.null, .null, .null, .null, .null, .null, .long 0, .long 0, .int 0])), (q7, .inl (cI, 8, .inl (fun _ => 0)))] H7 := hP
  have hD : va_D A [(q0, .inr (2, [.null, .null, .null, .null, .null, .null, .long 0, .long 0, .int 0])), (q7, .inl (cI, 8, .inl (fun _ => 0)))] := hD
  refine va_putF (v := .ref q7) (ty := (.array .int)) hx hb htb i_Paper t_Paper t_Paper_ok n_Paper hown hK hP hD hS 0 rfl rfl 0 (by decide) (htb _ q2_192) (fun _ h9 => h9) rfl hin rfl (by decide +kernel) rfl rfl (Nat.le_of_ble_eq_true rfl) d_Paper_init_9 (fun H9 locs hP hD hS => ?_)
  have hP : va_P (dC, dI) classes [(q0, .inr (2, [.ref q7, .null, .null, .null, .null, .null, .long 0, .long 0, .int 0])), (q7, .inl (cI, 8, .inl (fun _ => 0)))] H9 := hP
  have hD : va_D A [(q0, .inr (2, [.ref q7, .null, .null, .null, .null, .null, .long 0, .long 0, .int 0])), (q7, .inl (cI, 8, .inl (fun _ => 0)))] := hD
  refine lv_aload_n hx hb d_Paper_init_12 rfl (lv_at hl 0 rfl) ?_
  refine lv_bipush (v := 16) hx hb d_Paper_init_13 (by decide) ?_
  refine va_newa (atype := .int) (ty := .int) (a0 := (16, .inl (fun _ => 0))) hx hb (htb _ q1_78) rfl hK hP hD hS hA (fun _ => rfl) (by decide) (by decide) (by decide) (Nat.le_of_ble_eq_true rfl) (Nat.le_of_ble_eq_true rfl) d_Paper_init_15 (fun q15 cA15 H15 hKn hP hD hS => ?_)
  obtain rfl : cI = cA15 := arr_uniq hKn 0 1 rfl rfl (by simp)
  have hP : va_P (dC, dI) classes [(q0, .inr (2, [.ref q7, .null, .null, .null, .null, .null, .long 0, .long 0, .int 0])), (q7, .inl (cI, 8, .inl (fun _ => 0))), (q15, .inl (cI, 16, .inl (fun _ => 0)))] H15 := hP
  have hD : va_D A [(q0, .inr (2, [.ref q7, .null, .null, .null, .null, .null, .long 0, .long 0, .int 0])), (q7, .inl (cI, 8, .inl (fun _ => 0))), (q15, .inl (cI, 16, .inl (fun _ => 0)))] := hD
  refine va_putF (v := .ref q15) (ty := (.array .int)) hx hb htb i_Paper t_Paper t_Paper_ok n_Paper hown hK hP hD hS 0 rfl rfl 1 (by decide) (htb _ q2_197) (fun _ h9 => h9) rfl hin rfl (by decide +kernel) rfl rfl (Nat.le_of_ble_eq_true rfl) d_Paper_init_17 (fun H17 locs hP hD hS => ?_)
  have hP : va_P (dC, dI) classes [(q0, .inr (2, [.ref q7, .ref q15, .null, .null, .null, .null, .long 0, .long 0, .int 0])), (q7, .inl (cI, 8, .inl (fun _ => 0))), (q15, .inl (cI, 16, .inl (fun _ => 0)))] H17 := hP
  have hD : va_D A [(q0, .inr (2, [.ref q7, .ref q15, .null, .null, .null, .null, .long 0, .long 0, .int 0])), (q7, .inl (cI, 8, .inl (fun _ => 0))), (q15, .inl (cI, 16, .inl (fun _ => 0)))] := hD
  refine lv_aload_n hx hb d_Paper_init_20 rfl (lv_at hl 0 rfl) ?_
  refine va_new (ci := 11) (fs := [.null, .int 0, .int 0]) hx hb htb i_AL t_AL t_AL_ok hown (htb _ q2_116) (htb _ q1_42) (htb _ q1_4) hK hP hD hS hA rfl (fun j hj => by rcases (show j = 0 ∨ j = 1 ∨ j = 2 by omega) with rfl | rfl | rfl <;> rfl) (Nat.le_of_ble_eq_true rfl) (Nat.le_of_ble_eq_true rfl) d_Paper_init_21 (fun q21 H21 hP hD hS => ?_)
  have hP : va_P (dC, dI) classes [(q0, .inr (2, [.ref q7, .ref q15, .null, .null, .null, .null, .long 0, .long 0, .int 0])), (q7, .inl (cI, 8, .inl (fun _ => 0))), (q15, .inl (cI, 16, .inl (fun _ => 0))), (q21, .inr (11, [.null, .int 0, .int 0]))] H21 := hP
  have hD : va_D A [(q0, .inr (2, [.ref q7, .ref q15, .null, .null, .null, .null, .long 0, .long 0, .int 0])), (q7, .inl (cI, 8, .inl (fun _ => 0))), (q15, .inl (cI, 16, .inl (fun _ => 0))), (q21, .inr (11, [.null, .int 0, .int 0]))] := hD
  refine lv_dup hx hb d_Paper_init_24 rfl ?_
  have hFc := va_free (wc := [(q21, .inr (11, [.null, .int 0, .int 0]))]) hD hS hA [3] rfl
  refine va_callv (mu_runI (As := []) (rest := [.ref q21, .ref q0]) ⟨hx, hb, hml, hown, hts⟩ tbin (c_AL_init l dC dI sb q21  H21.size) q2_117 q1_44 q1_4 q1_45 rfl (n := 0) (by decide +kernel) rfl ⟨rfl, rfl⟩ ⟨Nat.le_of_ble_eq_true rfl, Nat.le_of_ble_eq_true rfl⟩ ⟨Nat.le_of_ble_eq_true rfl, Nat.le_of_ble_eq_true rfl⟩ hN (hT0.keep hS hAs) hAs (Nat.le_trans hB0 hS.1) hK hP hD [3] (by decide) rfl [] rfl hl.1 rfl (Nat.le_of_ble_eq_true rfl) d_Paper_init_25) hS (fun q _ h => hFc q h) hFc (fun u25 tS H25 locs ht hvm hw25 hB hz1 hk1 hS => ?_)
  skip
  obtain ⟨hP1, hK1, hD1⟩ := hB
  rw [ht] at hP1
  obtain ⟨hP, hD⟩ := va_join (wr := [(q0, .inr (2, [.ref q7, .ref q15, .null, .null, .null, .null, .long 0, .long 0, .int 0])), (q7, .inl (cI, 8, .inl (fun _ => 0))), (q15, .inl (cI, 16, .inl (fun _ => 0)))]) (w1 := [(q21, .inr (11, [.ref (sb.2 5), .int 0, .int 0]))]) hP hD [3] [0, 1, 2] rfl rfl (by decide) (by decide) hk1 hFc hP1 hD1
  have hP : va_P (dC, dI) classes [(q0, .inr (2, [.ref q7, .ref q15, .null, .null, .null, .null, .long 0, .long 0, .int 0])), (q7, .inl (cI, 8, .inl (fun _ => 0))), (q15, .inl (cI, 16, .inl (fun _ => 0))), (q21, .inr (11, [.ref (sb.2 5), .int 0, .int 0]))] H25 := hP
  have hD : va_D A [(q0, .inr (2, [.ref q7, .ref q15, .null, .null, .null, .null, .long 0, .long 0, .int 0])), (q7, .inl (cI, 8, .inl (fun _ => 0))), (q15, .inl (cI, 16, .inl (fun _ => 0))), (q21, .inr (11, [.ref (sb.2 5), .int 0, .int 0]))] := hD
  refine va_putF (v := .ref q21) (ty := (.object "java/util/ArrayList")) hx hb htb i_Paper t_Paper t_Paper_ok n_Paper hown hK hP hD hS 0 rfl rfl 2 (by decide) (htb _ q2_199) (fun _ h9 => h9) rfl hin rfl (by decide +kernel) rfl rfl (Nat.le_of_ble_eq_true rfl) d_Paper_init_28 (fun H28 locs hP hD hS => ?_)
  have hP : va_P (dC, dI) classes [(q0, .inr (2, [.ref q7, .ref q15, .ref q21, .null, .null, .null, .long 0, .long 0, .int 0])), (q7, .inl (cI, 8, .inl (fun _ => 0))), (q15, .inl (cI, 16, .inl (fun _ => 0))), (q21, .inr (11, [.ref (sb.2 5), .int 0, .int 0]))] H28 := hP
  have hD : va_D A [(q0, .inr (2, [.ref q7, .ref q15, .ref q21, .null, .null, .null, .long 0, .long 0, .int 0])), (q7, .inl (cI, 8, .inl (fun _ => 0))), (q15, .inl (cI, 16, .inl (fun _ => 0))), (q21, .inr (11, [.ref (sb.2 5), .int 0, .int 0]))] := hD
  refine lv_aload_n hx hb d_Paper_init_31 rfl (lv_at hl 0 rfl) ?_
  refine lv_lconst (v := 0) hx hb d_Paper_init_32 (by decide) ?_
  refine va_put (v := .long 0) (ty := .long) hx hb htb i_Paper t_Paper t_Paper_ok n_Paper hown hK hP hD hS 0 rfl rfl 6 (by decide) (htb _ q2_218) (fun _ h9 => h9) rfl (by decide +kernel) rfl rfl (Nat.le_of_ble_eq_true rfl) d_Paper_init_33 (fun H33 locs hP hD hS => ?_)
  have hP : va_P (dC, dI) classes [(q0, .inr (2, [.ref q7, .ref q15, .ref q21, .null, .null, .null, .long 0, .long 0, .int 0])), (q7, .inl (cI, 8, .inl (fun _ => 0))), (q15, .inl (cI, 16, .inl (fun _ => 0))), (q21, .inr (11, [.ref (sb.2 5), .int 0, .int 0]))] H33 := hP
  have hD : va_D A [(q0, .inr (2, [.ref q7, .ref q15, .ref q21, .null, .null, .null, .long 0, .long 0, .int 0])), (q7, .inl (cI, 8, .inl (fun _ => 0))), (q15, .inl (cI, 16, .inl (fun _ => 0))), (q21, .inr (11, [.ref (sb.2 5), .int 0, .int 0]))] := hD
  refine lv_aload_n hx hb d_Paper_init_36 rfl (lv_at hl 0 rfl) ?_
  refine lv_lconst (v := 0) hx hb d_Paper_init_37 (by decide) ?_
  refine va_put (v := .long 0) (ty := .long) hx hb htb i_Paper t_Paper t_Paper_ok n_Paper hown hK hP hD hS 0 rfl rfl 7 (by decide) (htb _ q2_224) (fun _ h9 => h9) rfl (by decide +kernel) rfl rfl (Nat.le_of_ble_eq_true rfl) d_Paper_init_38 (fun H38 locs hP hD hS => ?_)
  have hP : va_P (dC, dI) classes [(q0, .inr (2, [.ref q7, .ref q15, .ref q21, .null, .null, .null, .long 0, .long 0, .int 0])), (q7, .inl (cI, 8, .inl (fun _ => 0))), (q15, .inl (cI, 16, .inl (fun _ => 0))), (q21, .inr (11, [.ref (sb.2 5), .int 0, .int 0]))] H38 := hP
  have hD : va_D A [(q0, .inr (2, [.ref q7, .ref q15, .ref q21, .null, .null, .null, .long 0, .long 0, .int 0])), (q7, .inl (cI, 8, .inl (fun _ => 0))), (q15, .inl (cI, 16, .inl (fun _ => 0))), (q21, .inr (11, [.ref (sb.2 5), .int 0, .int 0]))] := hD
  refine lv_aload_n hx hb d_Paper_init_41 rfl (lv_at hl 0 rfl) ?_
  refine lv_iconst (v := 0) hx hb d_Paper_init_42 (by decide) ?_
  refine va_put (v := .int 0) (ty := .int) hx hb htb i_Paper t_Paper t_Paper_ok n_Paper hown hK hP hD hS 0 rfl rfl 8 (by decide) (htb _ q2_230) (fun _ h9 => h9) rfl (by decide +kernel) rfl rfl (Nat.le_of_ble_eq_true rfl) d_Paper_init_43 (fun H43 locs hP hD hS => ?_)
  have hP : va_P (dC, dI) classes [(q0, .inr (2, [.ref q7, .ref q15, .ref q21, .null, .null, .null, .long 0, .long 0, .int 0])), (q7, .inl (cI, 8, .inl (fun _ => 0))), (q15, .inl (cI, 16, .inl (fun _ => 0))), (q21, .inr (11, [.ref (sb.2 5), .int 0, .int 0]))] H43 := hP
  have hD : va_D A [(q0, .inr (2, [.ref q7, .ref q15, .ref q21, .null, .null, .null, .long 0, .long 0, .int 0])), (q7, .inl (cI, 8, .inl (fun _ => 0))), (q15, .inl (cI, 16, .inl (fun _ => 0))), (q21, .inr (11, [.ref (sb.2 5), .int 0, .int 0]))] := hD
  refine lv_aload_n hx hb d_Paper_init_46 rfl (lv_at hl 0 rfl) ?_
  refine lv_aload_n hx hb d_Paper_init_47 rfl (lv_at hl 1 rfl) ?_
  refine va_put (v := .ref no) (ty := (.object "TrustChain$Slice")) hx hb htb i_Paper t_Paper t_Paper_ok n_Paper hown hK hP hD hS 0 rfl rfl 3 (by decide) (htb _ q2_202) (fun _ h9 => h9) rfl (by decide +kernel) rfl rfl (Nat.le_of_ble_eq_true rfl) d_Paper_init_48 (fun H48 locs hP hD hS => ?_)
  have hP : va_P (dC, dI) classes [(q0, .inr (2, [.ref q7, .ref q15, .ref q21, .ref no, .null, .null, .long 0, .long 0, .int 0])), (q7, .inl (cI, 8, .inl (fun _ => 0))), (q15, .inl (cI, 16, .inl (fun _ => 0))), (q21, .inr (11, [.ref (sb.2 5), .int 0, .int 0]))] H48 := hP
  have hD : va_D A [(q0, .inr (2, [.ref q7, .ref q15, .ref q21, .ref no, .null, .null, .long 0, .long 0, .int 0])), (q7, .inl (cI, 8, .inl (fun _ => 0))), (q15, .inl (cI, 16, .inl (fun _ => 0))), (q21, .inr (11, [.ref (sb.2 5), .int 0, .int 0]))] := hD
  refine lv_aload_n hx hb d_Paper_init_51 rfl (lv_at hl 0 rfl) ?_
  refine lv_aload_n hx hb d_Paper_init_52 rfl (lv_at hl 1 rfl) ?_
  refine va_put (v := .ref no) (ty := (.object "TrustChain$Slice")) hx hb htb i_Paper t_Paper t_Paper_ok n_Paper hown hK hP hD hS 0 rfl rfl 4 (by decide) (htb _ q2_208) (fun _ h9 => h9) rfl (by decide +kernel) rfl rfl (Nat.le_of_ble_eq_true rfl) d_Paper_init_53 (fun H53 locs hP hD hS => ?_)
  have hP : va_P (dC, dI) classes [(q0, .inr (2, [.ref q7, .ref q15, .ref q21, .ref no, .ref no, .null, .long 0, .long 0, .int 0])), (q7, .inl (cI, 8, .inl (fun _ => 0))), (q15, .inl (cI, 16, .inl (fun _ => 0))), (q21, .inr (11, [.ref (sb.2 5), .int 0, .int 0]))] H53 := hP
  have hD : va_D A [(q0, .inr (2, [.ref q7, .ref q15, .ref q21, .ref no, .ref no, .null, .long 0, .long 0, .int 0])), (q7, .inl (cI, 8, .inl (fun _ => 0))), (q15, .inl (cI, 16, .inl (fun _ => 0))), (q21, .inr (11, [.ref (sb.2 5), .int 0, .int 0]))] := hD
  refine lv_aload_n hx hb d_Paper_init_56 rfl (lv_at hl 0 rfl) ?_
  refine lv_aload_n hx hb d_Paper_init_57 rfl (lv_at hl 1 rfl) ?_
  refine va_put (v := .ref no) (ty := (.object "TrustChain$Slice")) hx hb htb i_Paper t_Paper t_Paper_ok n_Paper hown hK hP hD hS 0 rfl rfl 5 (by decide) (htb _ q2_211) (fun _ h9 => h9) rfl (by decide +kernel) rfl rfl (Nat.le_of_ble_eq_true rfl) d_Paper_init_58 (fun H58 locs hP hD hS => ?_)
  have hP : va_P (dC, dI) classes [(q0, .inr (2, [.ref q7, .ref q15, .ref q21, .ref no, .ref no, .ref no, .long 0, .long 0, .int 0])), (q7, .inl (cI, 8, .inl (fun _ => 0))), (q15, .inl (cI, 16, .inl (fun _ => 0))), (q21, .inr (11, [.ref (sb.2 5), .int 0, .int 0]))] H58 := hP
  have hD : va_D A [(q0, .inr (2, [.ref q7, .ref q15, .ref q21, .ref no, .ref no, .ref no, .long 0, .long 0, .int 0])), (q7, .inl (cI, 8, .inl (fun _ => 0))), (q15, .inl (cI, 16, .inl (fun _ => 0))), (q21, .inr (11, [.ref (sb.2 5), .int 0, .int 0]))] := hD
  exact W.vret hx hb hr (fun t ht hW => ⟨⟨(q7, q15, q21), rfl, trivial, by rw [ht]; exact hP, va_K.moved hW.alike hK, hD⟩, hS.F ht⟩) hS.2.2 d_Paper_init_61
set_option maxHeartbeats 4000000 in
set_option maxRecDepth 100000 in
theorem c_Paper_initC (l : Launch) (dC : Nat → ClassId) (dI : Nat → Nat → Nat) (sb : sB) (q0 : Nat) (no : Nat) (cI : ClassId) (sz : Nat) : Met l y_Paper_init w_Paper_init ({ frames := 4, cells := 3, slots := 27, locals := 80 }) (mu_P [.ref q0, .ref no] (dC, dI) sb [(q0, .inr (3, [.null, .null, .null, .null, .null, .null, .null, .null, .int 0, .int 0, .int 0, .int 0, .int 0, .int 0, .int 0, .int 0, .int 0, .int 0, .int 0, .null, .null, .null, .null, .null, .null, .long 0, .long 0, .int 0]))] [(cI, .int)] sz) (va_Qv (fun (_u : Nat × Nat × Nat) => True) (mu_B (dC, dI) [(cI, .int)] (va_A [(q0, .inr (3, [.null, .null, .null, .null, .null, .null, .null, .null, .int 0, .int 0, .int 0, .int 0, .int 0, .int 0, .int 0, .int 0, .int 0, .int 0, .int 0, .null, .null, .null, .null, .null, .null, .long 0, .long 0, .int 0]))] sz) (fun u' : Nat × Nat × Nat => [(q0, .inr (3, [.null, .null, .null, .null, .null, .null, .null, .null, .int 0, .int 0, .int 0, .int 0, .int 0, .int 0, .int 0, .int 0, .int 0, .int 0, .int 0, .ref u'.1, .ref u'.2.1, .ref u'.2.2, .ref no, .ref no, .ref no, .long 0, .long 0, .int 0])), (u'.1, .inl (cI, 8, .inl (fun _ => 0))), (u'.2.1, .inl (cI, 16, .inl (fun _ => 0))), (u'.2.2, .inr (11, [.ref (sb.2 5), .int 0, .int 0]))])) (va_A [(q0, .inr (3, [.null, .null, .null, .null, .null, .null, .null, .null, .int 0, .int 0, .int 0, .int 0, .int 0, .int 0, .int 0, .int 0, .int 0, .int 0, .int 0, .null, .null, .null, .null, .null, .null, .long 0, .long 0, .int 0]))] sz)) 3 27 (va_A [(q0, .inr (3, [.null, .null, .null, .null, .null, .null, .null, .null, .int 0, .int 0, .int 0, .int 0, .int 0, .int 0, .int 0, .int 0, .int 0, .int 0, .int 0, .null, .null, .null, .null, .null, .null, .long 0, .long 0, .int 0]))] sz) := by
  refine Met.ofW (cc := b_Paper_init) (maxL := 2) (ret := none) (by decide) rfl ?_
  intro p e s m args below meth c s₁ B hml hv
  obtain ⟨rfl, hsz, hB0, hP, hK, hD0, hN, hT0⟩ := hv
  have hx := B.exec
  have hb := B.bytes
  have hr := B.returns
  have hts := atoms_spec (ws := w_Paper_init) B.pre
  have tbin : ∀ w ∈ tb, w ∈ w_Paper_init := fun w h => List.mem_cons_of_mem _ h
  have htb : ∀ w ∈ tb, w.before _ s = true := fun w h => hts w (tbin w h)
  have hown : s.vm.findClass "TrustChain$Paper" = some m.cls := findClass_of_methodNamed B.named
  have hlocks := B.notSynchronized
  have hin : meth.name = "<init>" := (name_of_methodNamed B.named B.method).1
  subst hsz
  have hD := hD0.self (sz := s.heap.size)
  generalize hAe : va_A [(q0, .inr (3, [.null, .null, .null, .null, .null, .null, .null, .null, .int 0, .int 0, .int 0, .int 0, .int 0, .int 0, .int 0, .int 0, .int 0, .int 0, .int 0, .null, .null, .null, .null, .null, .null, .long 0, .long 0, .int 0]))] s.heap.size = A at hD ⊢
  have hA : ∀ q : Nat, s.heap.size ≤ q → A q := fun q h => by rw [← hAe]; exact Or.inr h
  have hAs : ∀ q : Nat, A q → sb.1 ≤ q := fun q h => by
    rw [← hAe] at h
    rcases h with ⟨k, e, h⟩ | h
    · exact hD0.2 k _ h
    · exact Nat.le_trans hB0 h
  have hS : va_S A s.heap s.heap [] := va_S.rf
  have hcs : 3 ≤ (headSpec w_Paper_init ({ frames := 4, cells := 3, slots := 27, locals := 80 })).room.cells ∧ 27 ≤ (headSpec w_Paper_init ({ frames := 4, cells := 3, slots := 27, locals := 80 })).room.slots := ⟨Nat.le_refl _, Nat.le_refl _⟩
  have hP : va_P (dC, dI) classes [(q0, .inr (3, [.null, .null, .null, .null, .null, .null, .null, .null, .int 0, .int 0, .int 0, .int 0, .int 0, .int 0, .int 0, .int 0, .int 0, .int 0, .int 0, .null, .null, .null, .null, .null, .null, .long 0, .long 0, .int 0]))] s.heap := hP
  have hl := lv_entry ([.ref q0, .ref no]) (n := 2) (Nat.le_of_ble_eq_true rfl)
  rw [lg_entry_eq]
  generalize (lg_sl ([.ref q0, .ref no]) ++ List.replicate (2 - (lg_sl ([.ref q0, .ref no])).length) Slot.unset).toArray = ls at hl ⊢
  have hl : lv_has ls 2 [(0, .ref q0), (1, .ref no)] := hl
  refine lv_aload_n hx hb d_Paper_init_0 rfl (lv_at hl 0 rfl) ?_
  refine W.objInit hx hb hown (htb _ q2_115) (htb _ q1_39) (htb _ q1_40) rfl (by rw [hml]; exact hl.1) rfl d_Paper_init_1 (Nat.le_of_ble_eq_true rfl) (Nat.le_of_ble_eq_true rfl) ?_
  refine W.eq (g2 := F0 m 4 ls []) rfl ?_
  refine lv_aload_n hx hb d_Paper_init_4 rfl (lv_at hl 0 rfl) ?_
  refine lv_bipush (v := 8) hx hb d_Paper_init_5 (by decide) ?_
  refine va_newa (atype := .int) (ty := .int) (a0 := (8, .inl (fun _ => 0))) hx hb (htb _ q1_78) rfl hK hP hD hS hA (fun _ => rfl) (by decide) (by decide) (by decide) (Nat.le_of_ble_eq_true rfl) (Nat.le_of_ble_eq_true rfl) d_Paper_init_7 (fun q7 cA7 H7 hKn hP hD hS => ?_)
  obtain rfl : cI = cA7 := arr_uniq hKn 0 1 rfl rfl (by simp)
  have hP : va_P (dC, dI) classes [(q0, .inr (3, [.null, .null, .null, .null, .null, .null, .null, .null, .int 0, .int 0, .int 0, .int 0, .int 0, .int 0, .int 0, .int 0, .int 0, .int 0, .int 0, .null, .null, .null, .null, .null, .null, .long 0, .long 0, .int 0])), (q7, .inl (cI, 8, .inl (fun _ => 0)))] H7 := hP
  have hD : va_D A [(q0, .inr (3, [.null, .null, .null, .null, .null, .null, .null, .null, .int 0, .int 0, .int 0, .int 0, .int 0, .int 0, .int 0, .int 0, .int 0, .int 0, .int 0, .null, .null, .null, .null, .null, .null, .long 0, .long 0, .int 0])), (q7, .inl (cI, 8, .inl (fun _ => 0)))] := hD
  refine va_putF (v := .ref q7) (ty := (.array .int)) hx hb htb i_Certificate t_Certificate t_Certificate_ok n_Certificate hown hK hP hD hS 0 rfl rfl 19 (by decide) (htb _ q2_192) (fun _ h9 => h9) rfl hin rfl (by decide +kernel) rfl rfl (Nat.le_of_ble_eq_true rfl) d_Paper_init_9 (fun H9 locs hP hD hS => ?_)
  have hP : va_P (dC, dI) classes [(q0, .inr (3, [.null, .null, .null, .null, .null, .null, .null, .null, .int 0, .int 0, .int 0, .int 0, .int 0, .int 0, .int 0, .int 0, .int 0, .int 0, .int 0, .ref q7, .null, .null, .null, .null, .null, .long 0, .long 0, .int 0])), (q7, .inl (cI, 8, .inl (fun _ => 0)))] H9 := hP
  have hD : va_D A [(q0, .inr (3, [.null, .null, .null, .null, .null, .null, .null, .null, .int 0, .int 0, .int 0, .int 0, .int 0, .int 0, .int 0, .int 0, .int 0, .int 0, .int 0, .ref q7, .null, .null, .null, .null, .null, .long 0, .long 0, .int 0])), (q7, .inl (cI, 8, .inl (fun _ => 0)))] := hD
  refine lv_aload_n hx hb d_Paper_init_12 rfl (lv_at hl 0 rfl) ?_
  refine lv_bipush (v := 16) hx hb d_Paper_init_13 (by decide) ?_
  refine va_newa (atype := .int) (ty := .int) (a0 := (16, .inl (fun _ => 0))) hx hb (htb _ q1_78) rfl hK hP hD hS hA (fun _ => rfl) (by decide) (by decide) (by decide) (Nat.le_of_ble_eq_true rfl) (Nat.le_of_ble_eq_true rfl) d_Paper_init_15 (fun q15 cA15 H15 hKn hP hD hS => ?_)
  obtain rfl : cI = cA15 := arr_uniq hKn 0 1 rfl rfl (by simp)
  have hP : va_P (dC, dI) classes [(q0, .inr (3, [.null, .null, .null, .null, .null, .null, .null, .null, .int 0, .int 0, .int 0, .int 0, .int 0, .int 0, .int 0, .int 0, .int 0, .int 0, .int 0, .ref q7, .null, .null, .null, .null, .null, .long 0, .long 0, .int 0])), (q7, .inl (cI, 8, .inl (fun _ => 0))), (q15, .inl (cI, 16, .inl (fun _ => 0)))] H15 := hP
  have hD : va_D A [(q0, .inr (3, [.null, .null, .null, .null, .null, .null, .null, .null, .int 0, .int 0, .int 0, .int 0, .int 0, .int 0, .int 0, .int 0, .int 0, .int 0, .int 0, .ref q7, .null, .null, .null, .null, .null, .long 0, .long 0, .int 0])), (q7, .inl (cI, 8, .inl (fun _ => 0))), (q15, .inl (cI, 16, .inl (fun _ => 0)))] := hD
  refine va_putF (v := .ref q15) (ty := (.array .int)) hx hb htb i_Certificate t_Certificate t_Certificate_ok n_Certificate hown hK hP hD hS 0 rfl rfl 20 (by decide) (htb _ q2_197) (fun _ h9 => h9) rfl hin rfl (by decide +kernel) rfl rfl (Nat.le_of_ble_eq_true rfl) d_Paper_init_17 (fun H17 locs hP hD hS => ?_)
  have hP : va_P (dC, dI) classes [(q0, .inr (3, [.null, .null, .null, .null, .null, .null, .null, .null, .int 0, .int 0, .int 0, .int 0, .int 0, .int 0, .int 0, .int 0, .int 0, .int 0, .int 0, .ref q7, .ref q15, .null, .null, .null, .null, .long 0, .long 0, .int 0])), (q7, .inl (cI, 8, .inl (fun _ => 0))), (q15, .inl (cI, 16, .inl (fun _ => 0)))] H17 := hP
  have hD : va_D A [(q0, .inr (3, [.null, .null, .null, .null, .null, .null, .null, .null, .int 0, .int 0, .int 0, .int 0, .int 0, .int 0, .int 0, .int 0, .int 0, .int 0, .int 0, .ref q7, .ref q15, .null, .null, .null, .null, .long 0, .long 0, .int 0])), (q7, .inl (cI, 8, .inl (fun _ => 0))), (q15, .inl (cI, 16, .inl (fun _ => 0)))] := hD
  refine lv_aload_n hx hb d_Paper_init_20 rfl (lv_at hl 0 rfl) ?_
  refine va_new (ci := 11) (fs := [.null, .int 0, .int 0]) hx hb htb i_AL t_AL t_AL_ok hown (htb _ q2_116) (htb _ q1_42) (htb _ q1_4) hK hP hD hS hA rfl (fun j hj => by rcases (show j = 0 ∨ j = 1 ∨ j = 2 by omega) with rfl | rfl | rfl <;> rfl) (Nat.le_of_ble_eq_true rfl) (Nat.le_of_ble_eq_true rfl) d_Paper_init_21 (fun q21 H21 hP hD hS => ?_)
  have hP : va_P (dC, dI) classes [(q0, .inr (3, [.null, .null, .null, .null, .null, .null, .null, .null, .int 0, .int 0, .int 0, .int 0, .int 0, .int 0, .int 0, .int 0, .int 0, .int 0, .int 0, .ref q7, .ref q15, .null, .null, .null, .null, .long 0, .long 0, .int 0])), (q7, .inl (cI, 8, .inl (fun _ => 0))), (q15, .inl (cI, 16, .inl (fun _ => 0))), (q21, .inr (11, [.null, .int 0, .int 0]))] H21 := hP
  have hD : va_D A [(q0, .inr (3, [.null, .null, .null, .null, .null, .null, .null, .null, .int 0, .int 0, .int 0, .int 0, .int 0, .int 0, .int 0, .int 0, .int 0, .int 0, .int 0, .ref q7, .ref q15, .null, .null, .null, .null, .long 0, .long 0, .int 0])), (q7, .inl (cI, 8, .inl (fun _ => 0))), (q15, .inl (cI, 16, .inl (fun _ => 0))), (q21, .inr (11, [.null, .int 0, .int 0]))] := hD
  refine lv_dup hx hb d_Paper_init_24 rfl ?_
  have hFc := va_free (wc := [(q21, .inr (11, [.null, .int 0, .int 0]))]) hD hS hA [3] rfl
  refine va_callv (mu_runI (As := []) (rest := [.ref q21, .ref q0]) ⟨hx, hb, hml, hown, hts⟩ tbin (c_AL_init l dC dI sb q21  H21.size) q2_117 q1_44 q1_4 q1_45 rfl (n := 0) (by decide +kernel) rfl ⟨rfl, rfl⟩ ⟨Nat.le_of_ble_eq_true rfl, Nat.le_of_ble_eq_true rfl⟩ ⟨Nat.le_of_ble_eq_true rfl, Nat.le_of_ble_eq_true rfl⟩ hN (hT0.keep hS hAs) hAs (Nat.le_trans hB0 hS.1) hK hP hD [3] (by decide) rfl [] rfl hl.1 rfl (Nat.le_of_ble_eq_true rfl) d_Paper_init_25) hS (fun q _ h => hFc q h) hFc (fun u25 tS H25 locs ht hvm hw25 hB hz1 hk1 hS => ?_)
  skip
  obtain ⟨hP1, hK1, hD1⟩ := hB
  rw [ht] at hP1
  obtain ⟨hP, hD⟩ := va_join (wr := [(q0, .inr (3, [.null, .null, .null, .null, .null, .null, .null, .null, .int 0, .int 0, .int 0, .int 0, .int 0, .int 0, .int 0, .int 0, .int 0, .int 0, .int 0, .ref q7, .ref q15, .null, .null, .null, .null, .long 0, .long 0, .int 0])), (q7, .inl (cI, 8, .inl (fun _ => 0))), (q15, .inl (cI, 16, .inl (fun _ => 0)))]) (w1 := [(q21, .inr (11, [.ref (sb.2 5), .int 0, .int 0]))]) hP hD [3] [0, 1, 2] rfl rfl (by decide) (by decide) hk1 hFc hP1 hD1
  have hP : va_P (dC, dI) classes [(q0, .inr (3, [.null, .null, .null, .null, .null, .null, .null, .null, .int 0, .int 0, .int 0, .int 0, .int 0, .int 0, .int 0, .int 0, .int 0, .int 0, .int 0, .ref q7, .ref q15, .null, .null, .null, .null, .long 0, .long 0, .int 0])), (q7, .inl (cI, 8, .inl (fun _ => 0))), (q15, .inl (cI, 16, .inl (fun _ => 0))), (q21, .inr (11, [.ref (sb.2 5), .int 0, .int 0]))] H25 := hP
  have hD : va_D A [(q0, .inr (3, [.null, .null, .null, .null, .null, .null, .null, .null, .int 0, .int 0, .int 0, .int 0, .int 0, .int 0, .int 0, .int 0, .int 0, .int 0, .int 0, .ref q7, .ref q15, .null, .null, .null, .null, .long 0, .long 0, .int 0])), (q7, .inl (cI, 8, .inl (fun _ => 0))), (q15, .inl (cI, 16, .inl (fun _ => 0))), (q21, .inr (11, [.ref (sb.2 5), .int 0, .int 0]))] := hD
  refine va_putF (v := .ref q21) (ty := (.object "java/util/ArrayList")) hx hb htb i_Certificate t_Certificate t_Certificate_ok n_Certificate hown hK hP hD hS 0 rfl rfl 21 (by decide) (htb _ q2_199) (fun _ h9 => h9) rfl hin rfl (by decide +kernel) rfl rfl (Nat.le_of_ble_eq_true rfl) d_Paper_init_28 (fun H28 locs hP hD hS => ?_)
  have hP : va_P (dC, dI) classes [(q0, .inr (3, [.null, .null, .null, .null, .null, .null, .null, .null, .int 0, .int 0, .int 0, .int 0, .int 0, .int 0, .int 0, .int 0, .int 0, .int 0, .int 0, .ref q7, .ref q15, .ref q21, .null, .null, .null, .long 0, .long 0, .int 0])), (q7, .inl (cI, 8, .inl (fun _ => 0))), (q15, .inl (cI, 16, .inl (fun _ => 0))), (q21, .inr (11, [.ref (sb.2 5), .int 0, .int 0]))] H28 := hP
  have hD : va_D A [(q0, .inr (3, [.null, .null, .null, .null, .null, .null, .null, .null, .int 0, .int 0, .int 0, .int 0, .int 0, .int 0, .int 0, .int 0, .int 0, .int 0, .int 0, .ref q7, .ref q15, .ref q21, .null, .null, .null, .long 0, .long 0, .int 0])), (q7, .inl (cI, 8, .inl (fun _ => 0))), (q15, .inl (cI, 16, .inl (fun _ => 0))), (q21, .inr (11, [.ref (sb.2 5), .int 0, .int 0]))] := hD
  refine lv_aload_n hx hb d_Paper_init_31 rfl (lv_at hl 0 rfl) ?_
  refine lv_lconst (v := 0) hx hb d_Paper_init_32 (by decide) ?_
  refine va_put (v := .long 0) (ty := .long) hx hb htb i_Certificate t_Certificate t_Certificate_ok n_Certificate hown hK hP hD hS 0 rfl rfl 25 (by decide) (htb _ q2_218) (fun _ h9 => h9) rfl (by decide +kernel) rfl rfl (Nat.le_of_ble_eq_true rfl) d_Paper_init_33 (fun H33 locs hP hD hS => ?_)
  have hP : va_P (dC, dI) classes [(q0, .inr (3, [.null, .null, .null, .null, .null, .null, .null, .null, .int 0, .int 0, .int 0, .int 0, .int 0, .int 0, .int 0, .int 0, .int 0, .int 0, .int 0, .ref q7, .ref q15, .ref q21, .null, .null, .null, .long 0, .long 0, .int 0])), (q7, .inl (cI, 8, .inl (fun _ => 0))), (q15, .inl (cI, 16, .inl (fun _ => 0))), (q21, .inr (11, [.ref (sb.2 5), .int 0, .int 0]))] H33 := hP
  have hD : va_D A [(q0, .inr (3, [.null, .null, .null, .null, .null, .null, .null, .null, .int 0, .int 0, .int 0, .int 0, .int 0, .int 0, .int 0, .int 0, .int 0, .int 0, .int 0, .ref q7, .ref q15, .ref q21, .null, .null, .null, .long 0, .long 0, .int 0])), (q7, .inl (cI, 8, .inl (fun _ => 0))), (q15, .inl (cI, 16, .inl (fun _ => 0))), (q21, .inr (11, [.ref (sb.2 5), .int 0, .int 0]))] := hD
  refine lv_aload_n hx hb d_Paper_init_36 rfl (lv_at hl 0 rfl) ?_
  refine lv_lconst (v := 0) hx hb d_Paper_init_37 (by decide) ?_
  refine va_put (v := .long 0) (ty := .long) hx hb htb i_Certificate t_Certificate t_Certificate_ok n_Certificate hown hK hP hD hS 0 rfl rfl 26 (by decide) (htb _ q2_224) (fun _ h9 => h9) rfl (by decide +kernel) rfl rfl (Nat.le_of_ble_eq_true rfl) d_Paper_init_38 (fun H38 locs hP hD hS => ?_)
  have hP : va_P (dC, dI) classes [(q0, .inr (3, [.null, .null, .null, .null, .null, .null, .null, .null, .int 0, .int 0, .int 0, .int 0, .int 0, .int 0, .int 0, .int 0, .int 0, .int 0, .int 0, .ref q7, .ref q15, .ref q21, .null, .null, .null, .long 0, .long 0, .int 0])), (q7, .inl (cI, 8, .inl (fun _ => 0))), (q15, .inl (cI, 16, .inl (fun _ => 0))), (q21, .inr (11, [.ref (sb.2 5), .int 0, .int 0]))] H38 := hP
  have hD : va_D A [(q0, .inr (3, [.null, .null, .null, .null, .null, .null, .null, .null, .int 0, .int 0, .int 0, .int 0, .int 0, .int 0, .int 0, .int 0, .int 0, .int 0, .int 0, .ref q7, .ref q15, .ref q21, .null, .null, .null, .long 0, .long 0, .int 0])), (q7, .inl (cI, 8, .inl (fun _ => 0))), (q15, .inl (cI, 16, .inl (fun _ => 0))), (q21, .inr (11, [.ref (sb.2 5), .int 0, .int 0]))] := hD
  refine lv_aload_n hx hb d_Paper_init_41 rfl (lv_at hl 0 rfl) ?_
  refine lv_iconst (v := 0) hx hb d_Paper_init_42 (by decide) ?_
  refine va_put (v := .int 0) (ty := .int) hx hb htb i_Certificate t_Certificate t_Certificate_ok n_Certificate hown hK hP hD hS 0 rfl rfl 27 (by decide) (htb _ q2_230) (fun _ h9 => h9) rfl (by decide +kernel) rfl rfl (Nat.le_of_ble_eq_true rfl) d_Paper_init_43 (fun H43 locs hP hD hS => ?_)
  have hP : va_P (dC, dI) classes [(q0, .inr (3, [.null, .null, .null, .null, .null, .null, .null, .null, .int 0, .int 0, .int 0, .int 0, .int 0, .int 0, .int 0, .int 0, .int 0, .int 0, .int 0, .ref q7, .ref q15, .ref q21, .null, .null, .null, .long 0, .long 0, .int 0])), (q7, .inl (cI, 8, .inl (fun _ => 0))), (q15, .inl (cI, 16, .inl (fun _ => 0))), (q21, .inr (11, [.ref (sb.2 5), .int 0, .int 0]))] H43 := hP
  have hD : va_D A [(q0, .inr (3, [.null, .null, .null, .null, .null, .null, .null, .null, .int 0, .int 0, .int 0, .int 0, .int 0, .int 0, .int 0, .int 0, .int 0, .int 0, .int 0, .ref q7, .ref q15, .ref q21, .null, .null, .null, .long 0, .long 0, .int 0])), (q7, .inl (cI, 8, .inl (fun _ => 0))), (q15, .inl (cI, 16, .inl (fun _ => 0))), (q21, .inr (11, [.ref (sb.2 5), .int 0, .int 0]))] := hD
  refine lv_aload_n hx hb d_Paper_init_46 rfl (lv_at hl 0 rfl) ?_
  refine lv_aload_n hx hb d_Paper_init_47 rfl (lv_at hl 1 rfl) ?_
  refine va_put (v := .ref no) (ty := (.object "TrustChain$Slice")) hx hb htb i_Certificate t_Certificate t_Certificate_ok n_Certificate hown hK hP hD hS 0 rfl rfl 22 (by decide) (htb _ q2_202) (fun _ h9 => h9) rfl (by decide +kernel) rfl rfl (Nat.le_of_ble_eq_true rfl) d_Paper_init_48 (fun H48 locs hP hD hS => ?_)
  have hP : va_P (dC, dI) classes [(q0, .inr (3, [.null, .null, .null, .null, .null, .null, .null, .null, .int 0, .int 0, .int 0, .int 0, .int 0, .int 0, .int 0, .int 0, .int 0, .int 0, .int 0, .ref q7, .ref q15, .ref q21, .ref no, .null, .null, .long 0, .long 0, .int 0])), (q7, .inl (cI, 8, .inl (fun _ => 0))), (q15, .inl (cI, 16, .inl (fun _ => 0))), (q21, .inr (11, [.ref (sb.2 5), .int 0, .int 0]))] H48 := hP
  have hD : va_D A [(q0, .inr (3, [.null, .null, .null, .null, .null, .null, .null, .null, .int 0, .int 0, .int 0, .int 0, .int 0, .int 0, .int 0, .int 0, .int 0, .int 0, .int 0, .ref q7, .ref q15, .ref q21, .ref no, .null, .null, .long 0, .long 0, .int 0])), (q7, .inl (cI, 8, .inl (fun _ => 0))), (q15, .inl (cI, 16, .inl (fun _ => 0))), (q21, .inr (11, [.ref (sb.2 5), .int 0, .int 0]))] := hD
  refine lv_aload_n hx hb d_Paper_init_51 rfl (lv_at hl 0 rfl) ?_
  refine lv_aload_n hx hb d_Paper_init_52 rfl (lv_at hl 1 rfl) ?_
  refine va_put (v := .ref no) (ty := (.object "TrustChain$Slice")) hx hb htb i_Certificate t_Certificate t_Certificate_ok n_Certificate hown hK hP hD hS 0 rfl rfl 23 (by decide) (htb _ q2_208) (fun _ h9 => h9) rfl (by decide +kernel) rfl rfl (Nat.le_of_ble_eq_true rfl) d_Paper_init_53 (fun H53 locs hP hD hS => ?_)
  have hP : va_P (dC, dI) classes [(q0, .inr (3, [.null, .null, .null, .null, .null, .null, .null, .null, .int 0, .int 0, .int 0, .int 0, .int 0, .int 0, .int 0, .int 0, .int 0, .int 0, .int 0, .ref q7, .ref q15, .ref q21, .ref no, .ref no, .null, .long 0, .long 0, .int 0])), (q7, .inl (cI, 8, .inl (fun _ => 0))), (q15, .inl (cI, 16, .inl (fun _ => 0))), (q21, .inr (11, [.ref (sb.2 5), .int 0, .int 0]))] H53 := hP
  have hD : va_D A [(q0, .inr (3, [.null, .null, .null, .null, .null, .null, .null, .null, .int 0, .int 0, .int 0, .int 0, .int 0, .int 0, .int 0, .int 0, .int 0, .int 0, .int 0, .ref q7, .ref q15, .ref q21, .ref no, .ref no, .null, .long 0, .long 0, .int 0])), (q7, .inl (cI, 8, .inl (fun _ => 0))), (q15, .inl (cI, 16, .inl (fun _ => 0))), (q21, .inr (11, [.ref (sb.2 5), .int 0, .int 0]))] := hD
  refine lv_aload_n hx hb d_Paper_init_56 rfl (lv_at hl 0 rfl) ?_
  refine lv_aload_n hx hb d_Paper_init_57 rfl (lv_at hl 1 rfl) ?_
  refine va_put (v := .ref no) (ty := (.object "TrustChain$Slice")) hx hb htb i_Certificate t_Certificate t_Certificate_ok n_Certificate hown hK hP hD hS 0 rfl rfl 24 (by decide) (htb _ q2_211) (fun _ h9 => h9) rfl (by decide +kernel) rfl rfl (Nat.le_of_ble_eq_true rfl) d_Paper_init_58 (fun H58 locs hP hD hS => ?_)
  have hP : va_P (dC, dI) classes [(q0, .inr (3, [.null, .null, .null, .null, .null, .null, .null, .null, .int 0, .int 0, .int 0, .int 0, .int 0, .int 0, .int 0, .int 0, .int 0, .int 0, .int 0, .ref q7, .ref q15, .ref q21, .ref no, .ref no, .ref no, .long 0, .long 0, .int 0])), (q7, .inl (cI, 8, .inl (fun _ => 0))), (q15, .inl (cI, 16, .inl (fun _ => 0))), (q21, .inr (11, [.ref (sb.2 5), .int 0, .int 0]))] H58 := hP
  have hD : va_D A [(q0, .inr (3, [.null, .null, .null, .null, .null, .null, .null, .null, .int 0, .int 0, .int 0, .int 0, .int 0, .int 0, .int 0, .int 0, .int 0, .int 0, .int 0, .ref q7, .ref q15, .ref q21, .ref no, .ref no, .ref no, .long 0, .long 0, .int 0])), (q7, .inl (cI, 8, .inl (fun _ => 0))), (q15, .inl (cI, 16, .inl (fun _ => 0))), (q21, .inr (11, [.ref (sb.2 5), .int 0, .int 0]))] := hD
  exact W.vret hx hb hr (fun t ht hW => ⟨⟨(q7, q15, q21), rfl, trivial, by rw [ht]; exact hP, va_K.moved hW.alike hK, hD⟩, hS.F ht⟩) hS.2.2 d_Paper_init_61
def y_Certificate_init : MethodName := ⟨"TrustChain$Certificate", "<init>", "(LTrustChain$Slice;)V"⟩
abbrev b_Certificate_init : ByteArray := prog_2_method_1_code
def w_Certificate_init : List Cond := Cond.code y_Certificate_init b_Certificate_init 2 (none) :: tb
theorem d_Certificate_init_0 : decode b_Certificate_init 0 = .ok (.aload_n 0, 1) := by decide +kernel
theorem d_Certificate_init_1 : decode b_Certificate_init 1 = .ok (.aload_n 1, 1) := by decide +kernel
theorem d_Certificate_init_2 : decode b_Certificate_init 2 = .ok (.invokespecial 3, 3) := by decide +kernel
theorem d_Certificate_init_5 : decode b_Certificate_init 5 = .ok (.aload_n 0, 1) := by decide +kernel
theorem d_Certificate_init_6 : decode b_Certificate_init 6 = .ok (.new 9, 3) := by decide +kernel
theorem d_Certificate_init_9 : decode b_Certificate_init 9 = .ok (.dup, 1) := by decide +kernel
theorem d_Certificate_init_10 : decode b_Certificate_init 10 = .ok (.invokespecial 11, 3) := by decide +kernel
theorem d_Certificate_init_13 : decode b_Certificate_init 13 = .ok (.putfield 14, 3) := by decide +kernel
theorem d_Certificate_init_16 : decode b_Certificate_init 16 = .ok (.aload_n 0, 1) := by decide +kernel
theorem d_Certificate_init_17 : decode b_Certificate_init 17 = .ok (.new 9, 3) := by decide +kernel
theorem d_Certificate_init_20 : decode b_Certificate_init 20 = .ok (.dup, 1) := by decide +kernel
theorem d_Certificate_init_21 : decode b_Certificate_init 21 = .ok (.invokespecial 11, 3) := by decide +kernel
theorem d_Certificate_init_24 : decode b_Certificate_init 24 = .ok (.putfield 20, 3) := by decide +kernel
theorem d_Certificate_init_27 : decode b_Certificate_init 27 = .ok (.aload_n 0, 1) := by decide +kernel
theorem d_Certificate_init_28 : decode b_Certificate_init 28 = .ok (.new 9, 3) := by decide +kernel
theorem d_Certificate_init_31 : decode b_Certificate_init 31 = .ok (.dup, 1) := by decide +kernel
theorem d_Certificate_init_32 : decode b_Certificate_init 32 = .ok (.invokespecial 11, 3) := by decide +kernel
theorem d_Certificate_init_35 : decode b_Certificate_init 35 = .ok (.putfield 23, 3) := by decide +kernel
theorem d_Certificate_init_38 : decode b_Certificate_init 38 = .ok (.aload_n 0, 1) := by decide +kernel
theorem d_Certificate_init_39 : decode b_Certificate_init 39 = .ok (.iconst 0, 1) := by decide +kernel
theorem d_Certificate_init_40 : decode b_Certificate_init 40 = .ok (.putfield 26, 3) := by decide +kernel
theorem d_Certificate_init_43 : decode b_Certificate_init 43 = .ok (.aload_n 0, 1) := by decide +kernel
theorem d_Certificate_init_44 : decode b_Certificate_init 44 = .ok (.iconst 0, 1) := by decide +kernel
theorem d_Certificate_init_45 : decode b_Certificate_init 45 = .ok (.putfield 30, 3) := by decide +kernel
theorem d_Certificate_init_48 : decode b_Certificate_init 48 = .ok (.aload_n 0, 1) := by decide +kernel
theorem d_Certificate_init_49 : decode b_Certificate_init 49 = .ok (.iconst 0, 1) := by decide +kernel
theorem d_Certificate_init_50 : decode b_Certificate_init 50 = .ok (.putfield 33, 3) := by decide +kernel
theorem d_Certificate_init_53 : decode b_Certificate_init 53 = .ok (.aload_n 0, 1) := by decide +kernel
theorem d_Certificate_init_54 : decode b_Certificate_init 54 = .ok (.iconst 0, 1) := by decide +kernel
theorem d_Certificate_init_55 : decode b_Certificate_init 55 = .ok (.putfield 36, 3) := by decide +kernel
theorem d_Certificate_init_58 : decode b_Certificate_init 58 = .ok (.aload_n 0, 1) := by decide +kernel
theorem d_Certificate_init_59 : decode b_Certificate_init 59 = .ok (.iconst (-1), 1) := by decide +kernel
theorem d_Certificate_init_60 : decode b_Certificate_init 60 = .ok (.putfield 40, 3) := by decide +kernel
theorem d_Certificate_init_63 : decode b_Certificate_init 63 = .ok (.aload_n 0, 1) := by decide +kernel
theorem d_Certificate_init_64 : decode b_Certificate_init 64 = .ok (.iconst (-1), 1) := by decide +kernel
theorem d_Certificate_init_65 : decode b_Certificate_init 65 = .ok (.putfield 43, 3) := by decide +kernel
theorem d_Certificate_init_68 : decode b_Certificate_init 68 = .ok (.aload_n 0, 1) := by decide +kernel
theorem d_Certificate_init_69 : decode b_Certificate_init 69 = .ok (.iconst 0, 1) := by decide +kernel
theorem d_Certificate_init_70 : decode b_Certificate_init 70 = .ok (.putfield 46, 3) := by decide +kernel
theorem d_Certificate_init_73 : decode b_Certificate_init 73 = .ok (.aload_n 0, 1) := by decide +kernel
theorem d_Certificate_init_74 : decode b_Certificate_init 74 = .ok (.iconst 0, 1) := by decide +kernel
theorem d_Certificate_init_75 : decode b_Certificate_init 75 = .ok (.putfield 49, 3) := by decide +kernel
theorem d_Certificate_init_78 : decode b_Certificate_init 78 = .ok (.aload_n 0, 1) := by decide +kernel
theorem d_Certificate_init_79 : decode b_Certificate_init 79 = .ok (.iconst 0, 1) := by decide +kernel
theorem d_Certificate_init_80 : decode b_Certificate_init 80 = .ok (.putfield 52, 3) := by decide +kernel
theorem d_Certificate_init_83 : decode b_Certificate_init 83 = .ok (.aload_n 0, 1) := by decide +kernel
theorem d_Certificate_init_84 : decode b_Certificate_init 84 = .ok (.iconst 0, 1) := by decide +kernel
theorem d_Certificate_init_85 : decode b_Certificate_init 85 = .ok (.putfield 55, 3) := by decide +kernel
theorem d_Certificate_init_88 : decode b_Certificate_init 88 = .ok (.aload_n 0, 1) := by decide +kernel
theorem d_Certificate_init_89 : decode b_Certificate_init 89 = .ok (.iconst 0, 1) := by decide +kernel
theorem d_Certificate_init_90 : decode b_Certificate_init 90 = .ok (.putfield 58, 3) := by decide +kernel
theorem d_Certificate_init_93 : decode b_Certificate_init 93 = .ok (.aload_n 0, 1) := by decide +kernel
theorem d_Certificate_init_94 : decode b_Certificate_init 94 = .ok (.aload_n 1, 1) := by decide +kernel
theorem d_Certificate_init_95 : decode b_Certificate_init 95 = .ok (.putfield 61, 3) := by decide +kernel
theorem d_Certificate_init_98 : decode b_Certificate_init 98 = .ok (.aload_n 0, 1) := by decide +kernel
theorem d_Certificate_init_99 : decode b_Certificate_init 99 = .ok (.aload_n 1, 1) := by decide +kernel
theorem d_Certificate_init_100 : decode b_Certificate_init 100 = .ok (.putfield 65, 3) := by decide +kernel
theorem d_Certificate_init_103 : decode b_Certificate_init 103 = .ok (.aload_n 0, 1) := by decide +kernel
theorem d_Certificate_init_104 : decode b_Certificate_init 104 = .ok (.aload_n 1, 1) := by decide +kernel
theorem d_Certificate_init_105 : decode b_Certificate_init 105 = .ok (.putfield 68, 3) := by decide +kernel
theorem d_Certificate_init_108 : decode b_Certificate_init 108 = .ok (.aload_n 0, 1) := by decide +kernel
theorem d_Certificate_init_109 : decode b_Certificate_init 109 = .ok (.aload_n 1, 1) := by decide +kernel
theorem d_Certificate_init_110 : decode b_Certificate_init 110 = .ok (.putfield 71, 3) := by decide +kernel
theorem d_Certificate_init_113 : decode b_Certificate_init 113 = .ok (.aload_n 0, 1) := by decide +kernel
theorem d_Certificate_init_114 : decode b_Certificate_init 114 = .ok (.aload_n 1, 1) := by decide +kernel
theorem d_Certificate_init_115 : decode b_Certificate_init 115 = .ok (.putfield 74, 3) := by decide +kernel
theorem d_Certificate_init_118 : decode b_Certificate_init 118 = .ok (.return_, 1) := by decide +kernel
set_option maxHeartbeats 4000000 in
set_option maxRecDepth 100000 in
theorem c_Cert_init (l : Launch) (dC : Nat → ClassId) (dI : Nat → Nat → Nat) (sb : sB) (q0 : Nat) (no : Nat) (cI : ClassId) (sz : Nat) : Met l y_Certificate_init w_Certificate_init ({ frames := 5, cells := 12, slots := 51, locals := 101 }) (mu_P [.ref q0, .ref no] (dC, dI) sb [(q0, .inr (3, [.null, .null, .null, .null, .null, .null, .null, .null, .int 0, .int 0, .int 0, .int 0, .int 0, .int 0, .int 0, .int 0, .int 0, .int 0, .int 0, .null, .null, .null, .null, .null, .null, .long 0, .long 0, .int 0]))] [(cI, .int)] sz) (va_Qv (fun (_u : Nat × Nat × Nat × Nat × Nat × Nat × Nat × Nat × Nat × Nat × Nat × Nat) => True) (mu_B (dC, dI) [(cI, .int)] (va_A [(q0, .inr (3, [.null, .null, .null, .null, .null, .null, .null, .null, .int 0, .int 0, .int 0, .int 0, .int 0, .int 0, .int 0, .int 0, .int 0, .int 0, .int 0, .null, .null, .null, .null, .null, .null, .long 0, .long 0, .int 0]))] sz) (fun u' : Nat × Nat × Nat × Nat × Nat × Nat × Nat × Nat × Nat × Nat × Nat × Nat => [(q0, .inr (3, [.ref u'.2.2.2.1, .ref u'.2.2.2.2.2.2.1, .ref u'.2.2.2.2.2.2.2.2.2.1, .ref no, .ref no, .ref no, .ref no, .ref no, .int 0, .int 0, .int 0, .int 0, .int (-1), .int (-1), .int 0, .int 0, .int 0, .int 0, .int 0, .ref u'.1, .ref u'.2.1, .ref u'.2.2.1, .ref no, .ref no, .ref no, .long 0, .long 0, .int 0])), (u'.1, .inl (cI, 8, .inl (fun _ => 0))), (u'.2.1, .inl (cI, 16, .inl (fun _ => 0))), (u'.2.2.1, .inr (11, [.ref (sb.2 5), .int 0, .int 0])), (u'.2.2.2.1, .inr (1, [.ref u'.2.2.2.2.1, .ref u'.2.2.2.2.2.1])), (u'.2.2.2.2.1, .inr (11, [.ref (sb.2 5), .int 0, .int 0])), (u'.2.2.2.2.2.1, .inr (11, [.ref (sb.2 5), .int 0, .int 0])), (u'.2.2.2.2.2.2.1, .inr (1, [.ref u'.2.2.2.2.2.2.2.1, .ref u'.2.2.2.2.2.2.2.2.1])), (u'.2.2.2.2.2.2.2.1, .inr (11, [.ref (sb.2 5), .int 0, .int 0])), (u'.2.2.2.2.2.2.2.2.1, .inr (11, [.ref (sb.2 5), .int 0, .int 0])), (u'.2.2.2.2.2.2.2.2.2.1, .inr (1, [.ref u'.2.2.2.2.2.2.2.2.2.2.1, .ref u'.2.2.2.2.2.2.2.2.2.2.2])), (u'.2.2.2.2.2.2.2.2.2.2.1, .inr (11, [.ref (sb.2 5), .int 0, .int 0])), (u'.2.2.2.2.2.2.2.2.2.2.2, .inr (11, [.ref (sb.2 5), .int 0, .int 0]))])) (va_A [(q0, .inr (3, [.null, .null, .null, .null, .null, .null, .null, .null, .int 0, .int 0, .int 0, .int 0, .int 0, .int 0, .int 0, .int 0, .int 0, .int 0, .int 0, .null, .null, .null, .null, .null, .null, .long 0, .long 0, .int 0]))] sz)) 12 51 (va_A [(q0, .inr (3, [.null, .null, .null, .null, .null, .null, .null, .null, .int 0, .int 0, .int 0, .int 0, .int 0, .int 0, .int 0, .int 0, .int 0, .int 0, .int 0, .null, .null, .null, .null, .null, .null, .long 0, .long 0, .int 0]))] sz) := by
  refine Met.ofW (cc := b_Certificate_init) (maxL := 2) (ret := none) (by decide) rfl ?_
  intro p e s m args below meth c s₁ B hml hv
  obtain ⟨rfl, hsz, hB0, hP, hK, hD0, hN, hT0⟩ := hv
  have hx := B.exec
  have hb := B.bytes
  have hr := B.returns
  have hts := atoms_spec (ws := w_Certificate_init) B.pre
  have tbin : ∀ w ∈ tb, w ∈ w_Certificate_init := fun w h => List.mem_cons_of_mem _ h
  have htb : ∀ w ∈ tb, w.before _ s = true := fun w h => hts w (tbin w h)
  have hown : s.vm.findClass "TrustChain$Certificate" = some m.cls := findClass_of_methodNamed B.named
  have hlocks := B.notSynchronized
  have hin : meth.name = "<init>" := (name_of_methodNamed B.named B.method).1
  subst hsz
  have hD := hD0.self (sz := s.heap.size)
  generalize hAe : va_A [(q0, .inr (3, [.null, .null, .null, .null, .null, .null, .null, .null, .int 0, .int 0, .int 0, .int 0, .int 0, .int 0, .int 0, .int 0, .int 0, .int 0, .int 0, .null, .null, .null, .null, .null, .null, .long 0, .long 0, .int 0]))] s.heap.size = A at hD ⊢
  have hA : ∀ q : Nat, s.heap.size ≤ q → A q := fun q h => by rw [← hAe]; exact Or.inr h
  have hAs : ∀ q : Nat, A q → sb.1 ≤ q := fun q h => by
    rw [← hAe] at h
    rcases h with ⟨k, e, h⟩ | h
    · exact hD0.2 k _ h
    · exact Nat.le_trans hB0 h
  have hS : va_S A s.heap s.heap [] := va_S.rf
  have hcs : 12 ≤ (headSpec w_Certificate_init ({ frames := 5, cells := 12, slots := 51, locals := 101 })).room.cells ∧ 51 ≤ (headSpec w_Certificate_init ({ frames := 5, cells := 12, slots := 51, locals := 101 })).room.slots := ⟨Nat.le_refl _, Nat.le_refl _⟩
  have hP : va_P (dC, dI) classes [(q0, .inr (3, [.null, .null, .null, .null, .null, .null, .null, .null, .int 0, .int 0, .int 0, .int 0, .int 0, .int 0, .int 0, .int 0, .int 0, .int 0, .int 0, .null, .null, .null, .null, .null, .null, .long 0, .long 0, .int 0]))] s.heap := hP
  have hl := lv_entry ([.ref q0, .ref no]) (n := 2) (Nat.le_of_ble_eq_true rfl)
  rw [lg_entry_eq]
  generalize (lg_sl ([.ref q0, .ref no]) ++ List.replicate (2 - (lg_sl ([.ref q0, .ref no])).length) Slot.unset).toArray = ls at hl ⊢
  have hl : lv_has ls 2 [(0, .ref q0), (1, .ref no)] := hl
  refine lv_aload_n hx hb d_Certificate_init_0 rfl (lv_at hl 0 rfl) ?_
  refine lv_aload_n hx hb d_Certificate_init_1 rfl (lv_at hl 1 rfl) ?_
  have hFc := va_free (wc := [(q0, .inr (3, [.null, .null, .null, .null, .null, .null, .null, .null, .int 0, .int 0, .int 0, .int 0, .int 0, .int 0, .int 0, .int 0, .int 0, .int 0, .int 0, .null, .null, .null, .null, .null, .null, .long 0, .long 0, .int 0]))]) hD hS hA [0] rfl
  refine va_callv (mu_runI (As := [.ref no]) (rest := []) ⟨hx, hb, hml, hown, hts⟩ tbin (c_Paper_initC l dC dI sb q0 no cI s.heap.size) q2_112 q2_113 q1_20 q2_114 rfl (n := 1) (by decide +kernel) rfl ⟨rfl, rfl⟩ ⟨Nat.le_of_ble_eq_true rfl, Nat.le_of_ble_eq_true rfl⟩ ⟨Nat.le_of_ble_eq_true rfl, Nat.le_of_ble_eq_true rfl⟩ hN (hT0.keep hS hAs) hAs (Nat.le_trans hB0 hS.1) hK hP hD [0] (by decide) rfl [0] rfl hl.1 rfl (Nat.le_of_ble_eq_true rfl) d_Certificate_init_2) hS (fun q _ h => hFc q h) hFc (fun u2 tS H2 locs ht hvm hw2 hB hz1 hk1 hS => ?_)
  obtain ⟨p2_0, p2_1, p2_2⟩ := u2
  obtain ⟨hP1, hK1, hD1⟩ := hB
  rw [ht] at hP1
  obtain ⟨hP, hD⟩ := va_join (wr := []) (w1 := [(q0, .inr (3, [.null, .null, .null, .null, .null, .null, .null, .null, .int 0, .int 0, .int 0, .int 0, .int 0, .int 0, .int 0, .int 0, .int 0, .int 0, .int 0, .ref p2_0, .ref p2_1, .ref p2_2, .ref no, .ref no, .ref no, .long 0, .long 0, .int 0])), (p2_0, .inl (cI, 8, .inl (fun _ => 0))), (p2_1, .inl (cI, 16, .inl (fun _ => 0))), (p2_2, .inr (11, [.ref (sb.2 5), .int 0, .int 0]))]) hP hD [0] [] rfl rfl (by decide) (by decide) hk1 hFc hP1 hD1
  have hP : va_P (dC, dI) classes [(q0, .inr (3, [.null, .null, .null, .null, .null, .null, .null, .null, .int 0, .int 0, .int 0, .int 0, .int 0, .int 0, .int 0, .int 0, .int 0, .int 0, .int 0, .ref p2_0, .ref p2_1, .ref p2_2, .ref no, .ref no, .ref no, .long 0, .long 0, .int 0])), (p2_0, .inl (cI, 8, .inl (fun _ => 0))), (p2_1, .inl (cI, 16, .inl (fun _ => 0))), (p2_2, .inr (11, [.ref (sb.2 5), .int 0, .int 0]))] H2 := hP
  have hD : va_D A [(q0, .inr (3, [.null, .null, .null, .null, .null, .null, .null, .null, .int 0, .int 0, .int 0, .int 0, .int 0, .int 0, .int 0, .int 0, .int 0, .int 0, .int 0, .ref p2_0, .ref p2_1, .ref p2_2, .ref no, .ref no, .ref no, .long 0, .long 0, .int 0])), (p2_0, .inl (cI, 8, .inl (fun _ => 0))), (p2_1, .inl (cI, 16, .inl (fun _ => 0))), (p2_2, .inr (11, [.ref (sb.2 5), .int 0, .int 0]))] := hD
  refine lv_aload_n hx hb d_Certificate_init_5 rfl (lv_at hl 0 rfl) ?_
  refine va_new (ci := 1) (fs := [.null, .null]) hx hb htb i_NameSet t_NameSet t_NameSet_ok hown (htb _ q2_118) (htb _ q2_119) (htb _ q1_23) hK hP hD hS hA rfl (fun j hj => by rcases (show j = 0 ∨ j = 1 by omega) with rfl | rfl <;> rfl) (Nat.le_of_ble_eq_true rfl) (Nat.le_of_ble_eq_true rfl) d_Certificate_init_6 (fun q6 H6 hP hD hS => ?_)
  have hP : va_P (dC, dI) classes [(q0, .inr (3, [.null, .null, .null, .null, .null, .null, .null, .null, .int 0, .int 0, .int 0, .int 0, .int 0, .int 0, .int 0, .int 0, .int 0, .int 0, .int 0, .ref p2_0, .ref p2_1, .ref p2_2, .ref no, .ref no, .ref no, .long 0, .long 0, .int 0])), (p2_0, .inl (cI, 8, .inl (fun _ => 0))), (p2_1, .inl (cI, 16, .inl (fun _ => 0))), (p2_2, .inr (11, [.ref (sb.2 5), .int 0, .int 0])), (q6, .inr (1, [.null, .null]))] H6 := hP
  have hD : va_D A [(q0, .inr (3, [.null, .null, .null, .null, .null, .null, .null, .null, .int 0, .int 0, .int 0, .int 0, .int 0, .int 0, .int 0, .int 0, .int 0, .int 0, .int 0, .ref p2_0, .ref p2_1, .ref p2_2, .ref no, .ref no, .ref no, .long 0, .long 0, .int 0])), (p2_0, .inl (cI, 8, .inl (fun _ => 0))), (p2_1, .inl (cI, 16, .inl (fun _ => 0))), (p2_2, .inr (11, [.ref (sb.2 5), .int 0, .int 0])), (q6, .inr (1, [.null, .null]))] := hD
  refine lv_dup hx hb d_Certificate_init_9 rfl ?_
  have hFc := va_free (wc := [(q6, .inr (1, [.null, .null]))]) hD hS hA [4] rfl
  refine va_callv (mu_runIN (As := []) (rest := [.ref q6, .ref q0]) ⟨hx, hb, hml, hown, hts⟩ tbin (c_NS_init l dC dI sb q6  H6.size) qn2_120 q2_121 q1_23 q2_122 rfl (n := 0) (by decide +kernel) rfl ⟨rfl, rfl⟩ ⟨Nat.le_of_ble_eq_true rfl, Nat.le_of_ble_eq_true rfl⟩ ⟨Nat.le_of_ble_eq_true rfl, Nat.le_of_ble_eq_true rfl⟩ hN (hT0.keep hS hAs) hAs (Nat.le_trans hB0 hS.1) hK hP hD [4] (by decide) rfl [] rfl hl.1 rfl (Nat.le_of_ble_eq_true rfl) d_Certificate_init_10) hS (fun q _ h => hFc q h) hFc (fun u10 tS H10 locs ht hvm hw10 hB hz1 hk1 hS => ?_)
  obtain ⟨p10_0, p10_1⟩ := u10
  obtain ⟨hP1, hK1, hD1⟩ := hB
  rw [ht] at hP1
  obtain ⟨hP, hD⟩ := va_join (wr := [(q0, .inr (3, [.null, .null, .null, .null, .null, .null, .null, .null, .int 0, .int 0, .int 0, .int 0, .int 0, .int 0, .int 0, .int 0, .int 0, .int 0, .int 0, .ref p2_0, .ref p2_1, .ref p2_2, .ref no, .ref no, .ref no, .long 0, .long 0, .int 0])), (p2_0, .inl (cI, 8, .inl (fun _ => 0))), (p2_1, .inl (cI, 16, .inl (fun _ => 0))), (p2_2, .inr (11, [.ref (sb.2 5), .int 0, .int 0]))]) (w1 := [(q6, .inr (1, [.ref p10_0, .ref p10_1])), (p10_0, .inr (11, [.ref (sb.2 5), .int 0, .int 0])), (p10_1, .inr (11, [.ref (sb.2 5), .int 0, .int 0]))]) hP hD [4] [0, 1, 2, 3] rfl rfl (by decide) (by decide) hk1 hFc hP1 hD1
  have hP : va_P (dC, dI) classes [(q0, .inr (3, [.null, .null, .null, .null, .null, .null, .null, .null, .int 0, .int 0, .int 0, .int 0, .int 0, .int 0, .int 0, .int 0, .int 0, .int 0, .int 0, .ref p2_0, .ref p2_1, .ref p2_2, .ref no, .ref no, .ref no, .long 0, .long 0, .int 0])), (p2_0, .inl (cI, 8, .inl (fun _ => 0))), (p2_1, .inl (cI, 16, .inl (fun _ => 0))), (p2_2, .inr (11, [.ref (sb.2 5), .int 0, .int 0])), (q6, .inr (1, [.ref p10_0, .ref p10_1])), (p10_0, .inr (11, [.ref (sb.2 5), .int 0, .int 0])), (p10_1, .inr (11, [.ref (sb.2 5), .int 0, .int 0]))] H10 := hP
  have hD : va_D A [(q0, .inr (3, [.null, .null, .null, .null, .null, .null, .null, .null, .int 0, .int 0, .int 0, .int 0, .int 0, .int 0, .int 0, .int 0, .int 0, .int 0, .int 0, .ref p2_0, .ref p2_1, .ref p2_2, .ref no, .ref no, .ref no, .long 0, .long 0, .int 0])), (p2_0, .inl (cI, 8, .inl (fun _ => 0))), (p2_1, .inl (cI, 16, .inl (fun _ => 0))), (p2_2, .inr (11, [.ref (sb.2 5), .int 0, .int 0])), (q6, .inr (1, [.ref p10_0, .ref p10_1])), (p10_0, .inr (11, [.ref (sb.2 5), .int 0, .int 0])), (p10_1, .inr (11, [.ref (sb.2 5), .int 0, .int 0]))] := hD
  refine va_putF (v := .ref q6) (ty := (.object "TrustChain$NameSet")) hx hb htb i_Certificate t_Certificate t_Certificate_ok n_Certificate hown hK hP hD hS 0 rfl rfl 0 (by decide) (htb _ q2_139) (fun _ h9 => h9) rfl hin rfl (by decide +kernel) rfl rfl (Nat.le_of_ble_eq_true rfl) d_Certificate_init_13 (fun H13 locs hP hD hS => ?_)
  have hP : va_P (dC, dI) classes [(q0, .inr (3, [.ref q6, .null, .null, .null, .null, .null, .null, .null, .int 0, .int 0, .int 0, .int 0, .int 0, .int 0, .int 0, .int 0, .int 0, .int 0, .int 0, .ref p2_0, .ref p2_1, .ref p2_2, .ref no, .ref no, .ref no, .long 0, .long 0, .int 0])), (p2_0, .inl (cI, 8, .inl (fun _ => 0))), (p2_1, .inl (cI, 16, .inl (fun _ => 0))), (p2_2, .inr (11, [.ref (sb.2 5), .int 0, .int 0])), (q6, .inr (1, [.ref p10_0, .ref p10_1])), (p10_0, .inr (11, [.ref (sb.2 5), .int 0, .int 0])), (p10_1, .inr (11, [.ref (sb.2 5), .int 0, .int 0]))] H13 := hP
  have hD : va_D A [(q0, .inr (3, [.ref q6, .null, .null, .null, .null, .null, .null, .null, .int 0, .int 0, .int 0, .int 0, .int 0, .int 0, .int 0, .int 0, .int 0, .int 0, .int 0, .ref p2_0, .ref p2_1, .ref p2_2, .ref no, .ref no, .ref no, .long 0, .long 0, .int 0])), (p2_0, .inl (cI, 8, .inl (fun _ => 0))), (p2_1, .inl (cI, 16, .inl (fun _ => 0))), (p2_2, .inr (11, [.ref (sb.2 5), .int 0, .int 0])), (q6, .inr (1, [.ref p10_0, .ref p10_1])), (p10_0, .inr (11, [.ref (sb.2 5), .int 0, .int 0])), (p10_1, .inr (11, [.ref (sb.2 5), .int 0, .int 0]))] := hD
  refine lv_aload_n hx hb d_Certificate_init_16 rfl (lv_at hl 0 rfl) ?_
  refine va_new (ci := 1) (fs := [.null, .null]) hx hb htb i_NameSet t_NameSet t_NameSet_ok hown (htb _ q2_118) (htb _ q2_119) (htb _ q1_23) hK hP hD hS hA rfl (fun j hj => by rcases (show j = 0 ∨ j = 1 by omega) with rfl | rfl <;> rfl) (Nat.le_of_ble_eq_true rfl) (Nat.le_of_ble_eq_true rfl) d_Certificate_init_17 (fun q17 H17 hP hD hS => ?_)
  have hP : va_P (dC, dI) classes [(q0, .inr (3, [.ref q6, .null, .null, .null, .null, .null, .null, .null, .int 0, .int 0, .int 0, .int 0, .int 0, .int 0, .int 0, .int 0, .int 0, .int 0, .int 0, .ref p2_0, .ref p2_1, .ref p2_2, .ref no, .ref no, .ref no, .long 0, .long 0, .int 0])), (p2_0, .inl (cI, 8, .inl (fun _ => 0))), (p2_1, .inl (cI, 16, .inl (fun _ => 0))), (p2_2, .inr (11, [.ref (sb.2 5), .int 0, .int 0])), (q6, .inr (1, [.ref p10_0, .ref p10_1])), (p10_0, .inr (11, [.ref (sb.2 5), .int 0, .int 0])), (p10_1, .inr (11, [.ref (sb.2 5), .int 0, .int 0])), (q17, .inr (1, [.null, .null]))] H17 := hP
  have hD : va_D A [(q0, .inr (3, [.ref q6, .null, .null, .null, .null, .null, .null, .null, .int 0, .int 0, .int 0, .int 0, .int 0, .int 0, .int 0, .int 0, .int 0, .int 0, .int 0, .ref p2_0, .ref p2_1, .ref p2_2, .ref no, .ref no, .ref no, .long 0, .long 0, .int 0])), (p2_0, .inl (cI, 8, .inl (fun _ => 0))), (p2_1, .inl (cI, 16, .inl (fun _ => 0))), (p2_2, .inr (11, [.ref (sb.2 5), .int 0, .int 0])), (q6, .inr (1, [.ref p10_0, .ref p10_1])), (p10_0, .inr (11, [.ref (sb.2 5), .int 0, .int 0])), (p10_1, .inr (11, [.ref (sb.2 5), .int 0, .int 0])), (q17, .inr (1, [.null, .null]))] := hD
  refine lv_dup hx hb d_Certificate_init_20 rfl ?_
  have hFc := va_free (wc := [(q17, .inr (1, [.null, .null]))]) hD hS hA [7] rfl
  refine va_callv (mu_runIN (As := []) (rest := [.ref q17, .ref q0]) ⟨hx, hb, hml, hown, hts⟩ tbin (c_NS_init l dC dI sb q17  H17.size) qn2_120 q2_121 q1_23 q2_122 rfl (n := 0) (by decide +kernel) rfl ⟨rfl, rfl⟩ ⟨Nat.le_of_ble_eq_true rfl, Nat.le_of_ble_eq_true rfl⟩ ⟨Nat.le_of_ble_eq_true rfl, Nat.le_of_ble_eq_true rfl⟩ hN (hT0.keep hS hAs) hAs (Nat.le_trans hB0 hS.1) hK hP hD [7] (by decide) rfl [] rfl hl.1 rfl (Nat.le_of_ble_eq_true rfl) d_Certificate_init_21) hS (fun q _ h => hFc q h) hFc (fun u21 tS H21 locs ht hvm hw21 hB hz1 hk1 hS => ?_)
  obtain ⟨p21_0, p21_1⟩ := u21
  obtain ⟨hP1, hK1, hD1⟩ := hB
  rw [ht] at hP1
  obtain ⟨hP, hD⟩ := va_join (wr := [(q0, .inr (3, [.ref q6, .null, .null, .null, .null, .null, .null, .null, .int 0, .int 0, .int 0, .int 0, .int 0, .int 0, .int 0, .int 0, .int 0, .int 0, .int 0, .ref p2_0, .ref p2_1, .ref p2_2, .ref no, .ref no, .ref no, .long 0, .long 0, .int 0])), (p2_0, .inl (cI, 8, .inl (fun _ => 0))), (p2_1, .inl (cI, 16, .inl (fun _ => 0))), (p2_2, .inr (11, [.ref (sb.2 5), .int 0, .int 0])), (q6, .inr (1, [.ref p10_0, .ref p10_1])), (p10_0, .inr (11, [.ref (sb.2 5), .int 0, .int 0])), (p10_1, .inr (11, [.ref (sb.2 5), .int 0, .int 0]))]) (w1 := [(q17, .inr (1, [.ref p21_0, .ref p21_1])), (p21_0, .inr (11, [.ref (sb.2 5), .int 0, .int 0])), (p21_1, .inr (11, [.ref (sb.2 5), .int 0, .int 0]))]) hP hD [7] [0, 1, 2, 3, 4, 5, 6] rfl rfl (by decide) (by decide) hk1 hFc hP1 hD1
  have hP : va_P (dC, dI) classes [(q0, .inr (3, [.ref q6, .null, .null, .null, .null, .null, .null, .null, .int 0, .int 0, .int 0, .int 0, .int 0, .int 0, .int 0, .int 0, .int 0, .int 0, .int 0, .ref p2_0, .ref p2_1, .ref p2_2, .ref no, .ref no, .ref no, .long 0, .long 0, .int 0])), (p2_0, .inl (cI, 8, .inl (fun _ => 0))), (p2_1, .inl (cI, 16, .inl (fun _ => 0))), (p2_2, .inr (11, [.ref (sb.2 5), .int 0, .int 0])), (q6, .inr (1, [.ref p10_0, .ref p10_1])), (p10_0, .inr (11, [.ref (sb.2 5), .int 0, .int 0])), (p10_1, .inr (11, [.ref (sb.2 5), .int 0, .int 0])), (q17, .inr (1, [.ref p21_0, .ref p21_1])), (p21_0, .inr (11, [.ref (sb.2 5), .int 0, .int 0])), (p21_1, .inr (11, [.ref (sb.2 5), .int 0, .int 0]))] H21 := hP
  have hD : va_D A [(q0, .inr (3, [.ref q6, .null, .null, .null, .null, .null, .null, .null, .int 0, .int 0, .int 0, .int 0, .int 0, .int 0, .int 0, .int 0, .int 0, .int 0, .int 0, .ref p2_0, .ref p2_1, .ref p2_2, .ref no, .ref no, .ref no, .long 0, .long 0, .int 0])), (p2_0, .inl (cI, 8, .inl (fun _ => 0))), (p2_1, .inl (cI, 16, .inl (fun _ => 0))), (p2_2, .inr (11, [.ref (sb.2 5), .int 0, .int 0])), (q6, .inr (1, [.ref p10_0, .ref p10_1])), (p10_0, .inr (11, [.ref (sb.2 5), .int 0, .int 0])), (p10_1, .inr (11, [.ref (sb.2 5), .int 0, .int 0])), (q17, .inr (1, [.ref p21_0, .ref p21_1])), (p21_0, .inr (11, [.ref (sb.2 5), .int 0, .int 0])), (p21_1, .inr (11, [.ref (sb.2 5), .int 0, .int 0]))] := hD
  refine va_putF (v := .ref q17) (ty := (.object "TrustChain$NameSet")) hx hb htb i_Certificate t_Certificate t_Certificate_ok n_Certificate hown hK hP hD hS 0 rfl rfl 1 (by decide) (htb _ q2_143) (fun _ h9 => h9) rfl hin rfl (by decide +kernel) rfl rfl (Nat.le_of_ble_eq_true rfl) d_Certificate_init_24 (fun H24 locs hP hD hS => ?_)
  have hP : va_P (dC, dI) classes [(q0, .inr (3, [.ref q6, .ref q17, .null, .null, .null, .null, .null, .null, .int 0, .int 0, .int 0, .int 0, .int 0, .int 0, .int 0, .int 0, .int 0, .int 0, .int 0, .ref p2_0, .ref p2_1, .ref p2_2, .ref no, .ref no, .ref no, .long 0, .long 0, .int 0])), (p2_0, .inl (cI, 8, .inl (fun _ => 0))), (p2_1, .inl (cI, 16, .inl (fun _ => 0))), (p2_2, .inr (11, [.ref (sb.2 5), .int 0, .int 0])), (q6, .inr (1, [.ref p10_0, .ref p10_1])), (p10_0, .inr (11, [.ref (sb.2 5), .int 0, .int 0])), (p10_1, .inr (11, [.ref (sb.2 5), .int 0, .int 0])), (q17, .inr (1, [.ref p21_0, .ref p21_1])), (p21_0, .inr (11, [.ref (sb.2 5), .int 0, .int 0])), (p21_1, .inr (11, [.ref (sb.2 5), .int 0, .int 0]))] H24 := hP
  have hD : va_D A [(q0, .inr (3, [.ref q6, .ref q17, .null, .null, .null, .null, .null, .null, .int 0, .int 0, .int 0, .int 0, .int 0, .int 0, .int 0, .int 0, .int 0, .int 0, .int 0, .ref p2_0, .ref p2_1, .ref p2_2, .ref no, .ref no, .ref no, .long 0, .long 0, .int 0])), (p2_0, .inl (cI, 8, .inl (fun _ => 0))), (p2_1, .inl (cI, 16, .inl (fun _ => 0))), (p2_2, .inr (11, [.ref (sb.2 5), .int 0, .int 0])), (q6, .inr (1, [.ref p10_0, .ref p10_1])), (p10_0, .inr (11, [.ref (sb.2 5), .int 0, .int 0])), (p10_1, .inr (11, [.ref (sb.2 5), .int 0, .int 0])), (q17, .inr (1, [.ref p21_0, .ref p21_1])), (p21_0, .inr (11, [.ref (sb.2 5), .int 0, .int 0])), (p21_1, .inr (11, [.ref (sb.2 5), .int 0, .int 0]))] := hD
  refine lv_aload_n hx hb d_Certificate_init_27 rfl (lv_at hl 0 rfl) ?_
  refine va_new (ci := 1) (fs := [.null, .null]) hx hb htb i_NameSet t_NameSet t_NameSet_ok hown (htb _ q2_118) (htb _ q2_119) (htb _ q1_23) hK hP hD hS hA rfl (fun j hj => by rcases (show j = 0 ∨ j = 1 by omega) with rfl | rfl <;> rfl) (Nat.le_of_ble_eq_true rfl) (Nat.le_of_ble_eq_true rfl) d_Certificate_init_28 (fun q28 H28 hP hD hS => ?_)
  have hP : va_P (dC, dI) classes [(q0, .inr (3, [.ref q6, .ref q17, .null, .null, .null, .null, .null, .null, .int 0, .int 0, .int 0, .int 0, .int 0, .int 0, .int 0, .int 0, .int 0, .int 0, .int 0, .ref p2_0, .ref p2_1, .ref p2_2, .ref no, .ref no, .ref no, .long 0, .long 0, .int 0])), (p2_0, .inl (cI, 8, .inl (fun _ => 0))), (p2_1, .inl (cI, 16, .inl (fun _ => 0))), (p2_2, .inr (11, [.ref (sb.2 5), .int 0, .int 0])), (q6, .inr (1, [.ref p10_0, .ref p10_1])), (p10_0, .inr (11, [.ref (sb.2 5), .int 0, .int 0])), (p10_1, .inr (11, [.ref (sb.2 5), .int 0, .int 0])), (q17, .inr (1, [.ref p21_0, .ref p21_1])), (p21_0, .inr (11, [.ref (sb.2 5), .int 0, .int 0])), (p21_1, .inr (11, [.ref (sb.2 5), .int 0, .int 0])), (q28, .inr (1, [.null, .null]))] H28 := hP
  have hD : va_D A [(q0, .inr (3, [.ref q6, .ref q17, .null, .null, .null, .null, .null, .null, .int 0, .int 0, .int 0, .int 0, .int 0, .int 0, .int 0, .int 0, .int 0, .int 0, .int 0, .ref p2_0, .ref p2_1, .ref p2_2, .ref no, .ref no, .ref no, .long 0, .long 0, .int 0])), (p2_0, .inl (cI, 8, .inl (fun _ => 0))), (p2_1, .inl (cI, 16, .inl (fun _ => 0))), (p2_2, .inr (11, [.ref (sb.2 5), .int 0, .int 0])), (q6, .inr (1, [.ref p10_0, .ref p10_1])), (p10_0, .inr (11, [.ref (sb.2 5), .int 0, .int 0])), (p10_1, .inr (11, [.ref (sb.2 5), .int 0, .int 0])), (q17, .inr (1, [.ref p21_0, .ref p21_1])), (p21_0, .inr (11, [.ref (sb.2 5), .int 0, .int 0])), (p21_1, .inr (11, [.ref (sb.2 5), .int 0, .int 0])), (q28, .inr (1, [.null, .null]))] := hD
  refine lv_dup hx hb d_Certificate_init_31 rfl ?_
  have hFc := va_free (wc := [(q28, .inr (1, [.null, .null]))]) hD hS hA [10] rfl
  refine va_callv (mu_runIN (As := []) (rest := [.ref q28, .ref q0]) ⟨hx, hb, hml, hown, hts⟩ tbin (c_NS_init l dC dI sb q28  H28.size) qn2_120 q2_121 q1_23 q2_122 rfl (n := 0) (by decide +kernel) rfl ⟨rfl, rfl⟩ ⟨Nat.le_of_ble_eq_true rfl, Nat.le_of_ble_eq_true rfl⟩ ⟨Nat.le_of_ble_eq_true rfl, Nat.le_of_ble_eq_true rfl⟩ hN (hT0.keep hS hAs) hAs (Nat.le_trans hB0 hS.1) hK hP hD [10] (by decide) rfl [] rfl hl.1 rfl (Nat.le_of_ble_eq_true rfl) d_Certificate_init_32) hS (fun q _ h => hFc q h) hFc (fun u32 tS H32 locs ht hvm hw32 hB hz1 hk1 hS => ?_)
  obtain ⟨p32_0, p32_1⟩ := u32
  obtain ⟨hP1, hK1, hD1⟩ := hB
  rw [ht] at hP1
  obtain ⟨hP, hD⟩ := va_join (wr := [(q0, .inr (3, [.ref q6, .ref q17, .null, .null, .null, .null, .null, .null, .int 0, .int 0, .int 0, .int 0, .int 0, .int 0, .int 0, .int 0, .int 0, .int 0, .int 0, .ref p2_0, .ref p2_1, .ref p2_2, .ref no, .ref no, .ref no, .long 0, .long 0, .int 0])), (p2_0, .inl (cI, 8, .inl (fun _ => 0))), (p2_1, .inl (cI, 16, .inl (fun _ => 0))), (p2_2, .inr (11, [.ref (sb.2 5), .int 0, .int 0])), (q6, .inr (1, [.ref p10_0, .ref p10_1])), (p10_0, .inr (11, [.ref (sb.2 5), .int 0, .int 0])), (p10_1, .inr (11, [.ref (sb.2 5), .int 0, .int 0])), (q17, .inr (1, [.ref p21_0, .ref p21_1])), (p21_0, .inr (11, [.ref (sb.2 5), .int 0, .int 0])), (p21_1, .inr (11, [.ref (sb.2 5), .int 0, .int 0]))]) (w1 := [(q28, .inr (1, [.ref p32_0, .ref p32_1])), (p32_0, .inr (11, [.ref (sb.2 5), .int 0, .int 0])), (p32_1, .inr (11, [.ref (sb.2 5), .int 0, .int 0]))]) hP hD [10] [0, 1, 2, 3, 4, 5, 6, 7, 8, 9] rfl rfl (by decide) (by decide) hk1 hFc hP1 hD1
  have hP : va_P (dC, dI) classes [(q0, .inr (3, [.ref q6, .ref q17, .null, .null, .null, .null, .null, .null, .int 0, .int 0, .int 0, .int 0, .int 0, .int 0, .int 0, .int 0, .int 0, .int 0, .int 0, .ref p2_0, .ref p2_1, .ref p2_2, .ref no, .ref no, .ref no, .long 0, .long 0, .int 0])), (p2_0, .inl (cI, 8, .inl (fun _ => 0))), (p2_1, .inl (cI, 16, .inl (fun _ => 0))), (p2_2, .inr (11, [.ref (sb.2 5), .int 0, .int 0])), (q6, .inr (1, [.ref p10_0, .ref p10_1])), (p10_0, .inr (11, [.ref (sb.2 5), .int 0, .int 0])), (p10_1, .inr (11, [.ref (sb.2 5), .int 0, .int 0])), (q17, .inr (1, [.ref p21_0, .ref p21_1])), (p21_0, .inr (11, [.ref (sb.2 5), .int 0, .int 0])), (p21_1, .inr (11, [.ref (sb.2 5), .int 0, .int 0])), (q28, .inr (1, [.ref p32_0, .ref p32_1])), (p32_0, .inr (11, [.ref (sb.2 5), .int 0, .int 0])), (p32_1, .inr (11, [.ref (sb.2 5), .int 0, .int 0]))] H32 := hP
  have hD : va_D A [(q0, .inr (3, [.ref q6, .ref q17, .null, .null, .null, .null, .null, .null, .int 0, .int 0, .int 0, .int 0, .int 0, .int 0, .int 0, .int 0, .int 0, .int 0, .int 0, .ref p2_0, .ref p2_1, .ref p2_2, .ref no, .ref no, .ref no, .long 0, .long 0, .int 0])), (p2_0, .inl (cI, 8, .inl (fun _ => 0))), (p2_1, .inl (cI, 16, .inl (fun _ => 0))), (p2_2, .inr (11, [.ref (sb.2 5), .int 0, .int 0])), (q6, .inr (1, [.ref p10_0, .ref p10_1])), (p10_0, .inr (11, [.ref (sb.2 5), .int 0, .int 0])), (p10_1, .inr (11, [.ref (sb.2 5), .int 0, .int 0])), (q17, .inr (1, [.ref p21_0, .ref p21_1])), (p21_0, .inr (11, [.ref (sb.2 5), .int 0, .int 0])), (p21_1, .inr (11, [.ref (sb.2 5), .int 0, .int 0])), (q28, .inr (1, [.ref p32_0, .ref p32_1])), (p32_0, .inr (11, [.ref (sb.2 5), .int 0, .int 0])), (p32_1, .inr (11, [.ref (sb.2 5), .int 0, .int 0]))] := hD
  refine va_putF (v := .ref q28) (ty := (.object "TrustChain$NameSet")) hx hb htb i_Certificate t_Certificate t_Certificate_ok n_Certificate hown hK hP hD hS 0 rfl rfl 2 (by decide) (htb _ q2_145) (fun _ h9 => h9) rfl hin rfl (by decide +kernel) rfl rfl (Nat.le_of_ble_eq_true rfl) d_Certificate_init_35 (fun H35 locs hP hD hS => ?_)
  have hP : va_P (dC, dI) classes [(q0, .inr (3, [.ref q6, .ref q17, .ref q28, .null, .null, .null, .null, .null, .int 0, .int 0, .int 0, .int 0, .int 0, .int 0, .int 0, .int 0, .int 0, .int 0, .int 0, .ref p2_0, .ref p2_1, .ref p2_2, .ref no, .ref no, .ref no, .long 0, .long 0, .int 0])), (p2_0, .inl (cI, 8, .inl (fun _ => 0))), (p2_1, .inl (cI, 16, .inl (fun _ => 0))), (p2_2, .inr (11, [.ref (sb.2 5), .int 0, .int 0])), (q6, .inr (1, [.ref p10_0, .ref p10_1])), (p10_0, .inr (11, [.ref (sb.2 5), .int 0, .int 0])), (p10_1, .inr (11, [.ref (sb.2 5), .int 0, .int 0])), (q17, .inr (1, [.ref p21_0, .ref p21_1])), (p21_0, .inr (11, [.ref (sb.2 5), .int 0, .int 0])), (p21_1, .inr (11, [.ref (sb.2 5), .int 0, .int 0])), (q28, .inr (1, [.ref p32_0, .ref p32_1])), (p32_0, .inr (11, [.ref (sb.2 5), .int 0, .int 0])), (p32_1, .inr (11, [.ref (sb.2 5), .int 0, .int 0]))] H35 := hP
  have hD : va_D A [(q0, .inr (3, [.ref q6, .ref q17, .ref q28, .null, .null, .null, .null, .null, .int 0, .int 0, .int 0, .int 0, .int 0, .int 0, .int 0, .int 0, .int 0, .int 0, .int 0, .ref p2_0, .ref p2_1, .ref p2_2, .ref no, .ref no, .ref no, .long 0, .long 0, .int 0])), (p2_0, .inl (cI, 8, .inl (fun _ => 0))), (p2_1, .inl (cI, 16, .inl (fun _ => 0))), (p2_2, .inr (11, [.ref (sb.2 5), .int 0, .int 0])), (q6, .inr (1, [.ref p10_0, .ref p10_1])), (p10_0, .inr (11, [.ref (sb.2 5), .int 0, .int 0])), (p10_1, .inr (11, [.ref (sb.2 5), .int 0, .int 0])), (q17, .inr (1, [.ref p21_0, .ref p21_1])), (p21_0, .inr (11, [.ref (sb.2 5), .int 0, .int 0])), (p21_1, .inr (11, [.ref (sb.2 5), .int 0, .int 0])), (q28, .inr (1, [.ref p32_0, .ref p32_1])), (p32_0, .inr (11, [.ref (sb.2 5), .int 0, .int 0])), (p32_1, .inr (11, [.ref (sb.2 5), .int 0, .int 0]))] := hD
  refine lv_aload_n hx hb d_Certificate_init_38 rfl (lv_at hl 0 rfl) ?_
  refine lv_iconst (v := 0) hx hb d_Certificate_init_39 (by decide) ?_
  refine va_put (v := .int 0) (ty := .int) hx hb htb i_Certificate t_Certificate t_Certificate_ok n_Certificate hown hK hP hD hS 0 rfl rfl 8 (by decide) (htb _ q2_160) (fun _ h9 => h9) rfl (by decide +kernel) rfl rfl (Nat.le_of_ble_eq_true rfl) d_Certificate_init_40 (fun H40 locs hP hD hS => ?_)
  have hP : va_P (dC, dI) classes [(q0, .inr (3, [.ref q6, .ref q17, .ref q28, .null, .null, .null, .null, .null, .int 0, .int 0, .int 0, .int 0, .int 0, .int 0, .int 0, .int 0, .int 0, .int 0, .int 0, .ref p2_0, .ref p2_1, .ref p2_2, .ref no, .ref no, .ref no, .long 0, .long 0, .int 0])), (p2_0, .inl (cI, 8, .inl (fun _ => 0))), (p2_1, .inl (cI, 16, .inl (fun _ => 0))), (p2_2, .inr (11, [.ref (sb.2 5), .int 0, .int 0])), (q6, .inr (1, [.ref p10_0, .ref p10_1])), (p10_0, .inr (11, [.ref (sb.2 5), .int 0, .int 0])), (p10_1, .inr (11, [.ref (sb.2 5), .int 0, .int 0])), (q17, .inr (1, [.ref p21_0, .ref p21_1])), (p21_0, .inr (11, [.ref (sb.2 5), .int 0, .int 0])), (p21_1, .inr (11, [.ref (sb.2 5), .int 0, .int 0])), (q28, .inr (1, [.ref p32_0, .ref p32_1])), (p32_0, .inr (11, [.ref (sb.2 5), .int 0, .int 0])), (p32_1, .inr (11, [.ref (sb.2 5), .int 0, .int 0]))] H40 := hP
  have hD : va_D A [(q0, .inr (3, [.ref q6, .ref q17, .ref q28, .null, .null, .null, .null, .null, .int 0, .int 0, .int 0, .int 0, .int 0, .int 0, .int 0, .int 0, .int 0, .int 0, .int 0, .ref p2_0, .ref p2_1, .ref p2_2, .ref no, .ref no, .ref no, .long 0, .long 0, .int 0])), (p2_0, .inl (cI, 8, .inl (fun _ => 0))), (p2_1, .inl (cI, 16, .inl (fun _ => 0))), (p2_2, .inr (11, [.ref (sb.2 5), .int 0, .int 0])), (q6, .inr (1, [.ref p10_0, .ref p10_1])), (p10_0, .inr (11, [.ref (sb.2 5), .int 0, .int 0])), (p10_1, .inr (11, [.ref (sb.2 5), .int 0, .int 0])), (q17, .inr (1, [.ref p21_0, .ref p21_1])), (p21_0, .inr (11, [.ref (sb.2 5), .int 0, .int 0])), (p21_1, .inr (11, [.ref (sb.2 5), .int 0, .int 0])), (q28, .inr (1, [.ref p32_0, .ref p32_1])), (p32_0, .inr (11, [.ref (sb.2 5), .int 0, .int 0])), (p32_1, .inr (11, [.ref (sb.2 5), .int 0, .int 0]))] := hD
  refine lv_aload_n hx hb d_Certificate_init_43 rfl (lv_at hl 0 rfl) ?_
  refine lv_iconst (v := 0) hx hb d_Certificate_init_44 (by decide) ?_
  refine va_put (v := .int 0) (ty := .int) hx hb htb i_Certificate t_Certificate t_Certificate_ok n_Certificate hown hK hP hD hS 0 rfl rfl 9 (by decide) (htb _ q2_163) (fun _ h9 => h9) rfl (by decide +kernel) rfl rfl (Nat.le_of_ble_eq_true rfl) d_Certificate_init_45 (fun H45 locs hP hD hS => ?_)
  have hP : va_P (dC, dI) classes [(q0, .inr (3, [.ref q6, .ref q17, .ref q28, .null, .null, .null, .null, .null, .int 0, .int 0, .int 0, .int 0, .int 0, .int 0, .int 0, .int 0, .int 0, .int 0, .int 0, .ref p2_0, .ref p2_1, .ref p2_2, .ref no, .ref no, .ref no, .long 0, .long 0, .int 0])), (p2_0, .inl (cI, 8, .inl (fun _ => 0))), (p2_1, .inl (cI, 16, .inl (fun _ => 0))), (p2_2, .inr (11, [.ref (sb.2 5), .int 0, .int 0])), (q6, .inr (1, [.ref p10_0, .ref p10_1])), (p10_0, .inr (11, [.ref (sb.2 5), .int 0, .int 0])), (p10_1, .inr (11, [.ref (sb.2 5), .int 0, .int 0])), (q17, .inr (1, [.ref p21_0, .ref p21_1])), (p21_0, .inr (11, [.ref (sb.2 5), .int 0, .int 0])), (p21_1, .inr (11, [.ref (sb.2 5), .int 0, .int 0])), (q28, .inr (1, [.ref p32_0, .ref p32_1])), (p32_0, .inr (11, [.ref (sb.2 5), .int 0, .int 0])), (p32_1, .inr (11, [.ref (sb.2 5), .int 0, .int 0]))] H45 := hP
  have hD : va_D A [(q0, .inr (3, [.ref q6, .ref q17, .ref q28, .null, .null, .null, .null, .null, .int 0, .int 0, .int 0, .int 0, .int 0, .int 0, .int 0, .int 0, .int 0, .int 0, .int 0, .ref p2_0, .ref p2_1, .ref p2_2, .ref no, .ref no, .ref no, .long 0, .long 0, .int 0])), (p2_0, .inl (cI, 8, .inl (fun _ => 0))), (p2_1, .inl (cI, 16, .inl (fun _ => 0))), (p2_2, .inr (11, [.ref (sb.2 5), .int 0, .int 0])), (q6, .inr (1, [.ref p10_0, .ref p10_1])), (p10_0, .inr (11, [.ref (sb.2 5), .int 0, .int 0])), (p10_1, .inr (11, [.ref (sb.2 5), .int 0, .int 0])), (q17, .inr (1, [.ref p21_0, .ref p21_1])), (p21_0, .inr (11, [.ref (sb.2 5), .int 0, .int 0])), (p21_1, .inr (11, [.ref (sb.2 5), .int 0, .int 0])), (q28, .inr (1, [.ref p32_0, .ref p32_1])), (p32_0, .inr (11, [.ref (sb.2 5), .int 0, .int 0])), (p32_1, .inr (11, [.ref (sb.2 5), .int 0, .int 0]))] := hD
  refine lv_aload_n hx hb d_Certificate_init_48 rfl (lv_at hl 0 rfl) ?_
  refine lv_iconst (v := 0) hx hb d_Certificate_init_49 (by decide) ?_
  refine va_put (v := .int 0) (ty := .int) hx hb htb i_Certificate t_Certificate t_Certificate_ok n_Certificate hown hK hP hD hS 0 rfl rfl 10 (by decide) (htb _ q2_166) (fun _ h9 => h9) rfl (by decide +kernel) rfl rfl (Nat.le_of_ble_eq_true rfl) d_Certificate_init_50 (fun H50 locs hP hD hS => ?_)
  have hP : va_P (dC, dI) classes [(q0, .inr (3, [.ref q6, .ref q17, .ref q28, .null, .null, .null, .null, .null, .int 0, .int 0, .int 0, .int 0, .int 0, .int 0, .int 0, .int 0, .int 0, .int 0, .int 0, .ref p2_0, .ref p2_1, .ref p2_2, .ref no, .ref no, .ref no, .long 0, .long 0, .int 0])), (p2_0, .inl (cI, 8, .inl (fun _ => 0))), (p2_1, .inl (cI, 16, .inl (fun _ => 0))), (p2_2, .inr (11, [.ref (sb.2 5), .int 0, .int 0])), (q6, .inr (1, [.ref p10_0, .ref p10_1])), (p10_0, .inr (11, [.ref (sb.2 5), .int 0, .int 0])), (p10_1, .inr (11, [.ref (sb.2 5), .int 0, .int 0])), (q17, .inr (1, [.ref p21_0, .ref p21_1])), (p21_0, .inr (11, [.ref (sb.2 5), .int 0, .int 0])), (p21_1, .inr (11, [.ref (sb.2 5), .int 0, .int 0])), (q28, .inr (1, [.ref p32_0, .ref p32_1])), (p32_0, .inr (11, [.ref (sb.2 5), .int 0, .int 0])), (p32_1, .inr (11, [.ref (sb.2 5), .int 0, .int 0]))] H50 := hP
  have hD : va_D A [(q0, .inr (3, [.ref q6, .ref q17, .ref q28, .null, .null, .null, .null, .null, .int 0, .int 0, .int 0, .int 0, .int 0, .int 0, .int 0, .int 0, .int 0, .int 0, .int 0, .ref p2_0, .ref p2_1, .ref p2_2, .ref no, .ref no, .ref no, .long 0, .long 0, .int 0])), (p2_0, .inl (cI, 8, .inl (fun _ => 0))), (p2_1, .inl (cI, 16, .inl (fun _ => 0))), (p2_2, .inr (11, [.ref (sb.2 5), .int 0, .int 0])), (q6, .inr (1, [.ref p10_0, .ref p10_1])), (p10_0, .inr (11, [.ref (sb.2 5), .int 0, .int 0])), (p10_1, .inr (11, [.ref (sb.2 5), .int 0, .int 0])), (q17, .inr (1, [.ref p21_0, .ref p21_1])), (p21_0, .inr (11, [.ref (sb.2 5), .int 0, .int 0])), (p21_1, .inr (11, [.ref (sb.2 5), .int 0, .int 0])), (q28, .inr (1, [.ref p32_0, .ref p32_1])), (p32_0, .inr (11, [.ref (sb.2 5), .int 0, .int 0])), (p32_1, .inr (11, [.ref (sb.2 5), .int 0, .int 0]))] := hD
  refine lv_aload_n hx hb d_Certificate_init_53 rfl (lv_at hl 0 rfl) ?_
  refine lv_iconst (v := 0) hx hb d_Certificate_init_54 (by decide) ?_
  refine va_put (v := .int 0) (ty := .boolean) hx hb htb i_Certificate t_Certificate t_Certificate_ok n_Certificate hown hK hP hD hS 0 rfl rfl 11 (by decide) (htb _ q2_169) (fun _ h9 => h9) rfl (by decide +kernel) rfl rfl (Nat.le_of_ble_eq_true rfl) d_Certificate_init_55 (fun H55 locs hP hD hS => ?_)
  have hP : va_P (dC, dI) classes [(q0, .inr (3, [.ref q6, .ref q17, .ref q28, .null, .null, .null, .null, .null, .int 0, .int 0, .int 0, .int 0, .int 0, .int 0, .int 0, .int 0, .int 0, .int 0, .int 0, .ref p2_0, .ref p2_1, .ref p2_2, .ref no, .ref no, .ref no, .long 0, .long 0, .int 0])), (p2_0, .inl (cI, 8, .inl (fun _ => 0))), (p2_1, .inl (cI, 16, .inl (fun _ => 0))), (p2_2, .inr (11, [.ref (sb.2 5), .int 0, .int 0])), (q6, .inr (1, [.ref p10_0, .ref p10_1])), (p10_0, .inr (11, [.ref (sb.2 5), .int 0, .int 0])), (p10_1, .inr (11, [.ref (sb.2 5), .int 0, .int 0])), (q17, .inr (1, [.ref p21_0, .ref p21_1])), (p21_0, .inr (11, [.ref (sb.2 5), .int 0, .int 0])), (p21_1, .inr (11, [.ref (sb.2 5), .int 0, .int 0])), (q28, .inr (1, [.ref p32_0, .ref p32_1])), (p32_0, .inr (11, [.ref (sb.2 5), .int 0, .int 0])), (p32_1, .inr (11, [.ref (sb.2 5), .int 0, .int 0]))] H55 := hP
  have hD : va_D A [(q0, .inr (3, [.ref q6, .ref q17, .ref q28, .null, .null, .null, .null, .null, .int 0, .int 0, .int 0, .int 0, .int 0, .int 0, .int 0, .int 0, .int 0, .int 0, .int 0, .ref p2_0, .ref p2_1, .ref p2_2, .ref no, .ref no, .ref no, .long 0, .long 0, .int 0])), (p2_0, .inl (cI, 8, .inl (fun _ => 0))), (p2_1, .inl (cI, 16, .inl (fun _ => 0))), (p2_2, .inr (11, [.ref (sb.2 5), .int 0, .int 0])), (q6, .inr (1, [.ref p10_0, .ref p10_1])), (p10_0, .inr (11, [.ref (sb.2 5), .int 0, .int 0])), (p10_1, .inr (11, [.ref (sb.2 5), .int 0, .int 0])), (q17, .inr (1, [.ref p21_0, .ref p21_1])), (p21_0, .inr (11, [.ref (sb.2 5), .int 0, .int 0])), (p21_1, .inr (11, [.ref (sb.2 5), .int 0, .int 0])), (q28, .inr (1, [.ref p32_0, .ref p32_1])), (p32_0, .inr (11, [.ref (sb.2 5), .int 0, .int 0])), (p32_1, .inr (11, [.ref (sb.2 5), .int 0, .int 0]))] := hD
  refine lv_aload_n hx hb d_Certificate_init_58 rfl (lv_at hl 0 rfl) ?_
  refine lv_iconst (v := -1) hx hb d_Certificate_init_59 (by decide) ?_
  refine va_put (v := .int (-1)) (ty := .int) hx hb htb i_Certificate t_Certificate t_Certificate_ok n_Certificate hown hK hP hD hS 0 rfl rfl 12 (by decide) (htb _ q2_172) (fun _ h9 => h9) rfl (by decide +kernel) rfl rfl (Nat.le_of_ble_eq_true rfl) d_Certificate_init_60 (fun H60 locs hP hD hS => ?_)
  have hP : va_P (dC, dI) classes [(q0, .inr (3, [.ref q6, .ref q17, .ref q28, .null, .null, .null, .null, .null, .int 0, .int 0, .int 0, .int 0, .int (-1), .int 0, .int 0, .int 0, .int 0, .int 0, .int 0, .ref p2_0, .ref p2_1, .ref p2_2, .ref no, .ref no, .ref no, .long 0, .long 0, .int 0])), (p2_0, .inl (cI, 8, .inl (fun _ => 0))), (p2_1, .inl (cI, 16, .inl (fun _ => 0))), (p2_2, .inr (11, [.ref (sb.2 5), .int 0, .int 0])), (q6, .inr (1, [.ref p10_0, .ref p10_1])), (p10_0, .inr (11, [.ref (sb.2 5), .int 0, .int 0])), (p10_1, .inr (11, [.ref (sb.2 5), .int 0, .int 0])), (q17, .inr (1, [.ref p21_0, .ref p21_1])), (p21_0, .inr (11, [.ref (sb.2 5), .int 0, .int 0])), (p21_1, .inr (11, [.ref (sb.2 5), .int 0, .int 0])), (q28, .inr (1, [.ref p32_0, .ref p32_1])), (p32_0, .inr (11, [.ref (sb.2 5), .int 0, .int 0])), (p32_1, .inr (11, [.ref (sb.2 5), .int 0, .int 0]))] H60 := hP
  have hD : va_D A [(q0, .inr (3, [.ref q6, .ref q17, .ref q28, .null, .null, .null, .null, .null, .int 0, .int 0, .int 0, .int 0, .int (-1), .int 0, .int 0, .int 0, .int 0, .int 0, .int 0, .ref p2_0, .ref p2_1, .ref p2_2, .ref no, .ref no, .ref no, .long 0, .long 0, .int 0])), (p2_0, .inl (cI, 8, .inl (fun _ => 0))), (p2_1, .inl (cI, 16, .inl (fun _ => 0))), (p2_2, .inr (11, [.ref (sb.2 5), .int 0, .int 0])), (q6, .inr (1, [.ref p10_0, .ref p10_1])), (p10_0, .inr (11, [.ref (sb.2 5), .int 0, .int 0])), (p10_1, .inr (11, [.ref (sb.2 5), .int 0, .int 0])), (q17, .inr (1, [.ref p21_0, .ref p21_1])), (p21_0, .inr (11, [.ref (sb.2 5), .int 0, .int 0])), (p21_1, .inr (11, [.ref (sb.2 5), .int 0, .int 0])), (q28, .inr (1, [.ref p32_0, .ref p32_1])), (p32_0, .inr (11, [.ref (sb.2 5), .int 0, .int 0])), (p32_1, .inr (11, [.ref (sb.2 5), .int 0, .int 0]))] := hD
  refine lv_aload_n hx hb d_Certificate_init_63 rfl (lv_at hl 0 rfl) ?_
  refine lv_iconst (v := -1) hx hb d_Certificate_init_64 (by decide) ?_
  refine va_put (v := .int (-1)) (ty := .int) hx hb htb i_Certificate t_Certificate t_Certificate_ok n_Certificate hown hK hP hD hS 0 rfl rfl 13 (by decide) (htb _ q2_175) (fun _ h9 => h9) rfl (by decide +kernel) rfl rfl (Nat.le_of_ble_eq_true rfl) d_Certificate_init_65 (fun H65 locs hP hD hS => ?_)
  have hP : va_P (dC, dI) classes [(q0, .inr (3, [.ref q6, .ref q17, .ref q28, .null, .null, .null, .null, .null, .int 0, .int 0, .int 0, .int 0, .int (-1), .int (-1), .int 0, .int 0, .int 0, .int 0, .int 0, .ref p2_0, .ref p2_1, .ref p2_2, .ref no, .ref no, .ref no, .long 0, .long 0, .int 0])), (p2_0, .inl (cI, 8, .inl (fun _ => 0))), (p2_1, .inl (cI, 16, .inl (fun _ => 0))), (p2_2, .inr (11, [.ref (sb.2 5), .int 0, .int 0])), (q6, .inr (1, [.ref p10_0, .ref p10_1])), (p10_0, .inr (11, [.ref (sb.2 5), .int 0, .int 0])), (p10_1, .inr (11, [.ref (sb.2 5), .int 0, .int 0])), (q17, .inr (1, [.ref p21_0, .ref p21_1])), (p21_0, .inr (11, [.ref (sb.2 5), .int 0, .int 0])), (p21_1, .inr (11, [.ref (sb.2 5), .int 0, .int 0])), (q28, .inr (1, [.ref p32_0, .ref p32_1])), (p32_0, .inr (11, [.ref (sb.2 5), .int 0, .int 0])), (p32_1, .inr (11, [.ref (sb.2 5), .int 0, .int 0]))] H65 := hP
  have hD : va_D A [(q0, .inr (3, [.ref q6, .ref q17, .ref q28, .null, .null, .null, .null, .null, .int 0, .int 0, .int 0, .int 0, .int (-1), .int (-1), .int 0, .int 0, .int 0, .int 0, .int 0, .ref p2_0, .ref p2_1, .ref p2_2, .ref no, .ref no, .ref no, .long 0, .long 0, .int 0])), (p2_0, .inl (cI, 8, .inl (fun _ => 0))), (p2_1, .inl (cI, 16, .inl (fun _ => 0))), (p2_2, .inr (11, [.ref (sb.2 5), .int 0, .int 0])), (q6, .inr (1, [.ref p10_0, .ref p10_1])), (p10_0, .inr (11, [.ref (sb.2 5), .int 0, .int 0])), (p10_1, .inr (11, [.ref (sb.2 5), .int 0, .int 0])), (q17, .inr (1, [.ref p21_0, .ref p21_1])), (p21_0, .inr (11, [.ref (sb.2 5), .int 0, .int 0])), (p21_1, .inr (11, [.ref (sb.2 5), .int 0, .int 0])), (q28, .inr (1, [.ref p32_0, .ref p32_1])), (p32_0, .inr (11, [.ref (sb.2 5), .int 0, .int 0])), (p32_1, .inr (11, [.ref (sb.2 5), .int 0, .int 0]))] := hD
  refine lv_aload_n hx hb d_Certificate_init_68 rfl (lv_at hl 0 rfl) ?_
  refine lv_iconst (v := 0) hx hb d_Certificate_init_69 (by decide) ?_
  refine va_put (v := .int 0) (ty := .int) hx hb htb i_Certificate t_Certificate t_Certificate_ok n_Certificate hown hK hP hD hS 0 rfl rfl 14 (by decide) (htb _ q2_177) (fun _ h9 => h9) rfl (by decide +kernel) rfl rfl (Nat.le_of_ble_eq_true rfl) d_Certificate_init_70 (fun H70 locs hP hD hS => ?_)
  have hP : va_P (dC, dI) classes [(q0, .inr (3, [.ref q6, .ref q17, .ref q28, .null, .null, .null, .null, .null, .int 0, .int 0, .int 0, .int 0, .int (-1), .int (-1), .int 0, .int 0, .int 0, .int 0, .int 0, .ref p2_0, .ref p2_1, .ref p2_2, .ref no, .ref no, .ref no, .long 0, .long 0, .int 0])), (p2_0, .inl (cI, 8, .inl (fun _ => 0))), (p2_1, .inl (cI, 16, .inl (fun _ => 0))), (p2_2, .inr (11, [.ref (sb.2 5), .int 0, .int 0])), (q6, .inr (1, [.ref p10_0, .ref p10_1])), (p10_0, .inr (11, [.ref (sb.2 5), .int 0, .int 0])), (p10_1, .inr (11, [.ref (sb.2 5), .int 0, .int 0])), (q17, .inr (1, [.ref p21_0, .ref p21_1])), (p21_0, .inr (11, [.ref (sb.2 5), .int 0, .int 0])), (p21_1, .inr (11, [.ref (sb.2 5), .int 0, .int 0])), (q28, .inr (1, [.ref p32_0, .ref p32_1])), (p32_0, .inr (11, [.ref (sb.2 5), .int 0, .int 0])), (p32_1, .inr (11, [.ref (sb.2 5), .int 0, .int 0]))] H70 := hP
  have hD : va_D A [(q0, .inr (3, [.ref q6, .ref q17, .ref q28, .null, .null, .null, .null, .null, .int 0, .int 0, .int 0, .int 0, .int (-1), .int (-1), .int 0, .int 0, .int 0, .int 0, .int 0, .ref p2_0, .ref p2_1, .ref p2_2, .ref no, .ref no, .ref no, .long 0, .long 0, .int 0])), (p2_0, .inl (cI, 8, .inl (fun _ => 0))), (p2_1, .inl (cI, 16, .inl (fun _ => 0))), (p2_2, .inr (11, [.ref (sb.2 5), .int 0, .int 0])), (q6, .inr (1, [.ref p10_0, .ref p10_1])), (p10_0, .inr (11, [.ref (sb.2 5), .int 0, .int 0])), (p10_1, .inr (11, [.ref (sb.2 5), .int 0, .int 0])), (q17, .inr (1, [.ref p21_0, .ref p21_1])), (p21_0, .inr (11, [.ref (sb.2 5), .int 0, .int 0])), (p21_1, .inr (11, [.ref (sb.2 5), .int 0, .int 0])), (q28, .inr (1, [.ref p32_0, .ref p32_1])), (p32_0, .inr (11, [.ref (sb.2 5), .int 0, .int 0])), (p32_1, .inr (11, [.ref (sb.2 5), .int 0, .int 0]))] := hD
  refine lv_aload_n hx hb d_Certificate_init_73 rfl (lv_at hl 0 rfl) ?_
  refine lv_iconst (v := 0) hx hb d_Certificate_init_74 (by decide) ?_
  refine va_put (v := .int 0) (ty := .boolean) hx hb htb i_Certificate t_Certificate t_Certificate_ok n_Certificate hown hK hP hD hS 0 rfl rfl 15 (by decide) (htb _ q2_179) (fun _ h9 => h9) rfl (by decide +kernel) rfl rfl (Nat.le_of_ble_eq_true rfl) d_Certificate_init_75 (fun H75 locs hP hD hS => ?_)
  have hP : va_P (dC, dI) classes [(q0, .inr (3, [.ref q6, .ref q17, .ref q28, .null, .null, .null, .null, .null, .int 0, .int 0, .int 0, .int 0, .int (-1), .int (-1), .int 0, .int 0, .int 0, .int 0, .int 0, .ref p2_0, .ref p2_1, .ref p2_2, .ref no, .ref no, .ref no, .long 0, .long 0, .int 0])), (p2_0, .inl (cI, 8, .inl (fun _ => 0))), (p2_1, .inl (cI, 16, .inl (fun _ => 0))), (p2_2, .inr (11, [.ref (sb.2 5), .int 0, .int 0])), (q6, .inr (1, [.ref p10_0, .ref p10_1])), (p10_0, .inr (11, [.ref (sb.2 5), .int 0, .int 0])), (p10_1, .inr (11, [.ref (sb.2 5), .int 0, .int 0])), (q17, .inr (1, [.ref p21_0, .ref p21_1])), (p21_0, .inr (11, [.ref (sb.2 5), .int 0, .int 0])), (p21_1, .inr (11, [.ref (sb.2 5), .int 0, .int 0])), (q28, .inr (1, [.ref p32_0, .ref p32_1])), (p32_0, .inr (11, [.ref (sb.2 5), .int 0, .int 0])), (p32_1, .inr (11, [.ref (sb.2 5), .int 0, .int 0]))] H75 := hP
  have hD : va_D A [(q0, .inr (3, [.ref q6, .ref q17, .ref q28, .null, .null, .null, .null, .null, .int 0, .int 0, .int 0, .int 0, .int (-1), .int (-1), .int 0, .int 0, .int 0, .int 0, .int 0, .ref p2_0, .ref p2_1, .ref p2_2, .ref no, .ref no, .ref no, .long 0, .long 0, .int 0])), (p2_0, .inl (cI, 8, .inl (fun _ => 0))), (p2_1, .inl (cI, 16, .inl (fun _ => 0))), (p2_2, .inr (11, [.ref (sb.2 5), .int 0, .int 0])), (q6, .inr (1, [.ref p10_0, .ref p10_1])), (p10_0, .inr (11, [.ref (sb.2 5), .int 0, .int 0])), (p10_1, .inr (11, [.ref (sb.2 5), .int 0, .int 0])), (q17, .inr (1, [.ref p21_0, .ref p21_1])), (p21_0, .inr (11, [.ref (sb.2 5), .int 0, .int 0])), (p21_1, .inr (11, [.ref (sb.2 5), .int 0, .int 0])), (q28, .inr (1, [.ref p32_0, .ref p32_1])), (p32_0, .inr (11, [.ref (sb.2 5), .int 0, .int 0])), (p32_1, .inr (11, [.ref (sb.2 5), .int 0, .int 0]))] := hD
  refine lv_aload_n hx hb d_Certificate_init_78 rfl (lv_at hl 0 rfl) ?_
  refine lv_iconst (v := 0) hx hb d_Certificate_init_79 (by decide) ?_
  refine va_put (v := .int 0) (ty := .boolean) hx hb htb i_Certificate t_Certificate t_Certificate_ok n_Certificate hown hK hP hD hS 0 rfl rfl 16 (by decide) (htb _ q2_182) (fun _ h9 => h9) rfl (by decide +kernel) rfl rfl (Nat.le_of_ble_eq_true rfl) d_Certificate_init_80 (fun H80 locs hP hD hS => ?_)
  have hP : va_P (dC, dI) classes [(q0, .inr (3, [.ref q6, .ref q17, .ref q28, .null, .null, .null, .null, .null, .int 0, .int 0, .int 0, .int 0, .int (-1), .int (-1), .int 0, .int 0, .int 0, .int 0, .int 0, .ref p2_0, .ref p2_1, .ref p2_2, .ref no, .ref no, .ref no, .long 0, .long 0, .int 0])), (p2_0, .inl (cI, 8, .inl (fun _ => 0))), (p2_1, .inl (cI, 16, .inl (fun _ => 0))), (p2_2, .inr (11, [.ref (sb.2 5), .int 0, .int 0])), (q6, .inr (1, [.ref p10_0, .ref p10_1])), (p10_0, .inr (11, [.ref (sb.2 5), .int 0, .int 0])), (p10_1, .inr (11, [.ref (sb.2 5), .int 0, .int 0])), (q17, .inr (1, [.ref p21_0, .ref p21_1])), (p21_0, .inr (11, [.ref (sb.2 5), .int 0, .int 0])), (p21_1, .inr (11, [.ref (sb.2 5), .int 0, .int 0])), (q28, .inr (1, [.ref p32_0, .ref p32_1])), (p32_0, .inr (11, [.ref (sb.2 5), .int 0, .int 0])), (p32_1, .inr (11, [.ref (sb.2 5), .int 0, .int 0]))] H80 := hP
  have hD : va_D A [(q0, .inr (3, [.ref q6, .ref q17, .ref q28, .null, .null, .null, .null, .null, .int 0, .int 0, .int 0, .int 0, .int (-1), .int (-1), .int 0, .int 0, .int 0, .int 0, .int 0, .ref p2_0, .ref p2_1, .ref p2_2, .ref no, .ref no, .ref no, .long 0, .long 0, .int 0])), (p2_0, .inl (cI, 8, .inl (fun _ => 0))), (p2_1, .inl (cI, 16, .inl (fun _ => 0))), (p2_2, .inr (11, [.ref (sb.2 5), .int 0, .int 0])), (q6, .inr (1, [.ref p10_0, .ref p10_1])), (p10_0, .inr (11, [.ref (sb.2 5), .int 0, .int 0])), (p10_1, .inr (11, [.ref (sb.2 5), .int 0, .int 0])), (q17, .inr (1, [.ref p21_0, .ref p21_1])), (p21_0, .inr (11, [.ref (sb.2 5), .int 0, .int 0])), (p21_1, .inr (11, [.ref (sb.2 5), .int 0, .int 0])), (q28, .inr (1, [.ref p32_0, .ref p32_1])), (p32_0, .inr (11, [.ref (sb.2 5), .int 0, .int 0])), (p32_1, .inr (11, [.ref (sb.2 5), .int 0, .int 0]))] := hD
  refine lv_aload_n hx hb d_Certificate_init_83 rfl (lv_at hl 0 rfl) ?_
  refine lv_iconst (v := 0) hx hb d_Certificate_init_84 (by decide) ?_
  refine va_put (v := .int 0) (ty := .int) hx hb htb i_Certificate t_Certificate t_Certificate_ok n_Certificate hown hK hP hD hS 0 rfl rfl 17 (by decide) (htb _ q2_185) (fun _ h9 => h9) rfl (by decide +kernel) rfl rfl (Nat.le_of_ble_eq_true rfl) d_Certificate_init_85 (fun H85 locs hP hD hS => ?_)
  have hP : va_P (dC, dI) classes [(q0, .inr (3, [.ref q6, .ref q17, .ref q28, .null, .null, .null, .null, .null, .int 0, .int 0, .int 0, .int 0, .int (-1), .int (-1), .int 0, .int 0, .int 0, .int 0, .int 0, .ref p2_0, .ref p2_1, .ref p2_2, .ref no, .ref no, .ref no, .long 0, .long 0, .int 0])), (p2_0, .inl (cI, 8, .inl (fun _ => 0))), (p2_1, .inl (cI, 16, .inl (fun _ => 0))), (p2_2, .inr (11, [.ref (sb.2 5), .int 0, .int 0])), (q6, .inr (1, [.ref p10_0, .ref p10_1])), (p10_0, .inr (11, [.ref (sb.2 5), .int 0, .int 0])), (p10_1, .inr (11, [.ref (sb.2 5), .int 0, .int 0])), (q17, .inr (1, [.ref p21_0, .ref p21_1])), (p21_0, .inr (11, [.ref (sb.2 5), .int 0, .int 0])), (p21_1, .inr (11, [.ref (sb.2 5), .int 0, .int 0])), (q28, .inr (1, [.ref p32_0, .ref p32_1])), (p32_0, .inr (11, [.ref (sb.2 5), .int 0, .int 0])), (p32_1, .inr (11, [.ref (sb.2 5), .int 0, .int 0]))] H85 := hP
  have hD : va_D A [(q0, .inr (3, [.ref q6, .ref q17, .ref q28, .null, .null, .null, .null, .null, .int 0, .int 0, .int 0, .int 0, .int (-1), .int (-1), .int 0, .int 0, .int 0, .int 0, .int 0, .ref p2_0, .ref p2_1, .ref p2_2, .ref no, .ref no, .ref no, .long 0, .long 0, .int 0])), (p2_0, .inl (cI, 8, .inl (fun _ => 0))), (p2_1, .inl (cI, 16, .inl (fun _ => 0))), (p2_2, .inr (11, [.ref (sb.2 5), .int 0, .int 0])), (q6, .inr (1, [.ref p10_0, .ref p10_1])), (p10_0, .inr (11, [.ref (sb.2 5), .int 0, .int 0])), (p10_1, .inr (11, [.ref (sb.2 5), .int 0, .int 0])), (q17, .inr (1, [.ref p21_0, .ref p21_1])), (p21_0, .inr (11, [.ref (sb.2 5), .int 0, .int 0])), (p21_1, .inr (11, [.ref (sb.2 5), .int 0, .int 0])), (q28, .inr (1, [.ref p32_0, .ref p32_1])), (p32_0, .inr (11, [.ref (sb.2 5), .int 0, .int 0])), (p32_1, .inr (11, [.ref (sb.2 5), .int 0, .int 0]))] := hD
  refine lv_aload_n hx hb d_Certificate_init_88 rfl (lv_at hl 0 rfl) ?_
  refine lv_iconst (v := 0) hx hb d_Certificate_init_89 (by decide) ?_
  refine va_put (v := .int 0) (ty := .int) hx hb htb i_Certificate t_Certificate t_Certificate_ok n_Certificate hown hK hP hD hS 0 rfl rfl 18 (by decide) (htb _ q2_189) (fun _ h9 => h9) rfl (by decide +kernel) rfl rfl (Nat.le_of_ble_eq_true rfl) d_Certificate_init_90 (fun H90 locs hP hD hS => ?_)
  have hP : va_P (dC, dI) classes [(q0, .inr (3, [.ref q6, .ref q17, .ref q28, .null, .null, .null, .null, .null, .int 0, .int 0, .int 0, .int 0, .int (-1), .int (-1), .int 0, .int 0, .int 0, .int 0, .int 0, .ref p2_0, .ref p2_1, .ref p2_2, .ref no, .ref no, .ref no, .long 0, .long 0, .int 0])), (p2_0, .inl (cI, 8, .inl (fun _ => 0))), (p2_1, .inl (cI, 16, .inl (fun _ => 0))), (p2_2, .inr (11, [.ref (sb.2 5), .int 0, .int 0])), (q6, .inr (1, [.ref p10_0, .ref p10_1])), (p10_0, .inr (11, [.ref (sb.2 5), .int 0, .int 0])), (p10_1, .inr (11, [.ref (sb.2 5), .int 0, .int 0])), (q17, .inr (1, [.ref p21_0, .ref p21_1])), (p21_0, .inr (11, [.ref (sb.2 5), .int 0, .int 0])), (p21_1, .inr (11, [.ref (sb.2 5), .int 0, .int 0])), (q28, .inr (1, [.ref p32_0, .ref p32_1])), (p32_0, .inr (11, [.ref (sb.2 5), .int 0, .int 0])), (p32_1, .inr (11, [.ref (sb.2 5), .int 0, .int 0]))] H90 := hP
  have hD : va_D A [(q0, .inr (3, [.ref q6, .ref q17, .ref q28, .null, .null, .null, .null, .null, .int 0, .int 0, .int 0, .int 0, .int (-1), .int (-1), .int 0, .int 0, .int 0, .int 0, .int 0, .ref p2_0, .ref p2_1, .ref p2_2, .ref no, .ref no, .ref no, .long 0, .long 0, .int 0])), (p2_0, .inl (cI, 8, .inl (fun _ => 0))), (p2_1, .inl (cI, 16, .inl (fun _ => 0))), (p2_2, .inr (11, [.ref (sb.2 5), .int 0, .int 0])), (q6, .inr (1, [.ref p10_0, .ref p10_1])), (p10_0, .inr (11, [.ref (sb.2 5), .int 0, .int 0])), (p10_1, .inr (11, [.ref (sb.2 5), .int 0, .int 0])), (q17, .inr (1, [.ref p21_0, .ref p21_1])), (p21_0, .inr (11, [.ref (sb.2 5), .int 0, .int 0])), (p21_1, .inr (11, [.ref (sb.2 5), .int 0, .int 0])), (q28, .inr (1, [.ref p32_0, .ref p32_1])), (p32_0, .inr (11, [.ref (sb.2 5), .int 0, .int 0])), (p32_1, .inr (11, [.ref (sb.2 5), .int 0, .int 0]))] := hD
  refine lv_aload_n hx hb d_Certificate_init_93 rfl (lv_at hl 0 rfl) ?_
  refine lv_aload_n hx hb d_Certificate_init_94 rfl (lv_at hl 1 rfl) ?_
  refine va_put (v := .ref no) (ty := (.object "TrustChain$Slice")) hx hb htb i_Certificate t_Certificate t_Certificate_ok n_Certificate hown hK hP hD hS 0 rfl rfl 3 (by decide) (htb _ q2_147) (fun _ h9 => h9) rfl (by decide +kernel) rfl rfl (Nat.le_of_ble_eq_true rfl) d_Certificate_init_95 (fun H95 locs hP hD hS => ?_)
  have hP : va_P (dC, dI) classes [(q0, .inr (3, [.ref q6, .ref q17, .ref q28, .ref no, .null, .null, .null, .null, .int 0, .int 0, .int 0, .int 0, .int (-1), .int (-1), .int 0, .int 0, .int 0, .int 0, .int 0, .ref p2_0, .ref p2_1, .ref p2_2, .ref no, .ref no, .ref no, .long 0, .long 0, .int 0])), (p2_0, .inl (cI, 8, .inl (fun _ => 0))), (p2_1, .inl (cI, 16, .inl (fun _ => 0))), (p2_2, .inr (11, [.ref (sb.2 5), .int 0, .int 0])), (q6, .inr (1, [.ref p10_0, .ref p10_1])), (p10_0, .inr (11, [.ref (sb.2 5), .int 0, .int 0])), (p10_1, .inr (11, [.ref (sb.2 5), .int 0, .int 0])), (q17, .inr (1, [.ref p21_0, .ref p21_1])), (p21_0, .inr (11, [.ref (sb.2 5), .int 0, .int 0])), (p21_1, .inr (11, [.ref (sb.2 5), .int 0, .int 0])), (q28, .inr (1, [.ref p32_0, .ref p32_1])), (p32_0, .inr (11, [.ref (sb.2 5), .int 0, .int 0])), (p32_1, .inr (11, [.ref (sb.2 5), .int 0, .int 0]))] H95 := hP
  have hD : va_D A [(q0, .inr (3, [.ref q6, .ref q17, .ref q28, .ref no, .null, .null, .null, .null, .int 0, .int 0, .int 0, .int 0, .int (-1), .int (-1), .int 0, .int 0, .int 0, .int 0, .int 0, .ref p2_0, .ref p2_1, .ref p2_2, .ref no, .ref no, .ref no, .long 0, .long 0, .int 0])), (p2_0, .inl (cI, 8, .inl (fun _ => 0))), (p2_1, .inl (cI, 16, .inl (fun _ => 0))), (p2_2, .inr (11, [.ref (sb.2 5), .int 0, .int 0])), (q6, .inr (1, [.ref p10_0, .ref p10_1])), (p10_0, .inr (11, [.ref (sb.2 5), .int 0, .int 0])), (p10_1, .inr (11, [.ref (sb.2 5), .int 0, .int 0])), (q17, .inr (1, [.ref p21_0, .ref p21_1])), (p21_0, .inr (11, [.ref (sb.2 5), .int 0, .int 0])), (p21_1, .inr (11, [.ref (sb.2 5), .int 0, .int 0])), (q28, .inr (1, [.ref p32_0, .ref p32_1])), (p32_0, .inr (11, [.ref (sb.2 5), .int 0, .int 0])), (p32_1, .inr (11, [.ref (sb.2 5), .int 0, .int 0]))] := hD
  refine lv_aload_n hx hb d_Certificate_init_98 rfl (lv_at hl 0 rfl) ?_
  refine lv_aload_n hx hb d_Certificate_init_99 rfl (lv_at hl 1 rfl) ?_
  refine va_put (v := .ref no) (ty := (.object "TrustChain$Slice")) hx hb htb i_Certificate t_Certificate t_Certificate_ok n_Certificate hown hK hP hD hS 0 rfl rfl 4 (by decide) (htb _ q2_150) (fun _ h9 => h9) rfl (by decide +kernel) rfl rfl (Nat.le_of_ble_eq_true rfl) d_Certificate_init_100 (fun H100 locs hP hD hS => ?_)
  have hP : va_P (dC, dI) classes [(q0, .inr (3, [.ref q6, .ref q17, .ref q28, .ref no, .ref no, .null, .null, .null, .int 0, .int 0, .int 0, .int 0, .int (-1), .int (-1), .int 0, .int 0, .int 0, .int 0, .int 0, .ref p2_0, .ref p2_1, .ref p2_2, .ref no, .ref no, .ref no, .long 0, .long 0, .int 0])), (p2_0, .inl (cI, 8, .inl (fun _ => 0))), (p2_1, .inl (cI, 16, .inl (fun _ => 0))), (p2_2, .inr (11, [.ref (sb.2 5), .int 0, .int 0])), (q6, .inr (1, [.ref p10_0, .ref p10_1])), (p10_0, .inr (11, [.ref (sb.2 5), .int 0, .int 0])), (p10_1, .inr (11, [.ref (sb.2 5), .int 0, .int 0])), (q17, .inr (1, [.ref p21_0, .ref p21_1])), (p21_0, .inr (11, [.ref (sb.2 5), .int 0, .int 0])), (p21_1, .inr (11, [.ref (sb.2 5), .int 0, .int 0])), (q28, .inr (1, [.ref p32_0, .ref p32_1])), (p32_0, .inr (11, [.ref (sb.2 5), .int 0, .int 0])), (p32_1, .inr (11, [.ref (sb.2 5), .int 0, .int 0]))] H100 := hP
  have hD : va_D A [(q0, .inr (3, [.ref q6, .ref q17, .ref q28, .ref no, .ref no, .null, .null, .null, .int 0, .int 0, .int 0, .int 0, .int (-1), .int (-1), .int 0, .int 0, .int 0, .int 0, .int 0, .ref p2_0, .ref p2_1, .ref p2_2, .ref no, .ref no, .ref no, .long 0, .long 0, .int 0])), (p2_0, .inl (cI, 8, .inl (fun _ => 0))), (p2_1, .inl (cI, 16, .inl (fun _ => 0))), (p2_2, .inr (11, [.ref (sb.2 5), .int 0, .int 0])), (q6, .inr (1, [.ref p10_0, .ref p10_1])), (p10_0, .inr (11, [.ref (sb.2 5), .int 0, .int 0])), (p10_1, .inr (11, [.ref (sb.2 5), .int 0, .int 0])), (q17, .inr (1, [.ref p21_0, .ref p21_1])), (p21_0, .inr (11, [.ref (sb.2 5), .int 0, .int 0])), (p21_1, .inr (11, [.ref (sb.2 5), .int 0, .int 0])), (q28, .inr (1, [.ref p32_0, .ref p32_1])), (p32_0, .inr (11, [.ref (sb.2 5), .int 0, .int 0])), (p32_1, .inr (11, [.ref (sb.2 5), .int 0, .int 0]))] := hD
  refine lv_aload_n hx hb d_Certificate_init_103 rfl (lv_at hl 0 rfl) ?_
  refine lv_aload_n hx hb d_Certificate_init_104 rfl (lv_at hl 1 rfl) ?_
  refine va_put (v := .ref no) (ty := (.object "TrustChain$Slice")) hx hb htb i_Certificate t_Certificate t_Certificate_ok n_Certificate hown hK hP hD hS 0 rfl rfl 5 (by decide) (htb _ q2_153) (fun _ h9 => h9) rfl (by decide +kernel) rfl rfl (Nat.le_of_ble_eq_true rfl) d_Certificate_init_105 (fun H105 locs hP hD hS => ?_)
  have hP : va_P (dC, dI) classes [(q0, .inr (3, [.ref q6, .ref q17, .ref q28, .ref no, .ref no, .ref no, .null, .null, .int 0, .int 0, .int 0, .int 0, .int (-1), .int (-1), .int 0, .int 0, .int 0, .int 0, .int 0, .ref p2_0, .ref p2_1, .ref p2_2, .ref no, .ref no, .ref no, .long 0, .long 0, .int 0])), (p2_0, .inl (cI, 8, .inl (fun _ => 0))), (p2_1, .inl (cI, 16, .inl (fun _ => 0))), (p2_2, .inr (11, [.ref (sb.2 5), .int 0, .int 0])), (q6, .inr (1, [.ref p10_0, .ref p10_1])), (p10_0, .inr (11, [.ref (sb.2 5), .int 0, .int 0])), (p10_1, .inr (11, [.ref (sb.2 5), .int 0, .int 0])), (q17, .inr (1, [.ref p21_0, .ref p21_1])), (p21_0, .inr (11, [.ref (sb.2 5), .int 0, .int 0])), (p21_1, .inr (11, [.ref (sb.2 5), .int 0, .int 0])), (q28, .inr (1, [.ref p32_0, .ref p32_1])), (p32_0, .inr (11, [.ref (sb.2 5), .int 0, .int 0])), (p32_1, .inr (11, [.ref (sb.2 5), .int 0, .int 0]))] H105 := hP
  have hD : va_D A [(q0, .inr (3, [.ref q6, .ref q17, .ref q28, .ref no, .ref no, .ref no, .null, .null, .int 0, .int 0, .int 0, .int 0, .int (-1), .int (-1), .int 0, .int 0, .int 0, .int 0, .int 0, .ref p2_0, .ref p2_1, .ref p2_2, .ref no, .ref no, .ref no, .long 0, .long 0, .int 0])), (p2_0, .inl (cI, 8, .inl (fun _ => 0))), (p2_1, .inl (cI, 16, .inl (fun _ => 0))), (p2_2, .inr (11, [.ref (sb.2 5), .int 0, .int 0])), (q6, .inr (1, [.ref p10_0, .ref p10_1])), (p10_0, .inr (11, [.ref (sb.2 5), .int 0, .int 0])), (p10_1, .inr (11, [.ref (sb.2 5), .int 0, .int 0])), (q17, .inr (1, [.ref p21_0, .ref p21_1])), (p21_0, .inr (11, [.ref (sb.2 5), .int 0, .int 0])), (p21_1, .inr (11, [.ref (sb.2 5), .int 0, .int 0])), (q28, .inr (1, [.ref p32_0, .ref p32_1])), (p32_0, .inr (11, [.ref (sb.2 5), .int 0, .int 0])), (p32_1, .inr (11, [.ref (sb.2 5), .int 0, .int 0]))] := hD
  refine lv_aload_n hx hb d_Certificate_init_108 rfl (lv_at hl 0 rfl) ?_
  refine lv_aload_n hx hb d_Certificate_init_109 rfl (lv_at hl 1 rfl) ?_
  refine va_put (v := .ref no) (ty := (.object "TrustChain$Slice")) hx hb htb i_Certificate t_Certificate t_Certificate_ok n_Certificate hown hK hP hD hS 0 rfl rfl 6 (by decide) (htb _ q2_156) (fun _ h9 => h9) rfl (by decide +kernel) rfl rfl (Nat.le_of_ble_eq_true rfl) d_Certificate_init_110 (fun H110 locs hP hD hS => ?_)
  have hP : va_P (dC, dI) classes [(q0, .inr (3, [.ref q6, .ref q17, .ref q28, .ref no, .ref no, .ref no, .ref no, .null, .int 0, .int 0, .int 0, .int 0, .int (-1), .int (-1), .int 0, .int 0, .int 0, .int 0, .int 0, .ref p2_0, .ref p2_1, .ref p2_2, .ref no, .ref no, .ref no, .long 0, .long 0, .int 0])), (p2_0, .inl (cI, 8, .inl (fun _ => 0))), (p2_1, .inl (cI, 16, .inl (fun _ => 0))), (p2_2, .inr (11, [.ref (sb.2 5), .int 0, .int 0])), (q6, .inr (1, [.ref p10_0, .ref p10_1])), (p10_0, .inr (11, [.ref (sb.2 5), .int 0, .int 0])), (p10_1, .inr (11, [.ref (sb.2 5), .int 0, .int 0])), (q17, .inr (1, [.ref p21_0, .ref p21_1])), (p21_0, .inr (11, [.ref (sb.2 5), .int 0, .int 0])), (p21_1, .inr (11, [.ref (sb.2 5), .int 0, .int 0])), (q28, .inr (1, [.ref p32_0, .ref p32_1])), (p32_0, .inr (11, [.ref (sb.2 5), .int 0, .int 0])), (p32_1, .inr (11, [.ref (sb.2 5), .int 0, .int 0]))] H110 := hP
  have hD : va_D A [(q0, .inr (3, [.ref q6, .ref q17, .ref q28, .ref no, .ref no, .ref no, .ref no, .null, .int 0, .int 0, .int 0, .int 0, .int (-1), .int (-1), .int 0, .int 0, .int 0, .int 0, .int 0, .ref p2_0, .ref p2_1, .ref p2_2, .ref no, .ref no, .ref no, .long 0, .long 0, .int 0])), (p2_0, .inl (cI, 8, .inl (fun _ => 0))), (p2_1, .inl (cI, 16, .inl (fun _ => 0))), (p2_2, .inr (11, [.ref (sb.2 5), .int 0, .int 0])), (q6, .inr (1, [.ref p10_0, .ref p10_1])), (p10_0, .inr (11, [.ref (sb.2 5), .int 0, .int 0])), (p10_1, .inr (11, [.ref (sb.2 5), .int 0, .int 0])), (q17, .inr (1, [.ref p21_0, .ref p21_1])), (p21_0, .inr (11, [.ref (sb.2 5), .int 0, .int 0])), (p21_1, .inr (11, [.ref (sb.2 5), .int 0, .int 0])), (q28, .inr (1, [.ref p32_0, .ref p32_1])), (p32_0, .inr (11, [.ref (sb.2 5), .int 0, .int 0])), (p32_1, .inr (11, [.ref (sb.2 5), .int 0, .int 0]))] := hD
  refine lv_aload_n hx hb d_Certificate_init_113 rfl (lv_at hl 0 rfl) ?_
  refine lv_aload_n hx hb d_Certificate_init_114 rfl (lv_at hl 1 rfl) ?_
  refine va_put (v := .ref no) (ty := (.object "TrustChain$Slice")) hx hb htb i_Certificate t_Certificate t_Certificate_ok n_Certificate hown hK hP hD hS 0 rfl rfl 7 (by decide) (htb _ q2_158) (fun _ h9 => h9) rfl (by decide +kernel) rfl rfl (Nat.le_of_ble_eq_true rfl) d_Certificate_init_115 (fun H115 locs hP hD hS => ?_)
  have hP : va_P (dC, dI) classes [(q0, .inr (3, [.ref q6, .ref q17, .ref q28, .ref no, .ref no, .ref no, .ref no, .ref no, .int 0, .int 0, .int 0, .int 0, .int (-1), .int (-1), .int 0, .int 0, .int 0, .int 0, .int 0, .ref p2_0, .ref p2_1, .ref p2_2, .ref no, .ref no, .ref no, .long 0, .long 0, .int 0])), (p2_0, .inl (cI, 8, .inl (fun _ => 0))), (p2_1, .inl (cI, 16, .inl (fun _ => 0))), (p2_2, .inr (11, [.ref (sb.2 5), .int 0, .int 0])), (q6, .inr (1, [.ref p10_0, .ref p10_1])), (p10_0, .inr (11, [.ref (sb.2 5), .int 0, .int 0])), (p10_1, .inr (11, [.ref (sb.2 5), .int 0, .int 0])), (q17, .inr (1, [.ref p21_0, .ref p21_1])), (p21_0, .inr (11, [.ref (sb.2 5), .int 0, .int 0])), (p21_1, .inr (11, [.ref (sb.2 5), .int 0, .int 0])), (q28, .inr (1, [.ref p32_0, .ref p32_1])), (p32_0, .inr (11, [.ref (sb.2 5), .int 0, .int 0])), (p32_1, .inr (11, [.ref (sb.2 5), .int 0, .int 0]))] H115 := hP
  have hD : va_D A [(q0, .inr (3, [.ref q6, .ref q17, .ref q28, .ref no, .ref no, .ref no, .ref no, .ref no, .int 0, .int 0, .int 0, .int 0, .int (-1), .int (-1), .int 0, .int 0, .int 0, .int 0, .int 0, .ref p2_0, .ref p2_1, .ref p2_2, .ref no, .ref no, .ref no, .long 0, .long 0, .int 0])), (p2_0, .inl (cI, 8, .inl (fun _ => 0))), (p2_1, .inl (cI, 16, .inl (fun _ => 0))), (p2_2, .inr (11, [.ref (sb.2 5), .int 0, .int 0])), (q6, .inr (1, [.ref p10_0, .ref p10_1])), (p10_0, .inr (11, [.ref (sb.2 5), .int 0, .int 0])), (p10_1, .inr (11, [.ref (sb.2 5), .int 0, .int 0])), (q17, .inr (1, [.ref p21_0, .ref p21_1])), (p21_0, .inr (11, [.ref (sb.2 5), .int 0, .int 0])), (p21_1, .inr (11, [.ref (sb.2 5), .int 0, .int 0])), (q28, .inr (1, [.ref p32_0, .ref p32_1])), (p32_0, .inr (11, [.ref (sb.2 5), .int 0, .int 0])), (p32_1, .inr (11, [.ref (sb.2 5), .int 0, .int 0]))] := hD
  exact W.vret hx hb hr (fun t ht hW => ⟨⟨(p2_0, p2_1, p2_2, q6, p10_0, p10_1, q17, p21_0, p21_1, q28, p32_0, p32_1), rfl, trivial, by rw [ht]; exact hP, va_K.moved hW.alike hK, hD⟩, hS.F ht⟩) hS.2.2 d_Certificate_init_118
