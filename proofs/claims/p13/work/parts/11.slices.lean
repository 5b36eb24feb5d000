/-! Slices are made: the constructor; Reader.plain, number, serial, issuerKey. -/
section MUI
variable {p : Program} {l : Launch} {e : Env} {R : Room} {s : State} {m : MethodId} {args : Array Value} {below : List Frame} {meth : Method} {c : Code} {H : Heap} {locs : List Loc} {cells slots : Nat} {Q : State → Prop}
variable {pc : Nat} {ls : Array Slot} {rest st0 : List Value} {cc bytes : ByteArray} {nL maxL index : Nat} {Ts : List Cond} {own : String} {y : MethodName} {rm : Room} {D : va_G} {ws wsB : va_W} {tys tysB : List (ClassId × FieldType)} {As : List Value} {b n mc ms : Nat} {A : Nat → Prop} {sb : sB}
/-- a call of a constructor -/
theorem mu_runI {Qc : Array Value → State → Outcome → State → Prop} (S : CallFix p m c cc nL s args Ts own) (hin : ∀ w ∈ tb, w ∈ Ts) (hM : Met l y (Cond.code y bytes maxL none :: tb) rm (mu_P (.ref b :: As) D sb ws tys H.size) Qc mc ms (va_A ws H.size))
    (h1 : Cond.methodLink own index y ∈ tb) (h2 : Cond.instanceMethod y ∈ tb) (h4 : Cond.initialized y.cls ∈ tb) (h5 : Cond.code y bytes maxL none ∈ tb) (hy : y.name = "<init>")
    (hd : y.cls ≠ "java/lang/invoke/MethodHandle" ∧ y.cls ≠ "java/lang/invoke/VarHandle" ∧ (parseMethodDescriptor y.desc).map (fun d => d.parameters.length) = some n) (hn : As.length = n)
    (hz : rm.cells = mc ∧ rm.slots = ms) (hR : rm.frames + 1 ≤ R.frames ∧ 8 + (maxL + 11) + rm.locals ≤ R.locals) (hf : cells + mc ≤ R.cells ∧ slots + ms ≤ R.slots)
    (hN : nwOK sb s) (hT : stOK sb s H) (hAs : ∀ q, A q → sb.1 ≤ q) (hbH : sb.1 ≤ H.size) (hK : va_K D classes tysB s) (hP : va_P D classes wsB H) (hD : va_D A wsB) (is : List Nat) (hnd : va_nd is = true) (hs : is.map (fun i => wsB[i]?) = ws.map some) (ts : List Nat) (ht : ts.filterMap (fun i => tysB[i]?) = tys)
    (hsize : ls.size = nL) (hstack : st0 = As.reverse ++ .ref b :: rest) (hW : (rest.map fun v => v.category).sum ≤ 8) (hdg : decode cc pc = .ok (.invokespecial index, 3)) :
    va_Run p l e R s m args below meth c H locs cells slots mc ms (F0 m pc ls st0) rest (Qc (Value.ref b :: As).toArray) (va_A ws H.size) := by
  subst hstack
  subst hn
  exact va_runI (As := As) (rest := rest) S hM (cwI As.length S.2.2.2.2 (gd_in hin (gd_cons h5)) rfl hz.1 hz.2 (S.2.2.2.2 _ (hin _ h4)) (S.2.2.2.2 _ (hin _ h1)) (S.2.2.2.2 _ (hin _ h2)) hy hd hR) ⟨mu_blind, mu_pre hN hT hAs hbH hK hP hD is hnd hs ts ht⟩ rfl rfl hsize rfl (lv_room hW) hdg ⟨hf.1, hf.2⟩
end MUI
/-- plain: the reader behind it, and the slice -/
def rd_plain (u : Nat → Nat) (n : Nat) (x : rS) (tg le en : Nat) : rS × Nat × Nat :=
  let o := rd_opn u n x tg en
  (rd_lea o.1 o.2 (zI (le ≤ o.2 - o.1.1)), o.1.1, o.2)
/-- an INTEGER's octets: one at least, as few as can be -/
def numOK (u : Nat → Nat) (n a b : Nat) : Prop := a < b ∧ ¬ (1 < b - a ∧ ((oc u n a = 0 ∧ ¬ 128 ≤ oc u n (a + 1)) ∨ (oc u n a = 255 ∧ 128 ≤ oc u n (a + 1))))
def y_Slice_init : MethodName := ⟨"TrustChain$Slice", "<init>", "([BII)V"⟩
abbrev b_Slice_init : ByteArray := prog_12_method_1_code
def w_Slice_init : List Cond := Cond.code y_Slice_init b_Slice_init 4 (none) :: tb
theorem d_Slice_init_0 : decode b_Slice_init 0 = .ok (.aload_n 0, 1) := by decide +kernel
theorem d_Slice_init_1 : decode b_Slice_init 1 = .ok (.invokespecial 3, 3) := by decide +kernel
theorem d_Slice_init_4 : decode b_Slice_init 4 = .ok (.aload_n 0, 1) := by decide +kernel
theorem d_Slice_init_5 : decode b_Slice_init 5 = .ok (.aload_n 1, 1) := by decide +kernel
theorem d_Slice_init_6 : decode b_Slice_init 6 = .ok (.putfield 9, 3) := by decide +kernel
theorem d_Slice_init_9 : decode b_Slice_init 9 = .ok (.aload_n 0, 1) := by decide +kernel
theorem d_Slice_init_10 : decode b_Slice_init 10 = .ok (.iload_n 2, 1) := by decide +kernel
theorem d_Slice_init_11 : decode b_Slice_init 11 = .ok (.putfield 15, 3) := by decide +kernel
theorem d_Slice_init_14 : decode b_Slice_init 14 = .ok (.aload_n 0, 1) := by decide +kernel
theorem d_Slice_init_15 : decode b_Slice_init 15 = .ok (.iload_n 3, 1) := by decide +kernel
theorem d_Slice_init_16 : decode b_Slice_init 16 = .ok (.putfield 19, 3) := by decide +kernel
theorem d_Slice_init_19 : decode b_Slice_init 19 = .ok (.return_, 1) := by decide +kernel
set_option maxHeartbeats 4000000 in
set_option maxRecDepth 100000 in
theorem c_Slice_init (l : Launch) (dC : Nat → ClassId) (dI : Nat → Nat → Nat) (sb : sB) (q0 t : Nat) (a b : Int32) (sz : Nat) : Met l y_Slice_init w_Slice_init ({ frames := 1, cells := 0, slots := 0, locals := 20 }) (mu_P [.ref q0, .ref t, .int a, .int b] (dC, dI) sb [(q0, .inr (0, [.null, .int 0, .int 0]))] [] sz) (va_Qv (fun (_u : Unit) => True) (mu_B (dC, dI) [] (va_A [(q0, .inr (0, [.null, .int 0, .int 0]))] sz) (fun _ : Unit => [(q0, .inr (0, [.ref t, .int a, .int b]))])) (va_A [(q0, .inr (0, [.null, .int 0, .int 0]))] sz)) 0 0 (va_A [(q0, .inr (0, [.null, .int 0, .int 0]))] sz) := by
  refine Met.ofW (cc := b_Slice_init) (maxL := 4) (ret := none) (by decide) rfl ?_
  intro p e s m args below meth c s₁ B hml hv
  obtain ⟨rfl, hsz, hB0, hP, hK, hD0, hN, hT0⟩ := hv
  have hx := B.exec
  have hb := B.bytes
  have hr := B.returns
  have hts := atoms_spec (ws := w_Slice_init) B.pre
  have tbin : ∀ w ∈ tb, w ∈ w_Slice_init := fun w h => List.mem_cons_of_mem _ h
  have htb : ∀ w ∈ tb, w.before _ s = true := fun w h => hts w (tbin w h)
  have hown : s.vm.findClass "TrustChain$Slice" = some m.cls := findClass_of_methodNamed B.named
  have hlocks := B.notSynchronized
  have hin : meth.name = "<init>" := (name_of_methodNamed B.named B.method).1
  subst hsz
  have hD := hD0.self (sz := s.heap.size)
  generalize hAe : va_A [(q0, .inr (0, [.null, .int 0, .int 0]))] s.heap.size = A at hD ⊢
  have hA : ∀ q : Nat, s.heap.size ≤ q → A q := fun q h => by rw [← hAe]; exact Or.inr h
  have hAs : ∀ q : Nat, A q → sb.1 ≤ q := fun q h => by
    rw [← hAe] at h
    rcases h with ⟨k, e, h⟩ | h
    · exact hD0.2 k _ h
    · exact Nat.le_trans hB0 h
  have hS : va_S A s.heap s.heap [] := va_S.rf
  have hcs : 0 ≤ (headSpec w_Slice_init ({ frames := 1, cells := 0, slots := 0, locals := 20 })).room.cells ∧ 0 ≤ (headSpec w_Slice_init ({ frames := 1, cells := 0, slots := 0, locals := 20 })).room.slots := ⟨Nat.le_refl _, Nat.le_refl _⟩
  have hP : va_P (dC, dI) classes [(q0, .inr (0, [.null, .int 0, .int 0]))] s.heap := hP
  have hl := lv_entry ([.ref q0, .ref t, .int a, .int b]) (n := 4) (Nat.le_of_ble_eq_true rfl)
  rw [lg_entry_eq]
  generalize (lg_sl ([.ref q0, .ref t, .int a, .int b]) ++ List.replicate (4 - (lg_sl ([.ref q0, .ref t, .int a, .int b])).length) Slot.unset).toArray = ls at hl ⊢
  have hl : lv_has ls 4 [(0, .ref q0), (1, .ref t), (2, .int a), (3, .int b)] := hl
  refine lv_aload_n hx hb d_Slice_init_0 rfl (lv_at hl 0 rfl) ?_
  refine W.objInit hx hb hown (htb _ q2_96) (htb _ q1_39) (htb _ q1_40) rfl (by rw [hml]; exact hl.1) rfl d_Slice_init_1 (Nat.le_of_ble_eq_true rfl) (Nat.le_of_ble_eq_true rfl) ?_
  refine W.eq (g2 := F0 m 4 ls []) rfl ?_
  refine lv_aload_n hx hb d_Slice_init_4 rfl (lv_at hl 0 rfl) ?_
  refine lv_aload_n hx hb d_Slice_init_5 rfl (lv_at hl 1 rfl) ?_
  refine va_putF (v := .ref t) (ty := (.array .byte)) hx hb htb i_Slice t_Slice t_Slice_ok n_Slice hown hK hP hD hS 0 rfl rfl 0 (by decide) (htb _ q2_97) (fun _ h9 => h9) rfl hin rfl (by decide +kernel) rfl rfl (Nat.le_of_ble_eq_true rfl) d_Slice_init_6 (fun H6 locs hP hD hS => ?_)
  have hP : va_P (dC, dI) classes [(q0, .inr (0, [.ref t, .int 0, .int 0]))] H6 := hP
  have hD : va_D A [(q0, .inr (0, [.ref t, .int 0, .int 0]))] := hD
  refine lv_aload_n hx hb d_Slice_init_9 rfl (lv_at hl 0 rfl) ?_
  refine lv_iload_n hx hb d_Slice_init_10 rfl (lv_at hl 2 rfl) ?_
  refine va_putF (v := .int a) (ty := .int) hx hb htb i_Slice t_Slice t_Slice_ok n_Slice hown hK hP hD hS 0 rfl rfl 1 (by decide) (htb _ q2_98) (fun _ h9 => h9) rfl hin rfl (by decide +kernel) rfl rfl (Nat.le_of_ble_eq_true rfl) d_Slice_init_11 (fun H11 locs hP hD hS => ?_)
  have hP : va_P (dC, dI) classes [(q0, .inr (0, [.ref t, .int a, .int 0]))] H11 := hP
  have hD : va_D A [(q0, .inr (0, [.ref t, .int a, .int 0]))] := hD
  refine lv_aload_n hx hb d_Slice_init_14 rfl (lv_at hl 0 rfl) ?_
  refine lv_iload_n hx hb d_Slice_init_15 rfl (lv_at hl 3 rfl) ?_
  refine va_putF (v := .int b) (ty := .int) hx hb htb i_Slice t_Slice t_Slice_ok n_Slice hown hK hP hD hS 0 rfl rfl 2 (by decide) (htb _ q2_100) (fun _ h9 => h9) rfl hin rfl (by decide +kernel) rfl rfl (Nat.le_of_ble_eq_true rfl) d_Slice_init_16 (fun H16 locs hP hD hS => ?_)
  have hP : va_P (dC, dI) classes [(q0, .inr (0, [.ref t, .int a, .int b]))] H16 := hP
  have hD : va_D A [(q0, .inr (0, [.ref t, .int a, .int b]))] := hD
  exact W.vret hx hb hr (fun t ht hW => ⟨⟨(), rfl, trivial, by rw [ht]; exact hP, va_K.moved hW.alike hK, hD⟩, hS.F ht⟩) hS.2.2 d_Slice_init_19
def y_Reader_plain : MethodName := ⟨"TrustChain$Reader", "plain", "(III)LTrustChain$Slice;"⟩
abbrev b_Reader_plain : ByteArray := prog_8_method_15_code
def w_Reader_plain : List Cond := Cond.code y_Reader_plain b_Reader_plain 6 ((some (FieldType.object "TrustChain$Slice"))) :: tb
theorem d_Reader_plain_0 : decode b_Reader_plain 0 = .ok (.aload_n 0, 1) := by decide +kernel
theorem d_Reader_plain_1 : decode b_Reader_plain 1 = .ok (.iload_n 1, 1) := by decide +kernel
theorem d_Reader_plain_2 : decode b_Reader_plain 2 = .ok (.iload_n 3, 1) := by decide +kernel
theorem d_Reader_plain_3 : decode b_Reader_plain 3 = .ok (.invokevirtual 49, 3) := by decide +kernel
theorem d_Reader_plain_6 : decode b_Reader_plain 6 = .ok (.istore 4, 2) := by decide +kernel
theorem d_Reader_plain_8 : decode b_Reader_plain 8 = .ok (.aload_n 0, 1) := by decide +kernel
theorem d_Reader_plain_9 : decode b_Reader_plain 9 = .ok (.getfield 9, 3) := by decide +kernel
theorem d_Reader_plain_12 : decode b_Reader_plain 12 = .ok (.istore 5, 2) := by decide +kernel
theorem d_Reader_plain_14 : decode b_Reader_plain 14 = .ok (.aload_n 0, 1) := by decide +kernel
theorem d_Reader_plain_15 : decode b_Reader_plain 15 = .ok (.iload 4, 2) := by decide +kernel
theorem d_Reader_plain_17 : decode b_Reader_plain 17 = .ok (.iload 4, 2) := by decide +kernel
theorem d_Reader_plain_19 : decode b_Reader_plain 19 = .ok (.iload 5, 2) := by decide +kernel
theorem d_Reader_plain_21 : decode b_Reader_plain 21 = .ok (.isub, 1) := by decide +kernel
theorem d_Reader_plain_22 : decode b_Reader_plain 22 = .ok (.iload_n 2, 1) := by decide +kernel
theorem d_Reader_plain_23 : decode b_Reader_plain 23 = .ok (.if_icmp .lt 7, 3) := by decide +kernel
theorem d_Reader_plain_26 : decode b_Reader_plain 26 = .ok (.iconst 1, 1) := by decide +kernel
theorem d_Reader_plain_27 : decode b_Reader_plain 27 = .ok (.goto 4, 3) := by decide +kernel
theorem d_Reader_plain_30 : decode b_Reader_plain 30 = .ok (.iconst 0, 1) := by decide +kernel
theorem d_Reader_plain_31 : decode b_Reader_plain 31 = .ok (.invokevirtual 53, 3) := by decide +kernel
theorem d_Reader_plain_34 : decode b_Reader_plain 34 = .ok (.new 57, 3) := by decide +kernel
theorem d_Reader_plain_37 : decode b_Reader_plain 37 = .ok (.dup, 1) := by decide +kernel
theorem d_Reader_plain_38 : decode b_Reader_plain 38 = .ok (.aload_n 0, 1) := by decide +kernel
theorem d_Reader_plain_39 : decode b_Reader_plain 39 = .ok (.getfield 37, 3) := by decide +kernel
theorem d_Reader_plain_42 : decode b_Reader_plain 42 = .ok (.iload 5, 2) := by decide +kernel
theorem d_Reader_plain_44 : decode b_Reader_plain 44 = .ok (.iload 4, 2) := by decide +kernel
theorem d_Reader_plain_46 : decode b_Reader_plain 46 = .ok (.invokespecial 59, 3) := by decide +kernel
theorem d_Reader_plain_49 : decode b_Reader_plain 49 = .ok (.areturn, 1) := by decide +kernel
set_option maxHeartbeats 4000000 in
set_option maxRecDepth 100000 in
theorem cC_plain (l : Launch) (dC : Nat → ClassId) (dI : Nat → Nat → Nat) (sb : sB) (h res t ki n : Nat) (x : rS) (pa ma ex ie : Int32) (cB : ClassId) (u : Nat → Nat) (tg le en : Nat) (sz : Nat) (hu : ∀ j, u j < 256) (hn : n < 2 ^ 30) (hi : rdInv n x) (he : en ≤ n) (hg : tg < 256) (hle : le < 2 ^ 30) : Met l y_Reader_plain w_Reader_plain ({ frames := 2, cells := 1, slots := 3, locals := 46 }) (mu_P [.ref h, .int (nI tg), .int (nI le), .int (nI en)] (dC, dI) sb [(h, .inr (4, [.ref res, .ref t, .int (nI x.1), .int (nI x.2.1), .int (wI x.2.2), .int pa, .int ma, .int ex, .ref ki])), (t, .inl (cB, n, .inl (tx u)))] [(cB, .byte)] sz) (va_Qr (fun (u' : rS) => u' = (rd_plain u n x tg le en).1) (mu_Br (dC, dI) [(cB, .byte)] (va_A [(h, .inr (4, [.ref res, .ref t, .int (nI x.1), .int (nI x.2.1), .int (wI x.2.2), .int pa, .int ma, .int ex, .ref ki])), (t, .inl (cB, n, .inl (tx u)))] sz) (fun (u' : rS) (q : Nat) => [(h, .inr (4, [.ref res, .ref t, .int (nI u'.1), .int (nI u'.2.1), .int (wI u'.2.2), .int pa, .int ma, .int ex, .ref ki])), (t, .inl (cB, n, .inl (tx u))), (q, .inr (0, [.ref t, .int (nI (rd_plain u n x tg le en).2.1), .int (nI (rd_plain u n x tg le en).2.2)]))])) (va_A [(h, .inr (4, [.ref res, .ref t, .int (nI x.1), .int (nI x.2.1), .int (wI x.2.2), .int pa, .int ma, .int ex, .ref ki])), (t, .inl (cB, n, .inl (tx u)))] sz)) 1 3 (va_A [(h, .inr (4, [.ref res, .ref t, .int (nI x.1), .int (nI x.2.1), .int (wI x.2.2), .int pa, .int ma, .int ex, .ref ki])), (t, .inl (cB, n, .inl (tx u)))] sz) := by
  refine Met.ofW (cc := b_Reader_plain) (maxL := 6) (ret := (some (FieldType.object "TrustChain$Slice"))) (by decide) rfl ?_
  intro p e s m args below meth c s₁ B hml hv
  obtain ⟨rfl, hsz, hB0, hP, hK, hD0, hN, hT0⟩ := hv
  have hx := B.exec
  have hb := B.bytes
  have hr := B.returns
  have hts := atoms_spec (ws := w_Reader_plain) B.pre
  have tbin : ∀ w ∈ tb, w ∈ w_Reader_plain := fun w h => List.mem_cons_of_mem _ h
  have htb : ∀ w ∈ tb, w.before _ s = true := fun w h => hts w (tbin w h)
  have hown : s.vm.findClass "TrustChain$Reader" = some m.cls := findClass_of_methodNamed B.named
  have hlocks := B.notSynchronized
  subst hsz
  have hD := hD0.self (sz := s.heap.size)
  generalize hAe : va_A [(h, .inr (4, [.ref res, .ref t, .int (nI x.1), .int (nI x.2.1), .int (wI x.2.2), .int pa, .int ma, .int ex, .ref ki])), (t, .inl (cB, n, .inl (tx u)))] s.heap.size = A at hD ⊢
  have hA : ∀ q : Nat, s.heap.size ≤ q → A q := fun q h => by rw [← hAe]; exact Or.inr h
  have hAs : ∀ q : Nat, A q → sb.1 ≤ q := fun q h => by
    rw [← hAe] at h
    rcases h with ⟨k, e, h⟩ | h
    · exact hD0.2 k _ h
    · exact Nat.le_trans hB0 h
  have hS : va_S A s.heap s.heap [] := va_S.rf
  have hcs : 1 ≤ (headSpec w_Reader_plain ({ frames := 2, cells := 1, slots := 3, locals := 46 })).room.cells ∧ 3 ≤ (headSpec w_Reader_plain ({ frames := 2, cells := 1, slots := 3, locals := 46 })).room.slots := ⟨Nat.le_refl _, Nat.le_refl _⟩
  have hP : va_P (dC, dI) classes [(h, .inr (4, [.ref res, .ref t, .int (nI x.1), .int (nI x.2.1), .int (wI x.2.2), .int pa, .int ma, .int ex, .ref ki])), (t, .inl (cB, n, .inl (tx u)))] s.heap := hP
  have hl := lv_entry ([.ref h, .int (nI tg), .int (nI le), .int (nI en)]) (n := 6) (Nat.le_of_ble_eq_true rfl)
  rw [lg_entry_eq]
  generalize (lg_sl ([.ref h, .int (nI tg), .int (nI le), .int (nI en)]) ++ List.replicate (6 - (lg_sl ([.ref h, .int (nI tg), .int (nI le), .int (nI en)])).length) Slot.unset).toArray = ls at hl ⊢
  have hl : lv_has ls 6 [(0, .ref h), (1, .int (nI tg)), (2, .int (nI le)), (3, .int (nI en))] := hl
  refine lv_aload_n hx hb d_Reader_plain_0 rfl (lv_at hl 0 rfl) ?_
  refine lv_iload_n hx hb d_Reader_plain_1 rfl (lv_at hl 1 rfl) ?_
  refine lv_iload_n hx hb d_Reader_plain_2 rfl (lv_at hl 3 rfl) ?_
  have hFc := va_free (wc := [(h, .inr (4, [.ref res, .ref t, .int (nI x.1), .int (nI x.2.1), .int (wI x.2.2), .int pa, .int ma, .int ex, .ref ki])), (t, .inl (cB, n, .inl (tx u)))]) hD hS hA [0, 1] rfl
  refine va_calli (mu_runU (As := [.int (nI tg), .int (nI en)]) (rest := []) ⟨hx, hb, hml, hown, hts⟩ (cC_open l dC dI sb h res t ki x.1 x.2.1 n x.2.2 pa ma ex ie cB u tg en s.heap.size hu hn ((hi).w hn) he (hi).1 (by omega)) (cu_of (n := 2) hts tbin q3_130 q9_192 q3_112 q9_193 q1_15 q3_113 rfl (by decide +kernel) ⟨rfl, rfl⟩ ⟨Nat.le_of_ble_eq_true rfl, Nat.le_of_ble_eq_true rfl⟩) rfl ⟨Nat.le_of_ble_eq_true rfl, Nat.le_of_ble_eq_true rfl⟩ hN (hT0.keep hS hAs) hAs (Nat.le_trans hB0 hS.1) hK hP hD [0, 1] (by decide) rfl [0] rfl 0 4 rfl rfl rfl hl.1 rfl (Nat.le_of_ble_eq_true rfl) d_Reader_plain_3) hS (fun q _ h => hFc q h) hFc (fun r3 u3 tS H3 locs ht hvm hw3 hB hz1 hk1 hS => ?_)
  obtain ⟨x3, rfl⟩ : ∃ z, z = u3 := ⟨_, rfl⟩
  obtain ⟨hP1, hK1, hD1⟩ := hB
  rw [ht] at hP1
  obtain ⟨hP, hD⟩ := va_join (wr := []) (w1 := [(h, .inr (4, [.ref res, .ref t, .int (nI x3.1), .int (nI x3.2.1), .int (wI x3.2.2), .int pa, .int ma, .int ex, .ref ki])), (t, .inl (cB, n, .inl (tx u)))]) hP hD [0, 1] [] rfl rfl (by decide) (by decide) hk1 hFc hP1 hD1
  have hP : va_P (dC, dI) classes [(h, .inr (4, [.ref res, .ref t, .int (nI x3.1), .int (nI x3.2.1), .int (wI x3.2.2), .int pa, .int ma, .int ex, .ref ki])), (t, .inl (cB, n, .inl (tx u)))] H3 := hP
  have hD : va_D A [(h, .inr (4, [.ref res, .ref t, .int (nI x3.1), .int (nI x3.2.1), .int (wI x3.2.2), .int pa, .int ma, .int ex, .ref ki])), (t, .inl (cB, n, .inl (tx u)))] := hD
  have hw3 : x3 = (rd_opn u n x tg en).1 ∧ r3 = nI (rd_opn u n x tg en).2 := hw3
  have hi3 := opn_inv (u := u) (tg := tg) hi he
  obtain ⟨o3, ho3⟩ : ∃ o, o = rd_opn u n x tg en := ⟨_, rfl⟩
  rw [← ho3] at hw3 hi3
  obtain ⟨rfl, rfl⟩ := hw3
  have hP : va_P (dC, dI) classes [(h, .inr (4, [.ref res, .ref t, .int (nI o3.1.1), .int (nI o3.1.2.1), .int (wI o3.1.2.2), .int pa, .int ma, .int ex, .ref ki])), (t, .inl (cB, n, .inl (tx u)))] H3 := hP
  have hD : va_D A [(h, .inr (4, [.ref res, .ref t, .int (nI o3.1.1), .int (nI o3.1.2.1), .int (wI o3.1.2.2), .int pa, .int ma, .int ex, .ref ki])), (t, .inl (cB, n, .inl (tx u)))] := hD
  refine lv_istore (lv' := [(4, .int (nI o3.2)), (0, .ref h), (1, .int (nI tg)), (2, .int (nI le)), (3, .int (nI en))]) hx hb d_Reader_plain_6 hl (by decide) rfl (fun ls hl => ?_)
  refine lv_aload_n hx hb d_Reader_plain_8 rfl (lv_at hl 1 rfl) ?_
  refine va_get (v := .int (nI o3.1.1)) hx hb htb i_CertificateReader hown hK hP 0 rfl rfl 2 (by decide) (htb _ q3_62) (fun _ h9 => h9) rfl d_Reader_plain_9 ?_
  refine lv_istore (lv' := [(5, .int (nI o3.1.1)), (4, .int (nI o3.2)), (0, .ref h), (1, .int (nI tg)), (2, .int (nI le)), (3, .int (nI en))]) hx hb d_Reader_plain_12 hl (by decide) rfl (fun ls hl => ?_)
  refine lv_aload_n hx hb d_Reader_plain_14 rfl (lv_at hl 2 rfl) ?_
  refine lv_iload hx hb d_Reader_plain_15 (lv_at hl 1 rfl) ?_
  have hb1 := hi3.1.1
  have hb2 := hi3.2.1
  have hb3 := hi3.2.2.1
  refine w_join (J := fun v => bz v (le ≤ o3.2 - o3.1.1)) (pc := 31) (ls := ls) (rest := [.int (nI o3.2), .ref h]) (fun v hv => ?_) (fun k31 => ?_)
  · skip
    have hFc := va_free (wc := [(h, .inr (4, [.ref res, .ref t, .int (nI o3.1.1), .int (nI o3.1.2.1), .int (wI o3.1.2.2), .int pa, .int ma, .int ex, .ref ki]))]) hD hS hA [0] rfl
    refine va_callv (mu_runU (As := [.int (nI o3.2), .int v]) (rest := []) ⟨hx, hb, hml, hown, hts⟩ (cC_leave l dC dI sb h res t ki o3.1.1 o3.1.2.1 n o3.1.2.2 pa ma ex ie cB u o3.2 v H3.size ((hi3.1).w hn)) (cu_of (n := 2) hts tbin q3_131 q3_133 q3_132 q3_134 q1_15 q3_136 rfl (by decide +kernel) ⟨rfl, rfl⟩ ⟨Nat.le_of_ble_eq_true rfl, Nat.le_of_ble_eq_true rfl⟩) rfl ⟨Nat.le_of_ble_eq_true rfl, Nat.le_of_ble_eq_true rfl⟩ hN (hT0.keep hS hAs) hAs (Nat.le_trans hB0 hS.1) hK hP hD [0] (by decide) rfl [] rfl 0 4 rfl rfl rfl hl.1 rfl (Nat.le_of_ble_eq_true rfl) d_Reader_plain_31) hS (fun q _ h => hFc q h) hFc (fun u31 tS H31 locs ht hvm hw31 hB hz1 hk1 hS => ?_)
    obtain ⟨x31, rfl⟩ : ∃ z, z = u31 := ⟨_, rfl⟩
    obtain ⟨hP1, hK1, hD1⟩ := hB
    rw [ht] at hP1
    obtain ⟨hP, hD⟩ := va_join (wr := [(t, .inl (cB, n, .inl (tx u)))]) (w1 := [(h, .inr (4, [.ref res, .ref t, .int (nI x31.1), .int (nI x31.2.1), .int (wI x31.2.2), .int pa, .int ma, .int ex, .ref ki]))]) hP hD [0] [1] rfl rfl (by decide) (by decide) hk1 hFc hP1 hD1
    have hP : va_P (dC, dI) classes [(t, .inl (cB, n, .inl (tx u))), (h, .inr (4, [.ref res, .ref t, .int (nI x31.1), .int (nI x31.2.1), .int (wI x31.2.2), .int pa, .int ma, .int ex, .ref ki]))] H31 := hP
    have hD : va_D A [(t, .inl (cB, n, .inl (tx u))), (h, .inr (4, [.ref res, .ref t, .int (nI x31.1), .int (nI x31.2.1), .int (wI x31.2.2), .int pa, .int ma, .int ex, .ref ki]))] := hD
    have hw31 : x31 = rd_lea o3.1 o3.2 v := hw31
    have hi31 : rdInv n x31 := by rw [hw31]; exact lea_inv hi3.1 hi3.2.2.1
    refine va_new (ci := 0) (fs := [.null, .int 0, .int 0]) hx hb htb i_Slice t_Slice t_Slice_ok hown (htb _ q3_137) (htb _ q2_92) (htb _ q1_22) hK hP hD hS hA rfl (fun j hj => by rcases (show j = 0 ∨ j = 1 ∨ j = 2 by omega) with rfl | rfl | rfl <;> rfl) (Nat.le_of_ble_eq_true rfl) (Nat.le_of_ble_eq_true rfl) d_Reader_plain_34 (fun q34 H34 hP hD hS => ?_)
    have hP : va_P (dC, dI) classes [(t, .inl (cB, n, .inl (tx u))), (h, .inr (4, [.ref res, .ref t, .int (nI x31.1), .int (nI x31.2.1), .int (wI x31.2.2), .int pa, .int ma, .int ex, .ref ki])), (q34, .inr (0, [.null, .int 0, .int 0]))] H34 := hP
    have hD : va_D A [(t, .inl (cB, n, .inl (tx u))), (h, .inr (4, [.ref res, .ref t, .int (nI x31.1), .int (nI x31.2.1), .int (wI x31.2.2), .int pa, .int ma, .int ex, .ref ki])), (q34, .inr (0, [.null, .int 0, .int 0]))] := hD
    refine lv_dup hx hb d_Reader_plain_37 rfl ?_
    refine lv_aload_n hx hb d_Reader_plain_38 rfl (lv_at hl 2 rfl) ?_
    refine va_get (v := .ref t) hx hb htb i_CertificateReader hown hK hP 1 rfl rfl 1 (by decide) (htb _ q3_57) (fun _ h9 => h9) rfl d_Reader_plain_39 ?_
    refine lv_iload hx hb d_Reader_plain_42 (lv_at hl 0 rfl) ?_
    refine lv_iload hx hb d_Reader_plain_44 (lv_at hl 1 rfl) ?_
    have hFc := va_free (wc := [(q34, .inr (0, [.null, .int 0, .int 0]))]) hD hS hA [2] rfl
    refine va_callv (mu_runI (As := [.ref t, .int (nI o3.1.1), .int (nI o3.2)]) (rest := [.ref q34]) ⟨hx, hb, hml, hown, hts⟩ tbin (c_Slice_init l dC dI sb q34 t (nI o3.1.1) (nI o3.2) H34.size) q3_138 q2_94 q1_22 q2_95 rfl (n := 3) (by decide +kernel) rfl ⟨rfl, rfl⟩ ⟨Nat.le_of_ble_eq_true rfl, Nat.le_of_ble_eq_true rfl⟩ ⟨Nat.le_of_ble_eq_true rfl, Nat.le_of_ble_eq_true rfl⟩ hN (hT0.keep hS hAs) hAs (Nat.le_trans hB0 hS.1) hK hP hD [2] (by decide) rfl [] rfl hl.1 rfl (Nat.le_of_ble_eq_true rfl) d_Reader_plain_46) hS (fun q _ h => hFc q h) hFc (fun u46 tS H46 locs ht hvm hw46 hB hz1 hk1 hS => ?_)
    skip
    obtain ⟨hP1, hK1, hD1⟩ := hB
    rw [ht] at hP1
    obtain ⟨hP, hD⟩ := va_join (wr := [(t, .inl (cB, n, .inl (tx u))), (h, .inr (4, [.ref res, .ref t, .int (nI x31.1), .int (nI x31.2.1), .int (wI x31.2.2), .int pa, .int ma, .int ex, .ref ki]))]) (w1 := [(q34, .inr (0, [.ref t, .int (nI o3.1.1), .int (nI o3.2)]))]) hP hD [2] [0, 1] rfl rfl (by decide) (by decide) hk1 hFc hP1 hD1
    have hP : va_P (dC, dI) classes [(t, .inl (cB, n, .inl (tx u))), (h, .inr (4, [.ref res, .ref t, .int (nI x31.1), .int (nI x31.2.1), .int (wI x31.2.2), .int pa, .int ma, .int ex, .ref ki])), (q34, .inr (0, [.ref t, .int (nI o3.1.1), .int (nI o3.2)]))] H46 := hP
    have hD : va_D A [(t, .inl (cB, n, .inl (tx u))), (h, .inr (4, [.ref res, .ref t, .int (nI x31.1), .int (nI x31.2.1), .int (wI x31.2.2), .int pa, .int ma, .int ex, .ref ki])), (q34, .inr (0, [.ref t, .int (nI o3.1.1), .int (nI o3.2)]))] := hD
    subst ho3
    exact W.aret (v := .ref q34) hx hb hr (Or.inl ⟨_, rfl⟩) (Or.inr ⟨_, rfl⟩) (fun t ht hW => ⟨⟨x31, q34, rfl, hw31.trans (by rw [bz_zI hv]; rfl), by rw [ht]; exact hP.sub [1, 0, 2] rfl, va_K.moved hW.alike hK, hD.sub [1, 0, 2] (by decide) rfl⟩, hS.F ht⟩) hS.2.2 d_Reader_plain_49
  · skip
    have hb1 := hi3.1.1
    have hb2 := hi3.2.1
    have hb3 := hi3.2.2.1
    refine lv_iload hx hb d_Reader_plain_17 (lv_at hl 1 rfl) ?_
    refine lv_iload hx hb d_Reader_plain_19 (lv_at hl 0 rfl) ?_
    refine lv_isub hx hb d_Reader_plain_21 ?_
    refine lv_iload_n hx hb d_Reader_plain_22 rfl (lv_at hl 4 rfl) ?_
    refine lv_icmp_lt (tgt := 30) hx hb d_Reader_plain_23 (by decide) (fun c23 => ?_) (fun c23 => ?_)
    · refine lv_iconst (v := 0) hx hb d_Reader_plain_30 (by decide) ?_
      exact k31 _ (bz_f (fun q => absurd q (by rw [pk_sub hi3.2.1, nI_ltI (by omega) (by omega)] at c23; omega)))
    · refine lv_iconst (v := 1) hx hb d_Reader_plain_26 (by decide) ?_
      refine lv_goto (tgt := 31) hx hb d_Reader_plain_27 (by decide) ?_
      exact k31 _ (bz_t (by rw [pk_sub hi3.2.1, nI_ltI (by omega) (by omega)] at c23; omega))
set_option maxHeartbeats 4000000 in
set_option maxRecDepth 100000 in
theorem cL_plain (l : Launch) (dC : Nat → ClassId) (dI : Nat → Nat → Nat) (sb : sB) (h res t ki n : Nat) (x : rS) (pa ma ex ie : Int32) (cB : ClassId) (u : Nat → Nat) (tg le en : Nat) (sz : Nat) (hu : ∀ j, u j < 256) (hn : n < 2 ^ 30) (hi : rdInv n x) (he : en ≤ n) (hg : tg < 256) (hle : le < 2 ^ 30) : Met l y_Reader_plain w_Reader_plain ({ frames := 2, cells := 1, slots := 3, locals := 46 }) (mu_P [.ref h, .int (nI tg), .int (nI le), .int (nI en)] (dC, dI) sb [(h, .inr (5, [.ref res, .int ie, .ref t, .int (nI x.1), .int (nI x.2.1), .int (wI x.2.2), .int pa, .int ma, .int ex, .ref ki])), (t, .inl (cB, n, .inl (tx u)))] [(cB, .byte)] sz) (va_Qr (fun (u' : rS) => u' = (rd_plain u n x tg le en).1) (mu_Br (dC, dI) [(cB, .byte)] (va_A [(h, .inr (5, [.ref res, .int ie, .ref t, .int (nI x.1), .int (nI x.2.1), .int (wI x.2.2), .int pa, .int ma, .int ex, .ref ki])), (t, .inl (cB, n, .inl (tx u)))] sz) (fun (u' : rS) (q : Nat) => [(h, .inr (5, [.ref res, .int ie, .ref t, .int (nI u'.1), .int (nI u'.2.1), .int (wI u'.2.2), .int pa, .int ma, .int ex, .ref ki])), (t, .inl (cB, n, .inl (tx u))), (q, .inr (0, [.ref t, .int (nI (rd_plain u n x tg le en).2.1), .int (nI (rd_plain u n x tg le en).2.2)]))])) (va_A [(h, .inr (5, [.ref res, .int ie, .ref t, .int (nI x.1), .int (nI x.2.1), .int (wI x.2.2), .int pa, .int ma, .int ex, .ref ki])), (t, .inl (cB, n, .inl (tx u)))] sz)) 1 3 (va_A [(h, .inr (5, [.ref res, .int ie, .ref t, .int (nI x.1), .int (nI x.2.1), .int (wI x.2.2), .int pa, .int ma, .int ex, .ref ki])), (t, .inl (cB, n, .inl (tx u)))] sz) := by
  refine Met.ofW (cc := b_Reader_plain) (maxL := 6) (ret := (some (FieldType.object "TrustChain$Slice"))) (by decide) rfl ?_
  intro p e s m args below meth c s₁ B hml hv
  obtain ⟨rfl, hsz, hB0, hP, hK, hD0, hN, hT0⟩ := hv
  have hx := B.exec
  have hb := B.bytes
  have hr := B.returns
  have hts := atoms_spec (ws := w_Reader_plain) B.pre
  have tbin : ∀ w ∈ tb, w ∈ w_Reader_plain := fun w h => List.mem_cons_of_mem _ h
  have htb : ∀ w ∈ tb, w.before _ s = true := fun w h => hts w (tbin w h)
  have hown : s.vm.findClass "TrustChain$Reader" = some m.cls := findClass_of_methodNamed B.named
  have hlocks := B.notSynchronized
  subst hsz
  have hD := hD0.self (sz := s.heap.size)
  generalize hAe : va_A [(h, .inr (5, [.ref res, .int ie, .ref t, .int (nI x.1), .int (nI x.2.1), .int (wI x.2.2), .int pa, .int ma, .int ex, .ref ki])), (t, .inl (cB, n, .inl (tx u)))] s.heap.size = A at hD ⊢
  have hA : ∀ q : Nat, s.heap.size ≤ q → A q := fun q h => by rw [← hAe]; exact Or.inr h
  have hAs : ∀ q : Nat, A q → sb.1 ≤ q := fun q h => by
    rw [← hAe] at h
    rcases h with ⟨k, e, h⟩ | h
    · exact hD0.2 k _ h
    · exact Nat.le_trans hB0 h
  have hS : va_S A s.heap s.heap [] := va_S.rf
  have hcs : 1 ≤ (headSpec w_Reader_plain ({ frames := 2, cells := 1, slots := 3, locals := 46 })).room.cells ∧ 3 ≤ (headSpec w_Reader_plain ({ frames := 2, cells := 1, slots := 3, locals := 46 })).room.slots := ⟨Nat.le_refl _, Nat.le_refl _⟩
  have hP : va_P (dC, dI) classes [(h, .inr (5, [.ref res, .int ie, .ref t, .int (nI x.1), .int (nI x.2.1), .int (wI x.2.2), .int pa, .int ma, .int ex, .ref ki])), (t, .inl (cB, n, .inl (tx u)))] s.heap := hP
  have hl := lv_entry ([.ref h, .int (nI tg), .int (nI le), .int (nI en)]) (n := 6) (Nat.le_of_ble_eq_true rfl)
  rw [lg_entry_eq]
  generalize (lg_sl ([.ref h, .int (nI tg), .int (nI le), .int (nI en)]) ++ List.replicate (6 - (lg_sl ([.ref h, .int (nI tg), .int (nI le), .int (nI en)])).length) Slot.unset).toArray = ls at hl ⊢
  have hl : lv_has ls 6 [(0, .ref h), (1, .int (nI tg)), (2, .int (nI le)), (3, .int (nI en))] := hl
  refine lv_aload_n hx hb d_Reader_plain_0 rfl (lv_at hl 0 rfl) ?_
  refine lv_iload_n hx hb d_Reader_plain_1 rfl (lv_at hl 1 rfl) ?_
  refine lv_iload_n hx hb d_Reader_plain_2 rfl (lv_at hl 3 rfl) ?_
  have hFc := va_free (wc := [(h, .inr (5, [.ref res, .int ie, .ref t, .int (nI x.1), .int (nI x.2.1), .int (wI x.2.2), .int pa, .int ma, .int ex, .ref ki])), (t, .inl (cB, n, .inl (tx u)))]) hD hS hA [0, 1] rfl
  refine va_calli (mu_runU (As := [.int (nI tg), .int (nI en)]) (rest := []) ⟨hx, hb, hml, hown, hts⟩ (cL_open l dC dI sb h res t ki x.1 x.2.1 n x.2.2 pa ma ex ie cB u tg en s.heap.size hu hn ((hi).w hn) he (hi).1 (by omega)) (cu_of (n := 2) hts tbin q3_130 q9_192 q3_112 q9_194 q1_15 q3_113 rfl (by decide +kernel) ⟨rfl, rfl⟩ ⟨Nat.le_of_ble_eq_true rfl, Nat.le_of_ble_eq_true rfl⟩) rfl ⟨Nat.le_of_ble_eq_true rfl, Nat.le_of_ble_eq_true rfl⟩ hN (hT0.keep hS hAs) hAs (Nat.le_trans hB0 hS.1) hK hP hD [0, 1] (by decide) rfl [0] rfl 0 5 rfl rfl rfl hl.1 rfl (Nat.le_of_ble_eq_true rfl) d_Reader_plain_3) hS (fun q _ h => hFc q h) hFc (fun r3 u3 tS H3 locs ht hvm hw3 hB hz1 hk1 hS => ?_)
  obtain ⟨x3, rfl⟩ : ∃ z, z = u3 := ⟨_, rfl⟩
  obtain ⟨hP1, hK1, hD1⟩ := hB
  rw [ht] at hP1
  obtain ⟨hP, hD⟩ := va_join (wr := []) (w1 := [(h, .inr (5, [.ref res, .int ie, .ref t, .int (nI x3.1), .int (nI x3.2.1), .int (wI x3.2.2), .int pa, .int ma, .int ex, .ref ki])), (t, .inl (cB, n, .inl (tx u)))]) hP hD [0, 1] [] rfl rfl (by decide) (by decide) hk1 hFc hP1 hD1
  have hP : va_P (dC, dI) classes [(h, .inr (5, [.ref res, .int ie, .ref t, .int (nI x3.1), .int (nI x3.2.1), .int (wI x3.2.2), .int pa, .int ma, .int ex, .ref ki])), (t, .inl (cB, n, .inl (tx u)))] H3 := hP
  have hD : va_D A [(h, .inr (5, [.ref res, .int ie, .ref t, .int (nI x3.1), .int (nI x3.2.1), .int (wI x3.2.2), .int pa, .int ma, .int ex, .ref ki])), (t, .inl (cB, n, .inl (tx u)))] := hD
  have hw3 : x3 = (rd_opn u n x tg en).1 ∧ r3 = nI (rd_opn u n x tg en).2 := hw3
  have hi3 := opn_inv (u := u) (tg := tg) hi he
  obtain ⟨o3, ho3⟩ : ∃ o, o = rd_opn u n x tg en := ⟨_, rfl⟩
  rw [← ho3] at hw3 hi3
  obtain ⟨rfl, rfl⟩ := hw3
  have hP : va_P (dC, dI) classes [(h, .inr (5, [.ref res, .int ie, .ref t, .int (nI o3.1.1), .int (nI o3.1.2.1), .int (wI o3.1.2.2), .int pa, .int ma, .int ex, .ref ki])), (t, .inl (cB, n, .inl (tx u)))] H3 := hP
  have hD : va_D A [(h, .inr (5, [.ref res, .int ie, .ref t, .int (nI o3.1.1), .int (nI o3.1.2.1), .int (wI o3.1.2.2), .int pa, .int ma, .int ex, .ref ki])), (t, .inl (cB, n, .inl (tx u)))] := hD
  refine lv_istore (lv' := [(4, .int (nI o3.2)), (0, .ref h), (1, .int (nI tg)), (2, .int (nI le)), (3, .int (nI en))]) hx hb d_Reader_plain_6 hl (by decide) rfl (fun ls hl => ?_)
  refine lv_aload_n hx hb d_Reader_plain_8 rfl (lv_at hl 1 rfl) ?_
  refine va_get (v := .int (nI o3.1.1)) hx hb htb i_ListReader hown hK hP 0 rfl rfl 3 (by decide) (htb _ q3_62) (fun _ h9 => h9) rfl d_Reader_plain_9 ?_
  refine lv_istore (lv' := [(5, .int (nI o3.1.1)), (4, .int (nI o3.2)), (0, .ref h), (1, .int (nI tg)), (2, .int (nI le)), (3, .int (nI en))]) hx hb d_Reader_plain_12 hl (by decide) rfl (fun ls hl => ?_)
  refine lv_aload_n hx hb d_Reader_plain_14 rfl (lv_at hl 2 rfl) ?_
  refine lv_iload hx hb d_Reader_plain_15 (lv_at hl 1 rfl) ?_
  have hb1 := hi3.1.1
  have hb2 := hi3.2.1
  have hb3 := hi3.2.2.1
  refine w_join (J := fun v => bz v (le ≤ o3.2 - o3.1.1)) (pc := 31) (ls := ls) (rest := [.int (nI o3.2), .ref h]) (fun v hv => ?_) (fun k31 => ?_)
  · skip
    have hFc := va_free (wc := [(h, .inr (5, [.ref res, .int ie, .ref t, .int (nI o3.1.1), .int (nI o3.1.2.1), .int (wI o3.1.2.2), .int pa, .int ma, .int ex, .ref ki]))]) hD hS hA [0] rfl
    refine va_callv (mu_runU (As := [.int (nI o3.2), .int v]) (rest := []) ⟨hx, hb, hml, hown, hts⟩ (cL_leave l dC dI sb h res t ki o3.1.1 o3.1.2.1 n o3.1.2.2 pa ma ex ie cB u o3.2 v H3.size ((hi3.1).w hn)) (cu_of (n := 2) hts tbin q3_131 q3_133 q3_132 q3_135 q1_15 q3_136 rfl (by decide +kernel) ⟨rfl, rfl⟩ ⟨Nat.le_of_ble_eq_true rfl, Nat.le_of_ble_eq_true rfl⟩) rfl ⟨Nat.le_of_ble_eq_true rfl, Nat.le_of_ble_eq_true rfl⟩ hN (hT0.keep hS hAs) hAs (Nat.le_trans hB0 hS.1) hK hP hD [0] (by decide) rfl [] rfl 0 5 rfl rfl rfl hl.1 rfl (Nat.le_of_ble_eq_true rfl) d_Reader_plain_31) hS (fun q _ h => hFc q h) hFc (fun u31 tS H31 locs ht hvm hw31 hB hz1 hk1 hS => ?_)
    obtain ⟨x31, rfl⟩ : ∃ z, z = u31 := ⟨_, rfl⟩
    obtain ⟨hP1, hK1, hD1⟩ := hB
    rw [ht] at hP1
    obtain ⟨hP, hD⟩ := va_join (wr := [(t, .inl (cB, n, .inl (tx u)))]) (w1 := [(h, .inr (5, [.ref res, .int ie, .ref t, .int (nI x31.1), .int (nI x31.2.1), .int (wI x31.2.2), .int pa, .int ma, .int ex, .ref ki]))]) hP hD [0] [1] rfl rfl (by decide) (by decide) hk1 hFc hP1 hD1
    have hP : va_P (dC, dI) classes [(t, .inl (cB, n, .inl (tx u))), (h, .inr (5, [.ref res, .int ie, .ref t, .int (nI x31.1), .int (nI x31.2.1), .int (wI x31.2.2), .int pa, .int ma, .int ex, .ref ki]))] H31 := hP
    have hD : va_D A [(t, .inl (cB, n, .inl (tx u))), (h, .inr (5, [.ref res, .int ie, .ref t, .int (nI x31.1), .int (nI x31.2.1), .int (wI x31.2.2), .int pa, .int ma, .int ex, .ref ki]))] := hD
    have hw31 : x31 = rd_lea o3.1 o3.2 v := hw31
    have hi31 : rdInv n x31 := by rw [hw31]; exact lea_inv hi3.1 hi3.2.2.1
    refine va_new (ci := 0) (fs := [.null, .int 0, .int 0]) hx hb htb i_Slice t_Slice t_Slice_ok hown (htb _ q3_137) (htb _ q2_92) (htb _ q1_22) hK hP hD hS hA rfl (fun j hj => by rcases (show j = 0 ∨ j = 1 ∨ j = 2 by omega) with rfl | rfl | rfl <;> rfl) (Nat.le_of_ble_eq_true rfl) (Nat.le_of_ble_eq_true rfl) d_Reader_plain_34 (fun q34 H34 hP hD hS => ?_)
    have hP : va_P (dC, dI) classes [(t, .inl (cB, n, .inl (tx u))), (h, .inr (5, [.ref res, .int ie, .ref t, .int (nI x31.1), .int (nI x31.2.1), .int (wI x31.2.2), .int pa, .int ma, .int ex, .ref ki])), (q34, .inr (0, [.null, .int 0, .int 0]))] H34 := hP
    have hD : va_D A [(t, .inl (cB, n, .inl (tx u))), (h, .inr (5, [.ref res, .int ie, .ref t, .int (nI x31.1), .int (nI x31.2.1), .int (wI x31.2.2), .int pa, .int ma, .int ex, .ref ki])), (q34, .inr (0, [.null, .int 0, .int 0]))] := hD
    refine lv_dup hx hb d_Reader_plain_37 rfl ?_
    refine lv_aload_n hx hb d_Reader_plain_38 rfl (lv_at hl 2 rfl) ?_
    refine va_get (v := .ref t) hx hb htb i_ListReader hown hK hP 1 rfl rfl 2 (by decide) (htb _ q3_57) (fun _ h9 => h9) rfl d_Reader_plain_39 ?_
    refine lv_iload hx hb d_Reader_plain_42 (lv_at hl 0 rfl) ?_
    refine lv_iload hx hb d_Reader_plain_44 (lv_at hl 1 rfl) ?_
    have hFc := va_free (wc := [(q34, .inr (0, [.null, .int 0, .int 0]))]) hD hS hA [2] rfl
    refine va_callv (mu_runI (As := [.ref t, .int (nI o3.1.1), .int (nI o3.2)]) (rest := [.ref q34]) ⟨hx, hb, hml, hown, hts⟩ tbin (c_Slice_init l dC dI sb q34 t (nI o3.1.1) (nI o3.2) H34.size) q3_138 q2_94 q1_22 q2_95 rfl (n := 3) (by decide +kernel) rfl ⟨rfl, rfl⟩ ⟨Nat.le_of_ble_eq_true rfl, Nat.le_of_ble_eq_true rfl⟩ ⟨Nat.le_of_ble_eq_true rfl, Nat.le_of_ble_eq_true rfl⟩ hN (hT0.keep hS hAs) hAs (Nat.le_trans hB0 hS.1) hK hP hD [2] (by decide) rfl [] rfl hl.1 rfl (Nat.le_of_ble_eq_true rfl) d_Reader_plain_46) hS (fun q _ h => hFc q h) hFc (fun u46 tS H46 locs ht hvm hw46 hB hz1 hk1 hS => ?_)
    skip
    obtain ⟨hP1, hK1, hD1⟩ := hB
    rw [ht] at hP1
    obtain ⟨hP, hD⟩ := va_join (wr := [(t, .inl (cB, n, .inl (tx u))), (h, .inr (5, [.ref res, .int ie, .ref t, .int (nI x31.1), .int (nI x31.2.1), .int (wI x31.2.2), .int pa, .int ma, .int ex, .ref ki]))]) (w1 := [(q34, .inr (0, [.ref t, .int (nI o3.1.1), .int (nI o3.2)]))]) hP hD [2] [0, 1] rfl rfl (by decide) (by decide) hk1 hFc hP1 hD1
    have hP : va_P (dC, dI) classes [(t, .inl (cB, n, .inl (tx u))), (h, .inr (5, [.ref res, .int ie, .ref t, .int (nI x31.1), .int (nI x31.2.1), .int (wI x31.2.2), .int pa, .int ma, .int ex, .ref ki])), (q34, .inr (0, [.ref t, .int (nI o3.1.1), .int (nI o3.2)]))] H46 := hP
    have hD : va_D A [(t, .inl (cB, n, .inl (tx u))), (h, .inr (5, [.ref res, .int ie, .ref t, .int (nI x31.1), .int (nI x31.2.1), .int (wI x31.2.2), .int pa, .int ma, .int ex, .ref ki])), (q34, .inr (0, [.ref t, .int (nI o3.1.1), .int (nI o3.2)]))] := hD
    subst ho3
    exact W.aret (v := .ref q34) hx hb hr (Or.inl ⟨_, rfl⟩) (Or.inr ⟨_, rfl⟩) (fun t ht hW => ⟨⟨x31, q34, rfl, hw31.trans (by rw [bz_zI hv]; rfl), by rw [ht]; exact hP.sub [1, 0, 2] rfl, va_K.moved hW.alike hK, hD.sub [1, 0, 2] (by decide) rfl⟩, hS.F ht⟩) hS.2.2 d_Reader_plain_49
  · skip
    have hb1 := hi3.1.1
    have hb2 := hi3.2.1
    have hb3 := hi3.2.2.1
    refine lv_iload hx hb d_Reader_plain_17 (lv_at hl 1 rfl) ?_
    refine lv_iload hx hb d_Reader_plain_19 (lv_at hl 0 rfl) ?_
    refine lv_isub hx hb d_Reader_plain_21 ?_
    refine lv_iload_n hx hb d_Reader_plain_22 rfl (lv_at hl 4 rfl) ?_
    refine lv_icmp_lt (tgt := 30) hx hb d_Reader_plain_23 (by decide) (fun c23 => ?_) (fun c23 => ?_)
    · refine lv_iconst (v := 0) hx hb d_Reader_plain_30 (by decide) ?_
      exact k31 _ (bz_f (fun q => absurd q (by rw [pk_sub hi3.2.1, nI_ltI (by omega) (by omega)] at c23; omega)))
    · refine lv_iconst (v := 1) hx hb d_Reader_plain_26 (by decide) ?_
      refine lv_goto (tgt := 31) hx hb d_Reader_plain_27 (by decide) ?_
      exact k31 _ (bz_t (by rw [pk_sub hi3.2.1, nI_ltI (by omega) (by omega)] at c23; omega))
