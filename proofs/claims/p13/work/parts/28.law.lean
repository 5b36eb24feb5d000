/-! The law's own methods that call the class and catch. -/
theorem thOK.keep {sb : sB} {s : State} {A : Nat → Prop} {H : Heap} {locs : List Loc} (h : thOK sb s s.heap) (hS : va_S A s.heap H locs) (hA : ∀ q, A q → sb.1 ≤ q) : thOK sb s H := h.kept (fun a h1 h2 => hS.2.1 a h1 (fun z => h2 (hA a z)))
section MXC
variable {p : Program} {l : Launch} {e : Env} {R : Room} {s : State} {m : MethodId} {args : Array Value} {below : List Frame} {meth : Method} {c : Code} {H : Heap} {locs : List Loc} {cells slots : Nat} {Q : State → Prop}
variable {pc : Nat} {ls : Array Slot} {rest st0 : List Value} {cc bytes : ByteArray} {nL maxL index : Nat} {Ts : List Cond} {own C : String} {y : MethodName} {ret : Option FieldType} {rm : Room} {D : va_G} {ws wsB wr : va_W} {tys tysB : List (ClassId × FieldType)} {As : List Value} {b : Nat} {fs : List Value} {q : vw_C} {n mc ms : Nat} {A : Nat → Prop} {H0 : Heap} {sb : sB}
theorem mx_pre {av : List Value} (hTh : thOK sb s H) (hN : nwOK sb s) (hT : stOK sb s H) (hAs : ∀ q, A q → sb.1 ≤ q) (hbH : sb.1 ≤ H.size) (hK : va_K D classes tysB s) (hP : va_P D classes wsB H) (hD : va_D A wsB) (is : List Nat) (hn : va_nd is = true) (hs : is.map (fun i => wsB[i]?) = ws.map some) (ts : List Nat) (ht : ts.filterMap (fun i => tysB[i]?) = tys) :
    ∀ U : State, U.heap = H → s.WarmedH U.vm → mx_P av D sb ws tys H.size av.toArray U := fun U hU hW => by
  obtain ⟨h0, h1, h2, h3, h4, h5, h6, h7⟩ := mu_pre (av := av) hN hT hAs hbH hK hP hD is hn hs ts ht U hU hW
  exact ⟨h0, h1, h2, h3, h4, h5, h6, h7, by rw [hU]; exact hTh.warm hW⟩
/-- a call of a method of the class that may throw -/
theorem mx_runV {Qc : Array Value → State → Outcome → State → Prop} {XC : String → State → State → Prop} (S : CallFix p m c cc nL s args Ts own) (hin : ∀ w ∈ tb, w ∈ Ts) (hM : vx_Met l y (Cond.code y bytes maxL ret :: tb) rm (mx_P (.ref b :: As) D sb ws tys H.size) Qc XC mc ms (va_A ws H.size))
    (h1 : Cond.methodLink own index y ∈ tb) (h2 : Cond.instanceMethod y ∈ tb) (h3 : Cond.selects C y y ∈ tb) (h4 : Cond.initialized C ∈ tb) (h5 : Cond.code y bytes maxL ret ∈ tb)
    (hd : y.cls = C ∧ y.cls ≠ "java/lang/invoke/MethodHandle" ∧ y.cls ≠ "java/lang/invoke/VarHandle" ∧ (parseMethodDescriptor y.desc).map (fun d => d.parameters.length) = some n) (hn : As.length = n)
    (hz : rm.cells = mc ∧ rm.slots = ms) (hR : rm.frames + 1 ≤ R.frames ∧ 8 + (maxL + 11) + rm.locals ≤ R.locals) (hf : cells + mc ≤ R.cells ∧ slots + ms ≤ R.slots)
    (hTh : thOK sb s H) (hN : nwOK sb s) (hT : stOK sb s H) (hAs : ∀ q, A q → sb.1 ≤ q) (hbH : sb.1 ≤ H.size) (hK : va_K D classes tysB s) (hP : va_P D classes wsB H) (hD : va_D A wsB) (is : List Nat) (hnd : va_nd is = true) (hs : is.map (fun i => wsB[i]?) = ws.map some) (ts : List Nat) (ht : ts.filterMap (fun i => tysB[i]?) = tys)
    (q0 ci : Nat) (he : wsB[q0]? = some (b, .inr (ci, fs))) (hc : classes[ci]? = some q) (hq : q.1 = C)
    (hsize : ls.size = nL) (hstack : st0 = As.reverse ++ .ref b :: rest) (hW : (rest.map fun v => v.category).sum ≤ 8) (hdg : decode cc pc = .ok (.invokevirtual index, 3)) :
    vx_Run p l e R s m args below meth c H locs cells slots mc ms (F0 m pc ls st0) rest (Qc (Value.ref b :: As).toArray) XC (va_A ws H.size) := by
  subst hstack
  subst hn
  subst hq
  exact vx_runV (As := As) (rest := rest) S hM (cwV As.length S.2.2.2.2 (gd_V hin h1 h2 h3 h4 h5) rfl hz.1 hz.2 hd hR) ⟨mx_blind, va_recv hK hP hc he, mx_pre hTh hN hT hAs hbH hK hP hD is hnd hs ts ht⟩ rfl rfl hsize rfl (lv_room hW) hdg ⟨hf.1, hf.2⟩
end MXC
def y_TrustChainLaw_feed : MethodName := ⟨"TrustChainLaw", "feed", "(LTrustChain;IIIII[J)I"⟩
abbrev b_TrustChainLaw_feed : ByteArray := method_3_code
def w_TrustChainLaw_feed : List Cond := Cond.codeWith y_TrustChainLaw_feed b_TrustChainLaw_feed 8 (some FieldType.int) [(0, 16, 19, 13)] :: tb
theorem d_TrustChainLaw_feed_0 : decode b_TrustChainLaw_feed 0 = .ok (.aload 6, 2) := by decide +kernel
theorem d_TrustChainLaw_feed_2 : decode b_TrustChainLaw_feed 2 = .ok (.iconst 0, 1) := by decide +kernel
theorem d_TrustChainLaw_feed_3 : decode b_TrustChainLaw_feed 3 = .ok (.aload_n 0, 1) := by decide +kernel
theorem d_TrustChainLaw_feed_4 : decode b_TrustChainLaw_feed 4 = .ok (.iload_n 1, 1) := by decide +kernel
theorem d_TrustChainLaw_feed_5 : decode b_TrustChainLaw_feed 5 = .ok (.iload_n 2, 1) := by decide +kernel
theorem d_TrustChainLaw_feed_6 : decode b_TrustChainLaw_feed 6 = .ok (.iload_n 3, 1) := by decide +kernel
theorem d_TrustChainLaw_feed_7 : decode b_TrustChainLaw_feed 7 = .ok (.iload 4, 2) := by decide +kernel
theorem d_TrustChainLaw_feed_9 : decode b_TrustChainLaw_feed 9 = .ok (.iload 5, 2) := by decide +kernel
theorem d_TrustChainLaw_feed_11 : decode b_TrustChainLaw_feed 11 = .ok (.invokevirtual 7, 3) := by decide +kernel
theorem d_TrustChainLaw_feed_14 : decode b_TrustChainLaw_feed 14 = .ok (.i2l, 1) := by decide +kernel
theorem d_TrustChainLaw_feed_15 : decode b_TrustChainLaw_feed 15 = .ok (.lastore, 1) := by decide +kernel
theorem d_TrustChainLaw_feed_16 : decode b_TrustChainLaw_feed 16 = .ok (.goto 7, 3) := by decide +kernel
theorem d_TrustChainLaw_feed_19 : decode b_TrustChainLaw_feed 19 = .ok (.astore 7, 2) := by decide +kernel
theorem d_TrustChainLaw_feed_21 : decode b_TrustChainLaw_feed 21 = .ok (.iconst 1, 1) := by decide +kernel
theorem d_TrustChainLaw_feed_22 : decode b_TrustChainLaw_feed 22 = .ok (.ireturn, 1) := by decide +kernel
theorem d_TrustChainLaw_feed_23 : decode b_TrustChainLaw_feed 23 = .ok (.iconst 0, 1) := by decide +kernel
theorem d_TrustChainLaw_feed_24 : decode b_TrustChainLaw_feed 24 = .ok (.ireturn, 1) := by decide +kernel
set_option maxHeartbeats 4000000 in
set_option maxRecDepth 100000 in
theorem c_TrustChainLaw_feed (l : Launch) (hl0 : l.stackTraces = false) (dC : Nat → ClassId) (dI : Nat → Nat → Nat) (sb : sB) (q0 fe ho ce li sh rs se ch fo : Nat) (foS chS faP wrP : Int32) (cB : ClassId) (f : Nat → Int32) (k : Nat) (x0 x1 x2 x3 x4 : Int32) (ou : Nat) (cJ : ClassId) (ov : Nat → Int64) (sz : Nat) (hk : k ≤ 2060) : vx_Met l y_TrustChainLaw_feed w_TrustChainLaw_feed ({ frames := 7, cells := 1, slots := 6, locals := 140 }) (mx_P [.ref q0, .int x0, .int x1, .int x2, .int x3, .int x4, .ref ou] (dC, dI) sb [(q0, .inr (10, [.ref fe, .ref ho, .ref ce, .ref li, .ref sh, .ref rs, .ref se, .ref ch, .ref fo, .int foS, .int chS, .int faP, .int (nI k), .int wrP])), (fe, .inl (cB, 2060, .inl f)), (ou, .inl (cJ, 1, .inr (.inl ov)))] [(cB, .byte), (cJ, .long)] sz) (va_Qi (fun r (u : Bool) => (u = true ∧ r = 0 ∧ k ≤ 2040) ∨ (u = false ∧ r = 1 ∧ 2040 < k)) (mu_B (dC, dI) [(cB, .byte), (cJ, .long)] (va_A [(q0, .inr (10, [.ref fe, .ref ho, .ref ce, .ref li, .ref sh, .ref rs, .ref se, .ref ch, .ref fo, .int foS, .int chS, .int faP, .int (nI k), .int wrP])), (fe, .inl (cB, 2060, .inl f)), (ou, .inl (cJ, 1, .inr (.inl ov)))] sz) (fun u : Bool => cond u [(q0, .inr (10, [.ref fe, .ref ho, .ref ce, .ref li, .ref sh, .ref rs, .ref se, .ref ch, .ref fo, .int foS, .int chS, .int faP, .int (nI (k + 20)), .int wrP])), (fe, .inl (cB, 2060, .inl (tw4 (tw4 (tw4 (tw4 (tw4 f k x0) (k + 4) x1) (k + 8) x2) (k + 12) x3) (k + 16) x4))), (ou, .inl (cJ, 1, .inr (.inl (vp_updL ov 0 (nI (k + 20)).toInt64))))] [(q0, .inr (10, [.ref fe, .ref ho, .ref ce, .ref li, .ref sh, .ref rs, .ref se, .ref ch, .ref fo, .int foS, .int chS, .int faP, .int (nI k), .int wrP])), (fe, .inl (cB, 2060, .inl f)), (ou, .inl (cJ, 1, .inr (.inl ov)))])) (va_A [(q0, .inr (10, [.ref fe, .ref ho, .ref ce, .ref li, .ref sh, .ref rs, .ref se, .ref ch, .ref fo, .int foS, .int chS, .int faP, .int (nI k), .int wrP])), (fe, .inl (cB, 2060, .inl f)), (ou, .inl (cJ, 1, .inr (.inl ov)))] sz)) (mx_X (fun (E : String) (u : Unit) => False) (dC, dI) [(cB, .byte), (cJ, .long)] (va_A [(q0, .inr (10, [.ref fe, .ref ho, .ref ce, .ref li, .ref sh, .ref rs, .ref se, .ref ch, .ref fo, .int foS, .int chS, .int faP, .int (nI k), .int wrP])), (fe, .inl (cB, 2060, .inl f)), (ou, .inl (cJ, 1, .inr (.inl ov)))] sz) (fun _ : Unit => [])) 1 6 (va_A [(q0, .inr (10, [.ref fe, .ref ho, .ref ce, .ref li, .ref sh, .ref rs, .ref se, .ref ch, .ref fo, .int foS, .int chS, .int faP, .int (nI k), .int wrP])), (fe, .inl (cB, 2060, .inl f)), (ou, .inl (cJ, 1, .inr (.inl ov)))] sz) := by
  refine vx_ofWH (cc := b_TrustChainLaw_feed) (maxL := 8) (ret := (some FieldType.int)) (by decide) rfl ?_
  intro p e s m args below meth c s₁ B hml hv
  obtain ⟨rfl, hsz, hB0, hP, hK, hD0, hN, hT0, hTh⟩ := hv
  have hx := B.exec
  have hb := B.bytes
  have hr := B.returns
  have hts := atoms_spec (ws := w_TrustChainLaw_feed) B.pre
  have htab : c.exceptionTable.toList = tableOf [(0, 16, 19, 13)] := vx_table (x := y_TrustChainLaw_feed) B (hts _ List.mem_cons_self)
  have tbin : ∀ w ∈ tb, w ∈ w_TrustChainLaw_feed := fun w h => List.mem_cons_of_mem _ h
  have htb : ∀ w ∈ tb, w.before _ s = true := fun w h => hts w (tbin w h)
  have hown : s.vm.findClass "TrustChainLaw" = some m.cls := findClass_of_methodNamed B.named
  have hlocks := B.notSynchronized
  subst hsz
  have hD := hD0.self (sz := s.heap.size)
  generalize hAe : va_A [(q0, .inr (10, [.ref fe, .ref ho, .ref ce, .ref li, .ref sh, .ref rs, .ref se, .ref ch, .ref fo, .int foS, .int chS, .int faP, .int (nI k), .int wrP])), (fe, .inl (cB, 2060, .inl f)), (ou, .inl (cJ, 1, .inr (.inl ov)))] s.heap.size = A at hD ⊢
  have hA : ∀ q : Nat, s.heap.size ≤ q → A q := fun q h => by rw [← hAe]; exact Or.inr h
  have hAs : ∀ q : Nat, A q → sb.1 ≤ q := fun q h => by
    rw [← hAe] at h
    rcases h with ⟨k, e, h⟩ | h
    · exact hD0.2 k _ h
    · exact Nat.le_trans hB0 h
  have hS : va_S A s.heap s.heap [] := va_S.rf
  have hcs : 1 ≤ (headSpec w_TrustChainLaw_feed ({ frames := 7, cells := 1, slots := 6, locals := 140 })).room.cells ∧ 6 ≤ (headSpec w_TrustChainLaw_feed ({ frames := 7, cells := 1, slots := 6, locals := 140 })).room.slots := ⟨Nat.le_refl _, Nat.le_refl _⟩
  have hP : va_P (dC, dI) classes [(q0, .inr (10, [.ref fe, .ref ho, .ref ce, .ref li, .ref sh, .ref rs, .ref se, .ref ch, .ref fo, .int foS, .int chS, .int faP, .int (nI k), .int wrP])), (fe, .inl (cB, 2060, .inl f)), (ou, .inl (cJ, 1, .inr (.inl ov)))] s.heap := hP
  have hl := lv_entry ([.ref q0, .int x0, .int x1, .int x2, .int x3, .int x4, .ref ou]) (n := 8) (Nat.le_of_ble_eq_true rfl)
  rw [lg_entry_eq]
  generalize (lg_sl ([.ref q0, .int x0, .int x1, .int x2, .int x3, .int x4, .ref ou]) ++ List.replicate (8 - (lg_sl ([.ref q0, .int x0, .int x1, .int x2, .int x3, .int x4, .ref ou])).length) Slot.unset).toArray = ls at hl ⊢
  have hl : lv_has ls 8 [(0, .ref q0), (1, .int x0), (2, .int x1), (3, .int x2), (4, .int x3), (5, .int x4), (6, .ref ou)] := hl
  refine lv_aload hx hb d_TrustChainLaw_feed_0 (lv_at hl 6 rfl) ?_
  refine lv_iconst (v := 0) hx hb d_TrustChainLaw_feed_2 (by decide) ?_
  refine lv_aload_n hx hb d_TrustChainLaw_feed_3 rfl (lv_at hl 0 rfl) ?_
  refine lv_iload_n hx hb d_TrustChainLaw_feed_4 rfl (lv_at hl 1 rfl) ?_
  refine lv_iload_n hx hb d_TrustChainLaw_feed_5 rfl (lv_at hl 2 rfl) ?_
  refine lv_iload_n hx hb d_TrustChainLaw_feed_6 rfl (lv_at hl 3 rfl) ?_
  refine lv_iload hx hb d_TrustChainLaw_feed_7 (lv_at hl 4 rfl) ?_
  refine lv_iload hx hb d_TrustChainLaw_feed_9 (lv_at hl 5 rfl) ?_
  have hFc := va_free (wc := [(q0, .inr (10, [.ref fe, .ref ho, .ref ce, .ref li, .ref sh, .ref rs, .ref se, .ref ch, .ref fo, .int foS, .int chS, .int faP, .int (nI k), .int wrP])), (fe, .inl (cB, 2060, .inl f))]) hD hS hA [0, 1] rfl
  refine vx_calli (mx_runV (As := [.int x0, .int x1, .int x2, .int x3, .int x4]) (rest := [.int 0, .ref ou]) ⟨hx, hb, hml, hown, hts⟩ tbin (c_Trust_feed l hl0 dC dI sb q0 fe ho ce li sh rs se ch fo foS chS faP wrP cB f k x0 x1 x2 x3 x4 s.heap.size hk) q1_207 q1_208 q1_209 q1_1 q1_210 (n := 5) (by decide +kernel) rfl ⟨rfl, rfl⟩ ⟨Nat.le_of_ble_eq_true rfl, Nat.le_of_ble_eq_true rfl⟩ ⟨Nat.le_of_ble_eq_true rfl, Nat.le_of_ble_eq_true rfl⟩ (hTh.keep hS hAs) hN (hT0.keep hS hAs) hAs (Nat.le_trans hB0 hS.1) hK hP hD [0, 1] (by decide) rfl [0] rfl 0 10 rfl rfl rfl hl.1 rfl (Nat.le_of_ble_eq_true rfl) d_TrustChainLaw_feed_11) hS (fun q _ h => hFc q h) hFc (fun q _ h => hFc q h) (fun E cx9 q9 uX tX HX locs ht hvm hpx hBX hz1 hk1 hS hce hcv hcl => ?_) (fun r11 u11 tS H11 locs ht hvm hw11 hB hz1 hk1 hS => ?_)
  · obtain ⟨⟨hE, hbig⟩, hB⟩ := hBX
    obtain ⟨hP1, hK1, hD1⟩ := hB
    rw [ht] at hP1
    obtain ⟨hP, hD⟩ := va_join (wr := [(ou, .inl (cJ, 1, .inr (.inl ov)))]) (w1 := [(q0, .inr (10, [.ref fe, .ref ho, .ref ce, .ref li, .ref sh, .ref rs, .ref se, .ref ch, .ref fo, .int foS, .int chS, .int faP, .int (nI k), .int wrP])), (fe, .inl (cB, 2060, .inl f))]) hP hD [0, 1] [2] rfl rfl (by decide) (by decide) hk1 hFc hP1 hD1
    have hP : va_P (dC, dI) classes [(ou, .inl (cJ, 1, .inr (.inl ov))), (q0, .inr (10, [.ref fe, .ref ho, .ref ce, .ref li, .ref sh, .ref rs, .ref se, .ref ch, .ref fo, .int foS, .int chS, .int faP, .int (nI k), .int wrP])), (fe, .inl (cB, 2060, .inl f))] HX := hP
    have hD : va_D A [(ou, .inl (cJ, 1, .inr (.inl ov))), (q0, .inr (10, [.ref fe, .ref ho, .ref ce, .ref li, .ref sh, .ref rs, .ref se, .ref ch, .ref fo, .int foS, .int chS, .int faP, .int (nI k), .int wrP])), (fe, .inl (cB, 2060, .inl f))] := hD
    subst hE
    refine vx_catch hown [] ⟨0, 16, 19, 13⟩ [] htab (fun z h => nomatch h) (by decide) (by decide) (htb _ q1_206) (va_Nw.use rfl (hN.1 _ qn1_213)) hce hcv hcl ?_
    refine lv_astore (lv' := [(7, .ref q9), (0, .ref q0), (1, .int x0), (2, .int x1), (3, .int x2), (4, .int x3), (5, .int x4), (6, .ref ou)]) hx hb d_TrustChainLaw_feed_19 hl (by decide) rfl (fun ls hl => ?_)
    refine lv_iconst (v := 1) hx hb d_TrustChainLaw_feed_21 (by decide) ?_
    exact vx_ret (x_wide 1 6 (Nat.le_of_ble_eq_true rfl) (Nat.le_of_ble_eq_true rfl) (W.iret (v := 1) hx hb hr (fun t ht hW => ⟨⟨_, false, rfl, Or.inr ⟨rfl, rfl, hbig⟩, by rw [ht]; exact hP.sub [1, 2, 0] rfl, va_K.moved hW.alike hK, hD.sub [1, 2, 0] (by decide) rfl⟩, hS.F ht⟩) hS.2.2 d_TrustChainLaw_feed_22))
  · skip
    obtain ⟨hP1, hK1, hD1⟩ := hB
    rw [ht] at hP1
    obtain ⟨hP, hD⟩ := va_join (wr := [(ou, .inl (cJ, 1, .inr (.inl ov)))]) (w1 := [(q0, .inr (10, [.ref fe, .ref ho, .ref ce, .ref li, .ref sh, .ref rs, .ref se, .ref ch, .ref fo, .int foS, .int chS, .int faP, .int (nI (k + 20)), .int wrP])), (fe, .inl (cB, 2060, .inl (tw4 (tw4 (tw4 (tw4 (tw4 f k x0) (k + 4) x1) (k + 8) x2) (k + 12) x3) (k + 16) x4)))]) hP hD [0, 1] [2] rfl rfl (by decide) (by decide) hk1 hFc hP1 hD1
    have hP : va_P (dC, dI) classes [(ou, .inl (cJ, 1, .inr (.inl ov))), (q0, .inr (10, [.ref fe, .ref ho, .ref ce, .ref li, .ref sh, .ref rs, .ref se, .ref ch, .ref fo, .int foS, .int chS, .int faP, .int (nI (k + 20)), .int wrP])), (fe, .inl (cB, 2060, .inl (tw4 (tw4 (tw4 (tw4 (tw4 f k x0) (k + 4) x1) (k + 8) x2) (k + 12) x3) (k + 16) x4)))] H11 := hP
    have hD : va_D A [(ou, .inl (cJ, 1, .inr (.inl ov))), (q0, .inr (10, [.ref fe, .ref ho, .ref ce, .ref li, .ref sh, .ref rs, .ref se, .ref ch, .ref fo, .int foS, .int chS, .int faP, .int (nI (k + 20)), .int wrP])), (fe, .inl (cB, 2060, .inl (tw4 (tw4 (tw4 (tw4 (tw4 f k x0) (k + 4) x1) (k + 8) x2) (k + 12) x3) (k + 16) x4)))] := hD
    obtain ⟨hr11, hsm⟩ := hw11
    subst hr11
    refine lv_i2l (v := (nI (k + 20)).toInt64) hx hb d_TrustChainLaw_feed_14 rfl ?_
    have h15 : vp_in 0 1 := by unfold vp_in; decide
    refine va_last hx hb hK hP hD hS 0 1 rfl rfl h15 d_TrustChainLaw_feed_15 (fun H15 locs hP hD hS => ?_)
    have hP : va_P (dC, dI) classes [(ou, .inl (cJ, 1, .inr (.inl (vp_updL ov 0 (nI (k + 20)).toInt64)))), (q0, .inr (10, [.ref fe, .ref ho, .ref ce, .ref li, .ref sh, .ref rs, .ref se, .ref ch, .ref fo, .int foS, .int chS, .int faP, .int (nI (k + 20)), .int wrP])), (fe, .inl (cB, 2060, .inl (tw4 (tw4 (tw4 (tw4 (tw4 f k x0) (k + 4) x1) (k + 8) x2) (k + 12) x3) (k + 16) x4)))] H15 := hP
    have hD : va_D A [(ou, .inl (cJ, 1, .inr (.inl (vp_updL ov 0 (nI (k + 20)).toInt64)))), (q0, .inr (10, [.ref fe, .ref ho, .ref ce, .ref li, .ref sh, .ref rs, .ref se, .ref ch, .ref fo, .int foS, .int chS, .int faP, .int (nI (k + 20)), .int wrP])), (fe, .inl (cB, 2060, .inl (tw4 (tw4 (tw4 (tw4 (tw4 f k x0) (k + 4) x1) (k + 8) x2) (k + 12) x3) (k + 16) x4)))] := hD
    refine lv_goto (tgt := 23) hx hb d_TrustChainLaw_feed_16 (by decide) ?_
    refine lv_iconst (v := 0) hx hb d_TrustChainLaw_feed_23 (by decide) ?_
    exact vx_ret (x_wide 1 6 (Nat.le_of_ble_eq_true rfl) (Nat.le_of_ble_eq_true rfl) (W.iret (v := 0) hx hb hr (fun t ht hW => ⟨⟨_, true, rfl, Or.inl ⟨rfl, rfl, hsm⟩, by rw [ht]; exact hP.sub [1, 2, 0] rfl, va_K.moved hW.alike hK, hD.sub [1, 2, 0] (by decide) rfl⟩, hS.F ht⟩) hS.2.2 d_TrustChainLaw_feed_24))
def y_TrustChainLaw_chain : MethodName := ⟨"TrustChainLaw", "chain", "(LTrustChain;I[J)I"⟩
abbrev b_TrustChainLaw_chain : ByteArray := method_12_code
def w_TrustChainLaw_chain : List Cond := Cond.codeWith y_TrustChainLaw_chain b_TrustChainLaw_chain 4 (some FieldType.int) [(0, 9, 12, 13)] :: tb
theorem d_TrustChainLaw_chain_0 : decode b_TrustChainLaw_chain 0 = .ok (.aload_n 2, 1) := by decide +kernel
theorem d_TrustChainLaw_chain_1 : decode b_TrustChainLaw_chain 1 = .ok (.iconst 0, 1) := by decide +kernel
theorem d_TrustChainLaw_chain_2 : decode b_TrustChainLaw_chain 2 = .ok (.aload_n 0, 1) := by decide +kernel
theorem d_TrustChainLaw_chain_3 : decode b_TrustChainLaw_chain 3 = .ok (.iload_n 1, 1) := by decide +kernel
theorem d_TrustChainLaw_chain_4 : decode b_TrustChainLaw_chain 4 = .ok (.invokevirtual 48, 3) := by decide +kernel
theorem d_TrustChainLaw_chain_7 : decode b_TrustChainLaw_chain 7 = .ok (.i2l, 1) := by decide +kernel
theorem d_TrustChainLaw_chain_8 : decode b_TrustChainLaw_chain 8 = .ok (.lastore, 1) := by decide +kernel
theorem d_TrustChainLaw_chain_9 : decode b_TrustChainLaw_chain 9 = .ok (.goto 6, 3) := by decide +kernel
theorem d_TrustChainLaw_chain_12 : decode b_TrustChainLaw_chain 12 = .ok (.astore_n 3, 1) := by decide +kernel
theorem d_TrustChainLaw_chain_13 : decode b_TrustChainLaw_chain 13 = .ok (.iconst 1, 1) := by decide +kernel
theorem d_TrustChainLaw_chain_14 : decode b_TrustChainLaw_chain 14 = .ok (.ireturn, 1) := by decide +kernel
theorem d_TrustChainLaw_chain_15 : decode b_TrustChainLaw_chain 15 = .ok (.iconst 0, 1) := by decide +kernel
theorem d_TrustChainLaw_chain_16 : decode b_TrustChainLaw_chain 16 = .ok (.ireturn, 1) := by decide +kernel
def y_TrustChainLaw_count : MethodName := ⟨"TrustChainLaw", "count", "(LTrustChain;I[J)I"⟩
abbrev b_TrustChainLaw_count : ByteArray := method_13_code
def w_TrustChainLaw_count : List Cond := Cond.codeWith y_TrustChainLaw_count b_TrustChainLaw_count 4 (some FieldType.int) [(0, 9, 12, 19)] :: tb
theorem d_TrustChainLaw_count_0 : decode b_TrustChainLaw_count 0 = .ok (.aload_n 2, 1) := by decide +kernel
theorem d_TrustChainLaw_count_1 : decode b_TrustChainLaw_count 1 = .ok (.iconst 0, 1) := by decide +kernel
theorem d_TrustChainLaw_count_2 : decode b_TrustChainLaw_count 2 = .ok (.aload_n 0, 1) := by decide +kernel
theorem d_TrustChainLaw_count_3 : decode b_TrustChainLaw_count 3 = .ok (.iload_n 1, 1) := by decide +kernel
theorem d_TrustChainLaw_count_4 : decode b_TrustChainLaw_count 4 = .ok (.invokevirtual 51, 3) := by decide +kernel
theorem d_TrustChainLaw_count_7 : decode b_TrustChainLaw_count 7 = .ok (.i2l, 1) := by decide +kernel
theorem d_TrustChainLaw_count_8 : decode b_TrustChainLaw_count 8 = .ok (.lastore, 1) := by decide +kernel
theorem d_TrustChainLaw_count_9 : decode b_TrustChainLaw_count 9 = .ok (.goto 6, 3) := by decide +kernel
theorem d_TrustChainLaw_count_12 : decode b_TrustChainLaw_count 12 = .ok (.astore_n 3, 1) := by decide +kernel
theorem d_TrustChainLaw_count_13 : decode b_TrustChainLaw_count 13 = .ok (.iconst 1, 1) := by decide +kernel
theorem d_TrustChainLaw_count_14 : decode b_TrustChainLaw_count 14 = .ok (.ireturn, 1) := by decide +kernel
theorem d_TrustChainLaw_count_15 : decode b_TrustChainLaw_count 15 = .ok (.iconst 0, 1) := by decide +kernel
theorem d_TrustChainLaw_count_16 : decode b_TrustChainLaw_count 16 = .ok (.ireturn, 1) := by decide +kernel
def y_TrustChainLaw_trust : MethodName := ⟨"TrustChainLaw", "trust", "(LTrustChain;IZ[J)I"⟩
abbrev b_TrustChainLaw_trust : ByteArray := method_6_code
def w_TrustChainLaw_trust : List Cond := Cond.codeWith y_TrustChainLaw_trust b_TrustChainLaw_trust 5 (some FieldType.int) [(0, 17, 20, 13)] :: tb
theorem d_TrustChainLaw_trust_0 : decode b_TrustChainLaw_trust 0 = .ok (.aload_n 3, 1) := by decide +kernel
theorem d_TrustChainLaw_trust_1 : decode b_TrustChainLaw_trust 1 = .ok (.iconst 0, 1) := by decide +kernel
theorem d_TrustChainLaw_trust_2 : decode b_TrustChainLaw_trust 2 = .ok (.aload_n 0, 1) := by decide +kernel
theorem d_TrustChainLaw_trust_3 : decode b_TrustChainLaw_trust 3 = .ok (.iload_n 1, 1) := by decide +kernel
theorem d_TrustChainLaw_trust_4 : decode b_TrustChainLaw_trust 4 = .ok (.iload_n 2, 1) := by decide +kernel
theorem d_TrustChainLaw_trust_5 : decode b_TrustChainLaw_trust 5 = .ok (.invokevirtual 25, 3) := by decide +kernel
theorem d_TrustChainLaw_trust_8 : decode b_TrustChainLaw_trust 8 = .ok (.ifCond .eq 7, 3) := by decide +kernel
theorem d_TrustChainLaw_trust_11 : decode b_TrustChainLaw_trust 11 = .ok (.lconst 1, 1) := by decide +kernel
theorem d_TrustChainLaw_trust_12 : decode b_TrustChainLaw_trust 12 = .ok (.goto 4, 3) := by decide +kernel
theorem d_TrustChainLaw_trust_15 : decode b_TrustChainLaw_trust 15 = .ok (.lconst 0, 1) := by decide +kernel
theorem d_TrustChainLaw_trust_16 : decode b_TrustChainLaw_trust 16 = .ok (.lastore, 1) := by decide +kernel
theorem d_TrustChainLaw_trust_17 : decode b_TrustChainLaw_trust 17 = .ok (.goto 7, 3) := by decide +kernel
theorem d_TrustChainLaw_trust_20 : decode b_TrustChainLaw_trust 20 = .ok (.astore 4, 2) := by decide +kernel
theorem d_TrustChainLaw_trust_22 : decode b_TrustChainLaw_trust 22 = .ok (.iconst 1, 1) := by decide +kernel
theorem d_TrustChainLaw_trust_23 : decode b_TrustChainLaw_trust 23 = .ok (.ireturn, 1) := by decide +kernel
theorem d_TrustChainLaw_trust_24 : decode b_TrustChainLaw_trust 24 = .ok (.iconst 0, 1) := by decide +kernel
theorem d_TrustChainLaw_trust_25 : decode b_TrustChainLaw_trust 25 = .ok (.ireturn, 1) := by decide +kernel
def y_TrustChainLaw_covers : MethodName := ⟨"TrustChainLaw", "covers", "(LTrustChain;IJJJJ[J)I"⟩
abbrev b_TrustChainLaw_covers : ByteArray := method_14_code
def w_TrustChainLaw_covers : List Cond := Cond.codeWith y_TrustChainLaw_covers b_TrustChainLaw_covers 12 (some FieldType.int) [(0, 24, 27, 13)] :: tb
theorem d_TrustChainLaw_covers_0 : decode b_TrustChainLaw_covers 0 = .ok (.aload 10, 2) := by decide +kernel
theorem d_TrustChainLaw_covers_2 : decode b_TrustChainLaw_covers 2 = .ok (.iconst 0, 1) := by decide +kernel
theorem d_TrustChainLaw_covers_3 : decode b_TrustChainLaw_covers 3 = .ok (.aload_n 0, 1) := by decide +kernel
theorem d_TrustChainLaw_covers_4 : decode b_TrustChainLaw_covers 4 = .ok (.iload_n 1, 1) := by decide +kernel
theorem d_TrustChainLaw_covers_5 : decode b_TrustChainLaw_covers 5 = .ok (.lload_n 2, 1) := by decide +kernel
theorem d_TrustChainLaw_covers_6 : decode b_TrustChainLaw_covers 6 = .ok (.lload 4, 2) := by decide +kernel
theorem d_TrustChainLaw_covers_8 : decode b_TrustChainLaw_covers 8 = .ok (.lload 6, 2) := by decide +kernel
theorem d_TrustChainLaw_covers_10 : decode b_TrustChainLaw_covers 10 = .ok (.lload 8, 2) := by decide +kernel
theorem d_TrustChainLaw_covers_12 : decode b_TrustChainLaw_covers 12 = .ok (.invokevirtual 54, 3) := by decide +kernel
theorem d_TrustChainLaw_covers_15 : decode b_TrustChainLaw_covers 15 = .ok (.ifCond .eq 7, 3) := by decide +kernel
theorem d_TrustChainLaw_covers_18 : decode b_TrustChainLaw_covers 18 = .ok (.lconst 1, 1) := by decide +kernel
theorem d_TrustChainLaw_covers_19 : decode b_TrustChainLaw_covers 19 = .ok (.goto 4, 3) := by decide +kernel
theorem d_TrustChainLaw_covers_22 : decode b_TrustChainLaw_covers 22 = .ok (.lconst 0, 1) := by decide +kernel
theorem d_TrustChainLaw_covers_23 : decode b_TrustChainLaw_covers 23 = .ok (.lastore, 1) := by decide +kernel
theorem d_TrustChainLaw_covers_24 : decode b_TrustChainLaw_covers 24 = .ok (.goto 7, 3) := by decide +kernel
theorem d_TrustChainLaw_covers_27 : decode b_TrustChainLaw_covers 27 = .ok (.astore 11, 2) := by decide +kernel
theorem d_TrustChainLaw_covers_29 : decode b_TrustChainLaw_covers 29 = .ok (.iconst 1, 1) := by decide +kernel
theorem d_TrustChainLaw_covers_30 : decode b_TrustChainLaw_covers 30 = .ok (.ireturn, 1) := by decide +kernel
theorem d_TrustChainLaw_covers_31 : decode b_TrustChainLaw_covers 31 = .ok (.iconst 0, 1) := by decide +kernel
theorem d_TrustChainLaw_covers_32 : decode b_TrustChainLaw_covers 32 = .ok (.ireturn, 1) := by decide +kernel
def y_TrustChainLaw_signed : MethodName := ⟨"TrustChainLaw", "signed", "(LTrustChain;ZII[J)I"⟩
abbrev b_TrustChainLaw_signed : ByteArray := method_9_code
def w_TrustChainLaw_signed : List Cond := Cond.codeWith y_TrustChainLaw_signed b_TrustChainLaw_signed 6 (some FieldType.int) [(0, 19, 22, 13)] :: tb
theorem d_TrustChainLaw_signed_0 : decode b_TrustChainLaw_signed 0 = .ok (.aload 4, 2) := by decide +kernel
theorem d_TrustChainLaw_signed_2 : decode b_TrustChainLaw_signed 2 = .ok (.iconst 0, 1) := by decide +kernel
theorem d_TrustChainLaw_signed_3 : decode b_TrustChainLaw_signed 3 = .ok (.aload_n 0, 1) := by decide +kernel
theorem d_TrustChainLaw_signed_4 : decode b_TrustChainLaw_signed 4 = .ok (.iload_n 1, 1) := by decide +kernel
theorem d_TrustChainLaw_signed_5 : decode b_TrustChainLaw_signed 5 = .ok (.iload_n 2, 1) := by decide +kernel
theorem d_TrustChainLaw_signed_6 : decode b_TrustChainLaw_signed 6 = .ok (.iload_n 3, 1) := by decide +kernel
theorem d_TrustChainLaw_signed_7 : decode b_TrustChainLaw_signed 7 = .ok (.invokevirtual 36, 3) := by decide +kernel
theorem d_TrustChainLaw_signed_10 : decode b_TrustChainLaw_signed 10 = .ok (.ifCond .eq 7, 3) := by decide +kernel
theorem d_TrustChainLaw_signed_13 : decode b_TrustChainLaw_signed 13 = .ok (.lconst 1, 1) := by decide +kernel
theorem d_TrustChainLaw_signed_14 : decode b_TrustChainLaw_signed 14 = .ok (.goto 4, 3) := by decide +kernel
theorem d_TrustChainLaw_signed_17 : decode b_TrustChainLaw_signed 17 = .ok (.lconst 0, 1) := by decide +kernel
theorem d_TrustChainLaw_signed_18 : decode b_TrustChainLaw_signed 18 = .ok (.lastore, 1) := by decide +kernel
theorem d_TrustChainLaw_signed_19 : decode b_TrustChainLaw_signed 19 = .ok (.goto 7, 3) := by decide +kernel
theorem d_TrustChainLaw_signed_22 : decode b_TrustChainLaw_signed 22 = .ok (.astore 5, 2) := by decide +kernel
theorem d_TrustChainLaw_signed_24 : decode b_TrustChainLaw_signed 24 = .ok (.iconst 1, 1) := by decide +kernel
theorem d_TrustChainLaw_signed_25 : decode b_TrustChainLaw_signed 25 = .ok (.ireturn, 1) := by decide +kernel
theorem d_TrustChainLaw_signed_26 : decode b_TrustChainLaw_signed 26 = .ok (.iconst 0, 1) := by decide +kernel
theorem d_TrustChainLaw_signed_27 : decode b_TrustChainLaw_signed 27 = .ok (.ireturn, 1) := by decide +kernel
def y_TrustChainLaw_digest : MethodName := ⟨"TrustChainLaw", "digest", "(LTrustChain;II[J)I"⟩
abbrev b_TrustChainLaw_digest : ByteArray := method_10_code
def w_TrustChainLaw_digest : List Cond := Cond.codeWith y_TrustChainLaw_digest b_TrustChainLaw_digest 5 (some FieldType.int) [(0, 10, 13, 13)] :: tb
theorem d_TrustChainLaw_digest_0 : decode b_TrustChainLaw_digest 0 = .ok (.aload_n 3, 1) := by decide +kernel
theorem d_TrustChainLaw_digest_1 : decode b_TrustChainLaw_digest 1 = .ok (.iconst 0, 1) := by decide +kernel
theorem d_TrustChainLaw_digest_2 : decode b_TrustChainLaw_digest 2 = .ok (.aload_n 0, 1) := by decide +kernel
theorem d_TrustChainLaw_digest_3 : decode b_TrustChainLaw_digest 3 = .ok (.iload_n 1, 1) := by decide +kernel
theorem d_TrustChainLaw_digest_4 : decode b_TrustChainLaw_digest 4 = .ok (.iload_n 2, 1) := by decide +kernel
theorem d_TrustChainLaw_digest_5 : decode b_TrustChainLaw_digest 5 = .ok (.invokevirtual 40, 3) := by decide +kernel
theorem d_TrustChainLaw_digest_8 : decode b_TrustChainLaw_digest 8 = .ok (.i2l, 1) := by decide +kernel
theorem d_TrustChainLaw_digest_9 : decode b_TrustChainLaw_digest 9 = .ok (.lastore, 1) := by decide +kernel
theorem d_TrustChainLaw_digest_10 : decode b_TrustChainLaw_digest 10 = .ok (.goto 7, 3) := by decide +kernel
theorem d_TrustChainLaw_digest_13 : decode b_TrustChainLaw_digest 13 = .ok (.astore 4, 2) := by decide +kernel
theorem d_TrustChainLaw_digest_15 : decode b_TrustChainLaw_digest 15 = .ok (.iconst 1, 1) := by decide +kernel
theorem d_TrustChainLaw_digest_16 : decode b_TrustChainLaw_digest 16 = .ok (.ireturn, 1) := by decide +kernel
theorem d_TrustChainLaw_digest_17 : decode b_TrustChainLaw_digest 17 = .ok (.iconst 0, 1) := by decide +kernel
theorem d_TrustChainLaw_digest_18 : decode b_TrustChainLaw_digest 18 = .ok (.ireturn, 1) := by decide +kernel
def y_TrustChainLaw_part : MethodName := ⟨"TrustChainLaw", "part", "(LTrustChain;II[J)I"⟩
abbrev b_TrustChainLaw_part : ByteArray := method_7_code
def w_TrustChainLaw_part : List Cond := Cond.codeWith y_TrustChainLaw_part b_TrustChainLaw_part 5 (some FieldType.int) [(0, 9, 12, 19), (0, 9, 16, 13)] :: tb
theorem d_TrustChainLaw_part_0 : decode b_TrustChainLaw_part 0 = .ok (.aload_n 3, 1) := by decide +kernel
theorem d_TrustChainLaw_part_1 : decode b_TrustChainLaw_part 1 = .ok (.iconst 0, 1) := by decide +kernel
theorem d_TrustChainLaw_part_2 : decode b_TrustChainLaw_part 2 = .ok (.aload_n 0, 1) := by decide +kernel
theorem d_TrustChainLaw_part_3 : decode b_TrustChainLaw_part 3 = .ok (.iload_n 1, 1) := by decide +kernel
theorem d_TrustChainLaw_part_4 : decode b_TrustChainLaw_part 4 = .ok (.iload_n 2, 1) := by decide +kernel
theorem d_TrustChainLaw_part_5 : decode b_TrustChainLaw_part 5 = .ok (.invokevirtual 29, 3) := by decide +kernel
theorem d_TrustChainLaw_part_8 : decode b_TrustChainLaw_part 8 = .ok (.lastore, 1) := by decide +kernel
theorem d_TrustChainLaw_part_9 : decode b_TrustChainLaw_part 9 = .ok (.goto 11, 3) := by decide +kernel
theorem d_TrustChainLaw_part_12 : decode b_TrustChainLaw_part 12 = .ok (.astore 4, 2) := by decide +kernel
theorem d_TrustChainLaw_part_14 : decode b_TrustChainLaw_part 14 = .ok (.iconst 1, 1) := by decide +kernel
theorem d_TrustChainLaw_part_15 : decode b_TrustChainLaw_part 15 = .ok (.ireturn, 1) := by decide +kernel
theorem d_TrustChainLaw_part_16 : decode b_TrustChainLaw_part 16 = .ok (.astore 4, 2) := by decide +kernel
theorem d_TrustChainLaw_part_18 : decode b_TrustChainLaw_part 18 = .ok (.iconst 2, 1) := by decide +kernel
theorem d_TrustChainLaw_part_19 : decode b_TrustChainLaw_part 19 = .ok (.ireturn, 1) := by decide +kernel
theorem d_TrustChainLaw_part_20 : decode b_TrustChainLaw_part 20 = .ok (.iconst 0, 1) := by decide +kernel
theorem d_TrustChainLaw_part_21 : decode b_TrustChainLaw_part 21 = .ok (.ireturn, 1) := by decide +kernel
def y_TrustChainLaw_listPart : MethodName := ⟨"TrustChainLaw", "listPart", "(LTrustChain;II[J)I"⟩
abbrev b_TrustChainLaw_listPart : ByteArray := method_8_code
def w_TrustChainLaw_listPart : List Cond := Cond.codeWith y_TrustChainLaw_listPart b_TrustChainLaw_listPart 5 (some FieldType.int) [(0, 9, 12, 19), (0, 9, 16, 13)] :: tb
theorem d_TrustChainLaw_listPart_0 : decode b_TrustChainLaw_listPart 0 = .ok (.aload_n 3, 1) := by decide +kernel
theorem d_TrustChainLaw_listPart_1 : decode b_TrustChainLaw_listPart 1 = .ok (.iconst 0, 1) := by decide +kernel
theorem d_TrustChainLaw_listPart_2 : decode b_TrustChainLaw_listPart 2 = .ok (.aload_n 0, 1) := by decide +kernel
theorem d_TrustChainLaw_listPart_3 : decode b_TrustChainLaw_listPart 3 = .ok (.iload_n 1, 1) := by decide +kernel
theorem d_TrustChainLaw_listPart_4 : decode b_TrustChainLaw_listPart 4 = .ok (.iload_n 2, 1) := by decide +kernel
theorem d_TrustChainLaw_listPart_5 : decode b_TrustChainLaw_listPart 5 = .ok (.invokevirtual 33, 3) := by decide +kernel
theorem d_TrustChainLaw_listPart_8 : decode b_TrustChainLaw_listPart 8 = .ok (.lastore, 1) := by decide +kernel
theorem d_TrustChainLaw_listPart_9 : decode b_TrustChainLaw_listPart 9 = .ok (.goto 11, 3) := by decide +kernel
theorem d_TrustChainLaw_listPart_12 : decode b_TrustChainLaw_listPart 12 = .ok (.astore 4, 2) := by decide +kernel
theorem d_TrustChainLaw_listPart_14 : decode b_TrustChainLaw_listPart 14 = .ok (.iconst 1, 1) := by decide +kernel
theorem d_TrustChainLaw_listPart_15 : decode b_TrustChainLaw_listPart 15 = .ok (.ireturn, 1) := by decide +kernel
theorem d_TrustChainLaw_listPart_16 : decode b_TrustChainLaw_listPart 16 = .ok (.astore 4, 2) := by decide +kernel
theorem d_TrustChainLaw_listPart_18 : decode b_TrustChainLaw_listPart 18 = .ok (.iconst 2, 1) := by decide +kernel
theorem d_TrustChainLaw_listPart_19 : decode b_TrustChainLaw_listPart 19 = .ok (.ireturn, 1) := by decide +kernel
theorem d_TrustChainLaw_listPart_20 : decode b_TrustChainLaw_listPart 20 = .ok (.iconst 0, 1) := by decide +kernel
theorem d_TrustChainLaw_listPart_21 : decode b_TrustChainLaw_listPart 21 = .ok (.ireturn, 1) := by decide +kernel
def y_TrustChainLaw_validate : MethodName := ⟨"TrustChainLaw", "validate", "(LTrustChain;IJIZ[J)I"⟩
abbrev b_TrustChainLaw_validate : ByteArray := method_11_code
def w_TrustChainLaw_validate : List Cond := Cond.codeWith y_TrustChainLaw_validate b_TrustChainLaw_validate 8 (some FieldType.int) [(0, 15, 18, 19), (0, 15, 22, 13)] :: tb
theorem d_TrustChainLaw_validate_0 : decode b_TrustChainLaw_validate 0 = .ok (.aload 6, 2) := by decide +kernel
theorem d_TrustChainLaw_validate_2 : decode b_TrustChainLaw_validate 2 = .ok (.iconst 0, 1) := by decide +kernel
theorem d_TrustChainLaw_validate_3 : decode b_TrustChainLaw_validate 3 = .ok (.aload_n 0, 1) := by decide +kernel
theorem d_TrustChainLaw_validate_4 : decode b_TrustChainLaw_validate 4 = .ok (.iload_n 1, 1) := by decide +kernel
theorem d_TrustChainLaw_validate_5 : decode b_TrustChainLaw_validate 5 = .ok (.lload_n 2, 1) := by decide +kernel
theorem d_TrustChainLaw_validate_6 : decode b_TrustChainLaw_validate 6 = .ok (.iload 4, 2) := by decide +kernel
theorem d_TrustChainLaw_validate_8 : decode b_TrustChainLaw_validate 8 = .ok (.iload 5, 2) := by decide +kernel
theorem d_TrustChainLaw_validate_10 : decode b_TrustChainLaw_validate 10 = .ok (.invokevirtual 44, 3) := by decide +kernel
theorem d_TrustChainLaw_validate_13 : decode b_TrustChainLaw_validate 13 = .ok (.i2l, 1) := by decide +kernel
theorem d_TrustChainLaw_validate_14 : decode b_TrustChainLaw_validate 14 = .ok (.lastore, 1) := by decide +kernel
theorem d_TrustChainLaw_validate_15 : decode b_TrustChainLaw_validate 15 = .ok (.goto 11, 3) := by decide +kernel
theorem d_TrustChainLaw_validate_18 : decode b_TrustChainLaw_validate 18 = .ok (.astore 7, 2) := by decide +kernel
theorem d_TrustChainLaw_validate_20 : decode b_TrustChainLaw_validate 20 = .ok (.iconst 1, 1) := by decide +kernel
theorem d_TrustChainLaw_validate_21 : decode b_TrustChainLaw_validate 21 = .ok (.ireturn, 1) := by decide +kernel
theorem d_TrustChainLaw_validate_22 : decode b_TrustChainLaw_validate 22 = .ok (.astore 7, 2) := by decide +kernel
theorem d_TrustChainLaw_validate_24 : decode b_TrustChainLaw_validate 24 = .ok (.iconst 2, 1) := by decide +kernel
theorem d_TrustChainLaw_validate_25 : decode b_TrustChainLaw_validate 25 = .ok (.ireturn, 1) := by decide +kernel
theorem d_TrustChainLaw_validate_26 : decode b_TrustChainLaw_validate 26 = .ok (.iconst 0, 1) := by decide +kernel
theorem d_TrustChainLaw_validate_27 : decode b_TrustChainLaw_validate 27 = .ok (.ireturn, 1) := by decide +kernel
