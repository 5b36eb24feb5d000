/-! Search: what it does. -/
/-- a start that tells the slots in use -/
def mz_P (sl : Nat) (av : List Value) (D : va_G) (sb : sB) (ws : va_W) (tys : List (ClassId × FieldType)) (sz : Nat) : Array Value → State → Prop := fun a U => mu_P av D sb ws tys sz a U ∧ slN U.heap = sl
theorem mz_blind {sl : Nat} {av : List Value} {D : va_G} {sb : sB} {ws : va_W} {tys : List (ClassId × FieldType)} {sz : Nat} : FrameBlind (mz_P sl av D sb ws tys sz) := fun a U g mk q => ⟨mu_blind a U g mk q.1, q.2⟩
def mz_B (D : va_G) (tys : List (ClassId × FieldType)) (G : va_W) (sz sl : Nat) (o : alD) (u : va_W × alD × List Nat) (t : State) : Prop := mu_B D tys (va_A G sz) (fun u' : va_W × alD × List Nat => u'.1) u t ∧ t.heap.size + fC u.2.1 ≤ sz + fC o ∧ slN t.heap + fS u.2.1 ≤ sl + fS o
section MZC
variable {p : Program} {l : Launch} {e : Env} {R : Room} {s : State} {m : MethodId} {args : Array Value} {below : List Frame} {meth : Method} {c : Code} {H : Heap} {locs : List Loc} {cells slots : Nat} {Q : State → Prop}
variable {pc : Nat} {ls : Array Slot} {rest st0 : List Value} {cc bytes : ByteArray} {nL maxL index : Nat} {Ts : List Cond} {own C : String} {y : MethodName} {ret : Option FieldType} {rm : Room} {D : va_G} {ws wsB : va_W} {tys tysB : List (ClassId × FieldType)} {As : List Value} {b : Nat} {fs : List Value} {q : vw_C} {n mc ms : Nat} {A : Nat → Prop} {sb : sB}
theorem mz_runV {Qc : Array Value → State → Outcome → State → Prop} (S : CallFix p m c cc nL s args Ts own) (hin : ∀ w ∈ tb, w ∈ Ts) (hM : Met l y (Cond.code y bytes maxL ret :: tb) rm (mz_P (slN H) (.ref b :: As) D sb ws tys H.size) Qc mc ms (va_A ws H.size))
    (h1 : Cond.methodLink own index y ∈ tb) (h2 : Cond.instanceMethod y ∈ tb) (h3 : Cond.selects C y y ∈ tb) (h4 : Cond.initialized C ∈ tb) (h5 : Cond.code y bytes maxL ret ∈ tb)
    (hd : y.cls = C ∧ y.cls ≠ "java/lang/invoke/MethodHandle" ∧ y.cls ≠ "java/lang/invoke/VarHandle" ∧ (parseMethodDescriptor y.desc).map (fun d => d.parameters.length) = some n) (hn : As.length = n)
    (hz : rm.cells = mc ∧ rm.slots = ms) (hR : rm.frames + 1 ≤ R.frames ∧ 8 + (maxL + 11) + rm.locals ≤ R.locals) (hf : cells + mc ≤ R.cells ∧ slots + ms ≤ R.slots)
    (hN : nwOK sb s) (hT : stOK sb s H) (hAs : ∀ q, A q → sb.1 ≤ q) (hbH : sb.1 ≤ H.size) (hK : va_K D classes tysB s) (hP : va_P D classes wsB H) (hD : va_D A wsB) (is : List Nat) (hnd : va_nd is = true) (hs : is.map (fun i => wsB[i]?) = ws.map some) (ts : List Nat) (ht : ts.filterMap (fun i => tysB[i]?) = tys)
    (q0 ci : Nat) (he : wsB[q0]? = some (b, .inr (ci, fs))) (hc : classes[ci]? = some q) (hq : q.1 = C)
    (hsize : ls.size = nL) (hstack : st0 = As.reverse ++ .ref b :: rest) (hW : (rest.map fun v => v.category).sum ≤ 8) (hdg : decode cc pc = .ok (.invokevirtual index, 3)) :
    va_Run p l e R s m args below meth c H locs cells slots mc ms (F0 m pc ls st0) rest (Qc (Value.ref b :: As).toArray) (va_A ws H.size) := by
  subst hstack
  subst hn
  subst hq
  exact va_runV (As := As) (rest := rest) S hM (cwV As.length S.2.2.2.2 (gd_V hin h1 h2 h3 h4 h5) rfl hz.1 hz.2 hd hR) ⟨mz_blind, va_recv hK hP hc he, fun U hU hW9 => ⟨mu_pre hN hT hAs hbH hK hP hD is hnd hs ts ht U hU hW9, by rw [hU]⟩⟩ rfl rfl hsize rfl (lv_room hW) hdg ⟨hf.1, hf.2⟩
end MZC
/-- what put costs: nothing on a full path -/
def pC (o : alD) (z : Nat) : Nat := if z < 16 then aC o z else 0
def pS (o : alD) (z : Nat) : Nat := if z < 16 then alS o z else 0
def alM (o : alD) (z : Nat) : Nat := if z < 16 then alN o z else alK o
theorem fC_at {o o' : alD} (h : alK o' = alK o) : fC o' = fC o ∧ fS o' = fS o := by unfold fC fS; rw [h]; exact ⟨rfl, rfl⟩
theorem pC_pay {o o' : alD} {z : Nat} (hi : alI o z) (hk : alK o' = alM o z) : pC o z + fC o' ≤ fC o ∧ pS o z + fS o' ≤ fS o := by
  unfold pC pS
  unfold alM at hk
  by_cases h : z < 16
  · rw [if_pos h] at hk
    rw [if_pos h, if_pos h]
    exact aC_pay hi h hk
  · rw [if_neg h] at hk
    rw [if_neg h, if_neg h]
    have := fC_at hk
    omega
theorem pC_le {o : alD} {z : Nat} (hi : alI o z) : pC o z ≤ fC o ∧ pS o z ≤ fS o := by
  have := pC_pay (o' := some (0, alM o z, fun _ => none)) hi rfl
  omega
theorem nI_at9 {x : Int32} {n : Nat} (h1 : ¬ x < 0) (h2 : x < nI n) (hn : n < 2 ^ 31) : ∃ k : Nat, k < n ∧ x = nI k := by
  obtain ⟨j, hj, rfl⟩ := nI_of h1
  rw [nI_ltI hj hn] at h2
  exact ⟨j, h2, rfl⟩
def y_Search_put : MethodName := ⟨"TrustChain$Search", "put", "(LTrustChain$Certificate;)V"⟩
abbrev b_Search_put : ByteArray := prog_10_method_4_code
def w_Search_put : List Cond := Cond.code y_Search_put b_Search_put 2 (none) :: tb
theorem d_Search_put_0 : decode b_Search_put 0 = .ok (.aload_n 0, 1) := by decide +kernel
theorem d_Search_put_1 : decode b_Search_put 1 = .ok (.getfield 12, 3) := by decide +kernel
theorem d_Search_put_4 : decode b_Search_put 4 = .ok (.invokevirtual 59, 3) := by decide +kernel
theorem d_Search_put_7 : decode b_Search_put 7 = .ok (.aload_n 0, 1) := by decide +kernel
theorem d_Search_put_8 : decode b_Search_put 8 = .ok (.getfield 18, 3) := by decide +kernel
theorem d_Search_put_11 : decode b_Search_put 11 = .ok (.arraylength, 1) := by decide +kernel
theorem d_Search_put_12 : decode b_Search_put 12 = .ok (.if_icmp .ge 50, 3) := by decide +kernel
theorem d_Search_put_15 : decode b_Search_put 15 = .ok (.aload_n 0, 1) := by decide +kernel
theorem d_Search_put_16 : decode b_Search_put 16 = .ok (.getfield 18, 3) := by decide +kernel
theorem d_Search_put_19 : decode b_Search_put 19 = .ok (.aload_n 0, 1) := by decide +kernel
theorem d_Search_put_20 : decode b_Search_put 20 = .ok (.getfield 12, 3) := by decide +kernel
theorem d_Search_put_23 : decode b_Search_put 23 = .ok (.invokevirtual 59, 3) := by decide +kernel
theorem d_Search_put_26 : decode b_Search_put 26 = .ok (.iconst 0, 1) := by decide +kernel
theorem d_Search_put_27 : decode b_Search_put 27 = .ok (.iastore, 1) := by decide +kernel
theorem d_Search_put_28 : decode b_Search_put 28 = .ok (.aload_n 0, 1) := by decide +kernel
theorem d_Search_put_29 : decode b_Search_put 29 = .ok (.getfield 12, 3) := by decide +kernel
theorem d_Search_put_32 : decode b_Search_put 32 = .ok (.aload_n 1, 1) := by decide +kernel
theorem d_Search_put_33 : decode b_Search_put 33 = .ok (.invokevirtual 74, 3) := by decide +kernel
theorem d_Search_put_36 : decode b_Search_put 36 = .ok (.pop, 1) := by decide +kernel
theorem d_Search_put_37 : decode b_Search_put 37 = .ok (.aload_n 0, 1) := by decide +kernel
theorem d_Search_put_38 : decode b_Search_put 38 = .ok (.dup, 1) := by decide +kernel
theorem d_Search_put_39 : decode b_Search_put 39 = .ok (.getfield 29, 3) := by decide +kernel
theorem d_Search_put_42 : decode b_Search_put 42 = .ok (.iconst 1, 1) := by decide +kernel
theorem d_Search_put_43 : decode b_Search_put 43 = .ok (.aload_n 1, 1) := by decide +kernel
theorem d_Search_put_44 : decode b_Search_put 44 = .ok (.getfield 78, 3) := by decide +kernel
theorem d_Search_put_47 : decode b_Search_put 47 = .ok (.ishl, 1) := by decide +kernel
theorem d_Search_put_48 : decode b_Search_put 48 = .ok (.ior, 1) := by decide +kernel
theorem d_Search_put_49 : decode b_Search_put 49 = .ok (.putfield 29, 3) := by decide +kernel
theorem d_Search_put_52 : decode b_Search_put 52 = .ok (.aload_n 0, 1) := by decide +kernel
theorem d_Search_put_53 : decode b_Search_put 53 = .ok (.dup, 1) := by decide +kernel
theorem d_Search_put_54 : decode b_Search_put 54 = .ok (.getfield 26, 3) := by decide +kernel
theorem d_Search_put_57 : decode b_Search_put 57 = .ok (.iconst 1, 1) := by decide +kernel
theorem d_Search_put_58 : decode b_Search_put 58 = .ok (.iadd, 1) := by decide +kernel
theorem d_Search_put_59 : decode b_Search_put 59 = .ok (.putfield 26, 3) := by decide +kernel
theorem d_Search_put_62 : decode b_Search_put 62 = .ok (.return_, 1) := by decide +kernel
set_option maxHeartbeats 4000000 in
set_option maxRecDepth 100000 in
theorem m_Search_put (l : Launch) (dC : Nat → ClassId) (dI : Nat → Nat → Nat) (sb : sB) (γ : cG) (κ : kE) (Ad : List Nat) (ν : Nat → cN) (ω : Nat → List Nat) (L : Nat) (G : va_W) (h c9 pl : Nat) (nx : Nat) (p1 p2 : Nat) (o : alD) (as : List Nat) (sz : Nat) (hTy : TY γ κ Ad ν ω L G) (kh : tK κ Ad h (13, pl, 0)) (kc9 : tK κ Ad c9 (8, p1, p2)) (kpl : PLx γ sb κ Ad 8 pl o as G) (hnx : nx = (ω h).getD 0 0) (hNL : ∀ a, (κ a).1 = 6 → ∀ b, b ∈ Ad → (κ b).1 = 14 ∨ (κ b).1 = 16 → (κ b).2.2 ≠ a) (h16 : as.length < 16) : Met l y_Search_put w_Search_put ({ frames := 8, cells := (pC o as.length), slots := (pS o as.length), locals := 260 }) (mu_P [.ref h, .ref c9] (dC, dI) sb G [(γ.1, .byte), (γ.2.1, .int), (γ.2.2.1, .long), (γ.2.2.2, .object "java/lang/Object")] sz) (va_Qv (fun (u' : va_W × alD × List Nat) => ∃ (ν' : Nat → cN) (ω' : Nat → List Nat), (∀ b, b ≠ h → ν' b = ν b) ∧ (ν' h = mkS (ν h) (ν h).1 ((ν h).2.1 + 1) ((ν h).2.2.1 ||| (1 <<< ((ν c9).2.2.2.2.2.2.2.2.2.2.2.2 &&& 31)))) ∧ (∀ b, b ≠ nx → ω' b = ω b) ∧ (ω' nx = setL (ω nx) as.length 0) ∧ TY γ κ Ad ν' ω' L u'.1 ∧ PLx γ sb κ Ad 8 pl u'.2.1 u'.2.2 u'.1 ∧ FRs γ Ad pl G u'.1 ∧ (alK u'.2.1 = alM o as.length ∧ u'.2.2 = as ++ [c9])) (mu_B (dC, dI) [(γ.1, .byte), (γ.2.1, .int), (γ.2.2.1, .long), (γ.2.2.2, .object "java/lang/Object")] (va_A G sz) (fun u' : va_W × alD × List Nat => u'.1)) (va_A G sz)) (pC o as.length) (pS o as.length) (va_A G sz) := by
  refine Met.ofW (cc := b_Search_put) (maxL := 2) (ret := none) (by decide) rfl ?_
  intro p e s m args below meth c s₁ B hml hv
  obtain ⟨rfl, hsz, hB0, hP, hK, hD0, hN, hT0⟩ := hv
  have hx := B.exec
  have hb := B.bytes
  have hr := B.returns
  have hts := atoms_spec (ws := w_Search_put) B.pre
  have tbin : ∀ w ∈ tb, w ∈ w_Search_put := fun w h => List.mem_cons_of_mem _ h
  have htb : ∀ w ∈ tb, w.before _ s = true := fun w h => hts w (tbin w h)
  have hown : s.vm.findClass "TrustChain$Search" = some m.cls := findClass_of_methodNamed B.named
  have hlocks := B.notSynchronized
  subst hsz
  have hD := hD0.self (sz := s.heap.size)
  generalize hAe : va_A G s.heap.size = A at hD ⊢
  have hA : ∀ q : Nat, s.heap.size ≤ q → A q := fun q h => by rw [← hAe]; exact Or.inr h
  have hAs : ∀ q : Nat, A q → sb.1 ≤ q := fun q h => by
    rw [← hAe] at h
    rcases h with ⟨k, e, h⟩ | h
    · exact hD0.2 k _ h
    · exact Nat.le_trans hB0 h
  have hS : va_S A s.heap s.heap [] := va_S.rf
  have hFR := FRs.rf γ Ad pl G
  have hcs : (pC o as.length) ≤ (headSpec w_Search_put ({ frames := 8, cells := (pC o as.length), slots := (pS o as.length), locals := 260 })).room.cells ∧ (pS o as.length) ≤ (headSpec w_Search_put ({ frames := 8, cells := (pC o as.length), slots := (pS o as.length), locals := 260 })).room.slots := ⟨Nat.le_refl _, Nat.le_refl _⟩
  have hP : va_P (dC, dI) classes G s.heap := hP
  have hl := lv_entry ([.ref h, .ref c9]) (n := 2) (Nat.le_of_ble_eq_true rfl)
  rw [lg_entry_eq]
  generalize (lg_sl ([.ref h, .ref c9]) ++ List.replicate (2 - (lg_sl ([.ref h, .ref c9])).length) Slot.unset).toArray = ls at hl ⊢
  have hl : lv_has ls 2 [(0, .ref h), (1, .ref c9)] := hl
  have hTy0 := hTy
  have hhn9 : h ≠ nx := sx_ne hTy kh hnx
  refine lv_aload_n hx hb d_Search_put_0 rfl (lv_at hl 0 rfl) ?_
  obtain ⟨i_1, nx_1, ⟨knx_1, enx_1⟩, hg_1⟩ := ty_13 hTy kh
  have enk_1 : nx = (ω h).getD 0 0 := hnx
  obtain rfl : nx = nx_1 := enk_1.trans enx_1.symm
  have hg_1 : G[i_1]? = some (h, .inr (8, [.ref pl, .ref nx, .int ((ν h).1), .int ((ν h).2.1), .int ((ν h).2.2.1)])) := hg_1
  refine va_get (v := .ref pl) hx hb htb i_Search hown hK hP i_1 hg_1 rfl 0 (by decide) (htb _ q1_119) (fun _ h9 => h9) rfl d_Search_put_1 ?_
  obtain ⟨i_2, m_2, hK_2, hg_2⟩ := pl_size kpl
  refine vp_callSi (pu_callV (As := []) (rest := []) ⟨hx, hb, hml, hown, hts⟩ tbin (c_AL_size l dC dI sb pl (alO sb o) as.length m_2) q6_13 q2_54 q2_55 q1_4 q2_56 (n := 0) (by decide +kernel) rfl ⟨rfl, rfl⟩ ⟨Nat.le_of_ble_eq_true rfl, Nat.le_of_ble_eq_true rfl⟩ ⟨Nat.le_of_ble_eq_true rfl, Nat.le_of_ble_eq_true rfl⟩ hN (hT0.keep hS hAs) hK hP [i_2] (by simp only [List.filterMap_cons, List.filterMap_nil, hg_2]) [] rfl i_2 11 hg_2 rfl rfl hl.1 rfl (Nat.le_of_ble_eq_true rfl) d_Search_put_4) (fun r4 hr4 => ?_)
  subst hr4
  refine lv_aload_n hx hb d_Search_put_7 rfl (lv_at hl 0 rfl) ?_
  refine va_get (v := .ref nx) hx hb htb i_Search hown hK hP i_1 hg_1 rfl 1 (by decide) (htb _ q1_121) (fun _ h9 => h9) rfl d_Search_put_8 ?_
  obtain ⟨i_3, f_3, hr_3, hg_3⟩ := ty_6r hTy knx_1
  refine va_alen (v := nI 16) hx hb hK hP i_3 1 hg_3 rfl rfl d_Search_put_11 ?_
  refine lv_icmp_ge (tgt := 62) hx hb d_Search_put_12 (by decide) (fun c12 => ?_) (fun c12 => ?_)
  · have p12 : 16 ≤ as.length := ((nI_leI (a := 16) (b := as.length) (by omega) (by omega)).mp c12)
    refine W.widen (k := (pC o as.length)) (n := (pS o as.length)) (by omega) (by omega) ?_
    exact W.vret hx hb hr (fun t ht hW => ⟨⟨(G, o, as), rfl, ⟨ν, ω, (fun _ _ => rfl), False.elim (by omega), (fun _ _ => rfl), False.elim (by omega), hTy, kpl, hFR, False.elim (by omega)⟩, ⟨by rw [ht]; exact hP, va_K.moved hW.alike hK, hD⟩⟩, hS.F ht⟩) hS.2.2 d_Search_put_62
  · have p12 : ¬ (16 ≤ as.length) := (fun q9 => c12 ((nI_leI (a := 16) (b := as.length) (by omega) (by omega)).mpr q9))
    refine lv_aload_n hx hb d_Search_put_15 rfl (lv_at hl 0 rfl) ?_
    refine va_get (v := .ref nx) hx hb htb i_Search hown hK hP i_1 hg_1 rfl 1 (by decide) (htb _ q1_121) (fun _ h9 => h9) rfl d_Search_put_16 ?_
    refine lv_aload_n hx hb d_Search_put_19 rfl (lv_at hl 0 rfl) ?_
    refine va_get (v := .ref pl) hx hb htb i_Search hown hK hP i_1 hg_1 rfl 0 (by decide) (htb _ q1_119) (fun _ h9 => h9) rfl d_Search_put_20 ?_
    refine vp_callSi (pu_callV (As := []) (rest := [.ref nx]) ⟨hx, hb, hml, hown, hts⟩ tbin (c_AL_size l dC dI sb pl (alO sb o) as.length m_2) q6_13 q2_54 q2_55 q1_4 q2_56 (n := 0) (by decide +kernel) rfl ⟨rfl, rfl⟩ ⟨Nat.le_of_ble_eq_true rfl, Nat.le_of_ble_eq_true rfl⟩ ⟨Nat.le_of_ble_eq_true rfl, Nat.le_of_ble_eq_true rfl⟩ hN (hT0.keep hS hAs) hK hP [i_2] (by simp only [List.filterMap_cons, List.filterMap_nil, hg_2]) [] rfl i_2 11 hg_2 rfl rfl hl.1 rfl (Nat.le_of_ble_eq_true rfl) d_Search_put_23) (fun r23 hr23 => ?_)
    subst hr23
    refine lv_iconst (v := 0) hx hb d_Search_put_26 (by decide) ?_
    have h27 : vp_in (nI as.length) 16 := vp_in_nI (by omega) (by omega)
    refine va_iast hx hb hK hP hD hS i_3 1 hg_3 rfl h27 d_Search_put_27 (fun H27 locs hP hD2 hS => ?_)
    have hP : va_P (dC, dI) classes (G.set i_3 (nx, .inl (γ.2.1, 16, .inl (upd f_3 (nI as.length).toNatClampNeg (0 : Int32))))) H27 := hP
    have hD3 : va_D A (G.set i_3 (nx, .inl (γ.2.1, 16, .inl (upd f_3 (nI as.length).toNatClampNeg (0 : Int32))))) := hD2
    obtain ⟨ω27_4, hω27_4, eω27_4⟩ : ∃ z : Nat → List Nat, (∀ b, b ≠ nx → z b = ω b) ∧ z nx = setL (ω nx) as.length 0 := ⟨fun b => if b = nx then setL (ω nx) as.length 0 else ω b, fun b hb => if_neg hb, if_pos rfl⟩
    have hF1 := FR.set (c' := .inl (γ.2.1, 16, .inl (upd f_3 (nI as.length).toNatClampNeg (0 : Int32)))) hg_3 knx_1.1
    have kpl := kpl.fr hF1
    have hFR := hFR.tr hF1.s
    clear hF1
    have hTy := TY.setom (ω' := ω27_4) (c' := .inl (γ.2.1, 16, .inl (upd f_3 (nI as.length).toNatClampNeg (0 : Int32)))) hTy hD hg_3 hω27_4 (by rw [knx_1.2]) (hNL nx (by rw [knx_1.2])) (ok_6r knx_1 (by rw [eω27_4]; exact st_16 hr_3 rfl (nI_clamp (by omega))))
    have hD := hD3
    have hWω27_4 : ∀ b, b ≠ nx → ω27_4 b = ω b := fun b hb => hω27_4 b hb
    clear hD3 hD2
    generalize G.set i_3 (nx, .inl (γ.2.1, 16, .inl (upd f_3 (nI as.length).toNatClampNeg (0 : Int32)))) = G_4 at hP hD hTy hFR kpl
    have hpc8 : pC o as.length = aC o as.length := if_pos (by omega)
    have hps8 : pS o as.length = alS o as.length := if_pos (by omega)
    refine lv_aload_n hx hb d_Search_put_28 rfl (lv_at hl 0 rfl) ?_
    obtain ⟨i_5, nx_5, ⟨knx_5, enx_5⟩, hg_5⟩ := ty_13 hTy kh
    have enk_5 : nx = (ω27_4 h).getD 0 0 := by rw [hWω27_4 _ hhn9]; exact hnx
    obtain rfl : nx = nx_5 := enk_5.trans enx_5.symm
    have hg_5 : G_4[i_5]? = some (h, .inr (8, [.ref pl, .ref nx, .int ((ν h).1), .int ((ν h).2.1), .int ((ν h).2.2.1)])) := hg_5
    refine va_get (v := .ref pl) hx hb htb i_Search hown hK hP i_5 hg_5 rfl 0 (by decide) (htb _ q1_119) (fun _ h9 => h9) rfl d_Search_put_29 ?_
    refine lv_aload_n hx hb d_Search_put_32 rfl (lv_at hl 1 rfl) ?_
    obtain ⟨m33, R33, hp33⟩ := pl_split kpl
    have hP := hP.perm hp33
    have hD := hD.perm hp33
    have hai33 := kpl.2.2.2.1
    have hcz33 := aC_le hai33 (by omega)
    refine al_addX (own := "TrustChain$Search") 3 _ c9 pl as.length m33 γ.2.2.2 o rfl qn9_237 ⟨hx, hb, hml, hown, hts⟩ tbin q6_14 hN (hT0.keep hS hAs) hAs (Nat.le_trans hB0 hS.1) hA hK 3 rfl hP hD hS hai33 (by omega) (pl_elF hTy kpl hp33) (pl_cell hTy kpl hp33 kc9) (Nat.le_of_ble_eq_true rfl) (Nat.le_of_ble_eq_true rfl) (by omega) (by omega) hl.1 (Nat.le_of_ble_eq_true rfl) d_Search_put_33 (fun o33 n33 H33 locs hi33 hk33 hm33 he33 hf33 hv33 hP hD hS => ?_)
    obtain ⟨hTy, kpl, hF9⟩ := pl_new (as' := (as ++ [c9])) (z' := (as.length + 1)) hTy kpl hp33 (by rw [List.length_append]; rfl) hD hi33 (by omega) (pl_addF kpl hf33 hv33) (pl_addK kpl kc9)
    have hFR := hFR.tr hF9
    clear hF9
    have hD : va_D A ((pl, .inr (11, [.ref (alO sb o33), .int (nI (as.length + 1)), .int n33])) :: (alC γ.2.2.2 o33 ++ R33)) := hD
    have hP : va_P (dC, dI) classes ((pl, .inr (11, [.ref (alO sb o33), .int (nI (as.length + 1)), .int n33])) :: (alC γ.2.2.2 o33 ++ R33)) H33 := hP
    generalize ((pl, .inr (11, [.ref (alO sb o33), .int (nI (as.length + 1)), .int n33])) :: (alC γ.2.2.2 o33 ++ R33) : va_W) = G_6 at hP hD hTy hFR kpl
    obtain ⟨as33, ea33⟩ : ∃ z, z = (as ++ [c9]) := ⟨_, rfl⟩
    rw [← ea33] at kpl
    have hla33 : as33.length = (as.length + 1) := by rw [ea33]; rw [List.length_append]; rfl
    refine lv_pop hx hb d_Search_put_36 rfl ?_
    refine lv_aload_n hx hb d_Search_put_37 rfl (lv_at hl 0 rfl) ?_
    refine lv_dup hx hb d_Search_put_38 rfl ?_
    obtain ⟨i_7, nx_7, ⟨knx_7, enx_7⟩, hg_7⟩ := ty_13 hTy kh
    have enk_7 : nx = (ω27_4 h).getD 0 0 := by rw [hWω27_4 _ hhn9]; exact hnx
    obtain rfl : nx = nx_7 := enk_7.trans enx_7.symm
    have hg_7 : G_6[i_7]? = some (h, .inr (8, [.ref pl, .ref nx, .int ((ν h).1), .int ((ν h).2.1), .int ((ν h).2.2.1)])) := hg_7
    refine va_get (v := .int ((ν h).2.2.1)) hx hb htb i_Search hown hK hP i_7 hg_7 rfl 4 (by decide) (htb _ q1_124) (fun _ h9 => h9) rfl d_Search_put_39 ?_
    refine lv_iconst (v := 1) hx hb d_Search_put_42 (by decide) ?_
    refine lv_aload_n hx hb d_Search_put_43 rfl (lv_at hl 1 rfl) ?_
    obtain ⟨i_8, bo_8, K_8, B_8, kbo_8, wl_8, hg_8⟩ := ty_8x hTy kc9
    obtain ⟨⟨A_8, knm_8⟩, kpe_8, kec_8, kse_8, ksu_8, kmo_8, kok_8, kik_8, kha_8, ksi_8, ken_8, ksg_8, kis_8⟩ := K_8
    have knm_8 := tK.fiv ⟨_, _, knm_8⟩
    have kpe_8 := tK.fiv kpe_8
    have kec_8 := tK.fiv kec_8
    have ksu_8 := tK.two ksu_8
    have kmo_8 := tK.two kmo_8
    have kok_8 := tK.two kok_8
    have kik_8 := tK.two kik_8
    have ksg_8 := tK.two ksg_8
    have kis_8 := tK.two kis_8
    refine va_get (v := .int ((ν c9).2.2.2.2.2.2.2.2.2.2.2.2)) hx hb htb i_Certificate hown hK hP i_8 hg_8 rfl 17 (by decide) (htb _ q2_188) (fun _ h9 => h9) rfl d_Search_put_44 ?_
    refine lv_ishl hx hb d_Search_put_47 ?_
    refine lv_ior hx hb d_Search_put_48 ?_
    refine va_put (v := .int (((ν h).2.2.1) ||| ((1 : Int32) <<< (((ν c9).2.2.2.2.2.2.2.2.2.2.2.2) &&& 31)))) (ty := .int) hx hb htb i_Search t_Search t_Search_ok n_Search hown hK hP hD hS i_7 hg_7 rfl 4 (by decide) (htb _ q1_124) (fun _ h9 => h9) rfl (by decide +kernel) rfl rfl (Nat.le_of_ble_eq_true rfl) d_Search_put_49 (fun H49 locs hP hD2 hS => ?_)
    have hP : va_P (dC, dI) classes (G_6.set i_7 (h, .inr (8, [.ref pl, .ref nx, .int ((ν h).1), .int ((ν h).2.1), .int (((ν h).2.2.1) ||| ((1 : Int32) <<< (((ν c9).2.2.2.2.2.2.2.2.2.2.2.2) &&& 31)))]))) H49 := hP
    have hD3 : va_D A (G_6.set i_7 (h, .inr (8, [.ref pl, .ref nx, .int ((ν h).1), .int ((ν h).2.1), .int (((ν h).2.2.1) ||| ((1 : Int32) <<< (((ν c9).2.2.2.2.2.2.2.2.2.2.2.2) &&& 31)))]))) := hD2
    obtain ⟨ν49_9, hν49_9, eν49_9⟩ : ∃ z : Nat → cN, (∀ b, b ≠ h → z b = ν b) ∧ z h = mkS (ν h) ((ν h).1) ((ν h).2.1) (((ν h).2.2.1) ||| ((1 : Int32) <<< (((ν c9).2.2.2.2.2.2.2.2.2.2.2.2) &&& 31))) := ⟨nuR0 ν h (mkS (ν h) ((ν h).1) ((ν h).2.1) (((ν h).2.2.1) ||| ((1 : Int32) <<< (((ν c9).2.2.2.2.2.2.2.2.2.2.2.2) &&& 31)))), fun b hb => if_neg hb, if_pos rfl⟩
    have hF1 := FR.set (c' := .inr (8, [.ref pl, .ref nx, .int ((ν h).1), .int ((ν h).2.1), .int (((ν h).2.2.1) ||| ((1 : Int32) <<< (((ν c9).2.2.2.2.2.2.2.2.2.2.2.2) &&& 31)))])) hg_7 kh.1
    have kpl := kpl.fr hF1
    have hFR := hFR.tr hF1.s
    clear hF1
    have hTy := q_setnu (ν' := ν49_9) (c' := .inr (8, [.ref pl, .ref nx, .int ((ν h).1), .int ((ν h).2.1), .int (((ν h).2.2.1) ||| ((1 : Int32) <<< (((ν c9).2.2.2.2.2.2.2.2.2.2.2.2) &&& 31)))])) hTy hD hg_7 hν49_9 (ok_13 kh knx_7 enk_7 (by rw [eν49_9]; rfl) (by rw [eν49_9]; rfl) (by rw [eν49_9]; rfl))
    have hD := hD3
    have hNν49_9 : ∀ b, b ≠ h → ν49_9 b = ν b := fun b hb => hν49_9 b hb
    clear hD3 hD2
    generalize G_6.set i_7 (h, .inr (8, [.ref pl, .ref nx, .int ((ν h).1), .int ((ν h).2.1), .int (((ν h).2.2.1) ||| ((1 : Int32) <<< (((ν c9).2.2.2.2.2.2.2.2.2.2.2.2) &&& 31)))])) = G_9 at hP hD hTy hFR kpl 
    refine lv_aload_n hx hb d_Search_put_52 rfl (lv_at hl 0 rfl) ?_
    refine lv_dup hx hb d_Search_put_53 rfl ?_
    obtain ⟨i_10, nx_10, ⟨knx_10, enx_10⟩, hg_10⟩ := ty_13 hTy kh
    have enk_10 : nx = (ω27_4 h).getD 0 0 := by rw [hWω27_4 _ hhn9]; exact hnx
    obtain rfl : nx = nx_10 := enk_10.trans enx_10.symm
    rw [eν49_9] at hg_10
    have hg_10 : G_9[i_10]? = some (h, .inr (8, [.ref pl, .ref nx, .int ((ν h).1), .int ((ν h).2.1), .int (((ν h).2.2.1) ||| ((1 : Int32) <<< (((ν c9).2.2.2.2.2.2.2.2.2.2.2.2) &&& 31)))])) := hg_10
    refine va_get (v := .int ((ν h).2.1)) hx hb htb i_Search hown hK hP i_10 hg_10 rfl 3 (by decide) (htb _ q1_123) (fun _ h9 => h9) rfl d_Search_put_54 ?_
    refine lv_iconst (v := 1) hx hb d_Search_put_57 (by decide) ?_
    refine lv_iadd hx hb d_Search_put_58 ?_
    refine va_put (v := .int (((ν h).2.1) + 1)) (ty := .int) hx hb htb i_Search t_Search t_Search_ok n_Search hown hK hP hD hS i_10 hg_10 rfl 3 (by decide) (htb _ q1_123) (fun _ h9 => h9) rfl (by decide +kernel) rfl rfl (Nat.le_of_ble_eq_true rfl) d_Search_put_59 (fun H59 locs hP hD2 hS => ?_)
    have hP : va_P (dC, dI) classes (G_9.set i_10 (h, .inr (8, [.ref pl, .ref nx, .int ((ν h).1), .int (((ν h).2.1) + 1), .int (((ν h).2.2.1) ||| ((1 : Int32) <<< (((ν c9).2.2.2.2.2.2.2.2.2.2.2.2) &&& 31)))]))) H59 := hP
    have hD3 : va_D A (G_9.set i_10 (h, .inr (8, [.ref pl, .ref nx, .int ((ν h).1), .int (((ν h).2.1) + 1), .int (((ν h).2.2.1) ||| ((1 : Int32) <<< (((ν c9).2.2.2.2.2.2.2.2.2.2.2.2) &&& 31)))]))) := hD2
    obtain ⟨ν59_11, hν59_11, eν59_11⟩ : ∃ z : Nat → cN, (∀ b, b ≠ h → z b = ν49_9 b) ∧ z h = mkS (ν h) ((ν h).1) (((ν h).2.1) + 1) (((ν h).2.2.1) ||| ((1 : Int32) <<< (((ν c9).2.2.2.2.2.2.2.2.2.2.2.2) &&& 31))) := ⟨nuR0 ν49_9 h (mkS (ν h) ((ν h).1) (((ν h).2.1) + 1) (((ν h).2.2.1) ||| ((1 : Int32) <<< (((ν c9).2.2.2.2.2.2.2.2.2.2.2.2) &&& 31)))), fun b hb => if_neg hb, if_pos rfl⟩
    have hF1 := FR.set (c' := .inr (8, [.ref pl, .ref nx, .int ((ν h).1), .int (((ν h).2.1) + 1), .int (((ν h).2.2.1) ||| ((1 : Int32) <<< (((ν c9).2.2.2.2.2.2.2.2.2.2.2.2) &&& 31)))])) hg_10 kh.1
    have kpl := kpl.fr hF1
    have hFR := hFR.tr hF1.s
    clear hF1
    have hTy := q_setnu (ν' := ν59_11) (c' := .inr (8, [.ref pl, .ref nx, .int ((ν h).1), .int (((ν h).2.1) + 1), .int (((ν h).2.2.1) ||| ((1 : Int32) <<< (((ν c9).2.2.2.2.2.2.2.2.2.2.2.2) &&& 31)))])) hTy hD hg_10 hν59_11 (ok_13 kh knx_10 enk_10 (by rw [eν59_11]; rfl) (by rw [eν59_11]; rfl) (by rw [eν59_11]; rfl))
    have hD := hD3
    have hNν59_11 : ∀ b, b ≠ h → ν59_11 b = ν b := fun b hb => (hν59_11 b hb).trans (hNν49_9 b hb)
    clear hD3 hD2
    generalize G_9.set i_10 (h, .inr (8, [.ref pl, .ref nx, .int ((ν h).1), .int (((ν h).2.1) + 1), .int (((ν h).2.2.1) ||| ((1 : Int32) <<< (((ν c9).2.2.2.2.2.2.2.2.2.2.2.2) &&& 31)))])) = G_11 at hP hD hTy hFR kpl 
    have hpc9 : pC o as.length = aC o as.length := if_pos (by omega)
    have hps9 : pS o as.length = alS o as.length := if_pos (by omega)
    refine W.widen (k := (pC o as.length)) (n := (pS o as.length)) (by omega) (by omega) ?_
    exact W.vret hx hb hr (fun t ht hW => ⟨⟨(G_11, o33, as33), rfl, ⟨ν59_11, ω27_4, hNν59_11, eν59_11, hWω27_4, eω27_4, hTy, kpl, hFR, by show alK o33 = alM o as.length; unfold alM; rw [if_pos (by omega)]; exact hk33, ea33⟩, ⟨by rw [ht]; exact hP, va_K.moved hW.alike hK, hD⟩⟩, hS.F ht⟩) hS.2.2 d_Search_put_62
def y_Search_takeOff : MethodName := ⟨"TrustChain$Search", "takeOff", "()V"⟩
abbrev b_Search_takeOff : ByteArray := prog_10_method_5_code
def w_Search_takeOff : List Cond := Cond.code y_Search_takeOff b_Search_takeOff 1 (none) :: tb
theorem d_Search_takeOff_0 : decode b_Search_takeOff 0 = .ok (.aload_n 0, 1) := by decide +kernel
theorem d_Search_takeOff_1 : decode b_Search_takeOff 1 = .ok (.getfield 12, 3) := by decide +kernel
theorem d_Search_takeOff_4 : decode b_Search_takeOff 4 = .ok (.invokevirtual 55, 3) := by decide +kernel
theorem d_Search_takeOff_7 : decode b_Search_takeOff 7 = .ok (.ifCond .ne 38, 3) := by decide +kernel
theorem d_Search_takeOff_10 : decode b_Search_takeOff 10 = .ok (.aload_n 0, 1) := by decide +kernel
theorem d_Search_takeOff_11 : decode b_Search_takeOff 11 = .ok (.dup, 1) := by decide +kernel
theorem d_Search_takeOff_12 : decode b_Search_takeOff 12 = .ok (.getfield 29, 3) := by decide +kernel
theorem d_Search_takeOff_15 : decode b_Search_takeOff 15 = .ok (.iconst 1, 1) := by decide +kernel
theorem d_Search_takeOff_16 : decode b_Search_takeOff 16 = .ok (.aload_n 0, 1) := by decide +kernel
theorem d_Search_takeOff_17 : decode b_Search_takeOff 17 = .ok (.getfield 12, 3) := by decide +kernel
theorem d_Search_takeOff_20 : decode b_Search_takeOff 20 = .ok (.aload_n 0, 1) := by decide +kernel
theorem d_Search_takeOff_21 : decode b_Search_takeOff 21 = .ok (.getfield 12, 3) := by decide +kernel
theorem d_Search_takeOff_24 : decode b_Search_takeOff 24 = .ok (.invokevirtual 59, 3) := by decide +kernel
theorem d_Search_takeOff_27 : decode b_Search_takeOff 27 = .ok (.iconst 1, 1) := by decide +kernel
theorem d_Search_takeOff_28 : decode b_Search_takeOff 28 = .ok (.isub, 1) := by decide +kernel
theorem d_Search_takeOff_29 : decode b_Search_takeOff 29 = .ok (.invokevirtual 81, 3) := by decide +kernel
theorem d_Search_takeOff_32 : decode b_Search_takeOff 32 = .ok (.checkcast 46, 3) := by decide +kernel
theorem d_Search_takeOff_35 : decode b_Search_takeOff 35 = .ok (.getfield 78, 3) := by decide +kernel
theorem d_Search_takeOff_38 : decode b_Search_takeOff 38 = .ok (.ishl, 1) := by decide +kernel
theorem d_Search_takeOff_39 : decode b_Search_takeOff 39 = .ok (.iconst (-1), 1) := by decide +kernel
theorem d_Search_takeOff_40 : decode b_Search_takeOff 40 = .ok (.ixor, 1) := by decide +kernel
theorem d_Search_takeOff_41 : decode b_Search_takeOff 41 = .ok (.iand, 1) := by decide +kernel
theorem d_Search_takeOff_42 : decode b_Search_takeOff 42 = .ok (.putfield 29, 3) := by decide +kernel
theorem d_Search_takeOff_45 : decode b_Search_takeOff 45 = .ok (.return_, 1) := by decide +kernel
set_option maxHeartbeats 4000000 in
set_option maxRecDepth 100000 in
theorem m_Search_takeOff (l : Launch) (dC : Nat → ClassId) (dI : Nat → Nat → Nat) (sb : sB) (γ : cG) (κ : kE) (Ad : List Nat) (ν : Nat → cN) (ω : Nat → List Nat) (L : Nat) (G : va_W) (h pl : Nat) (nx : Nat)  (o : alD) (as : List Nat) (sz : Nat) (hTy : TY γ κ Ad ν ω L G) (kh : tK κ Ad h (13, pl, 0)) (kpl : PLx γ sb κ Ad 8 pl o as G) (hnx : nx = (ω h).getD 0 0) (hNL : ∀ a, (κ a).1 = 6 → ∀ b, b ∈ Ad → (κ b).1 = 14 ∨ (κ b).1 = 16 → (κ b).2.2 ≠ a) (h1 : 1 ≤ as.length) : Met l y_Search_takeOff w_Search_takeOff ({ frames := 4, cells := 0, slots := 0, locals := 110 }) (mu_P [.ref h] (dC, dI) sb G [(γ.1, .byte), (γ.2.1, .int), (γ.2.2.1, .long), (γ.2.2.2, .object "java/lang/Object")] sz) (va_Qv (fun (u' : va_W × alD × List Nat) => ∃ (ν' : Nat → cN) (ω' : Nat → List Nat), (∀ b, b ≠ h → ν' b = ν b) ∧ (ν' h = mkS (ν h) (ν h).1 (ν h).2.1 ((ν h).2.2.1 &&& ((1 <<< ((ν (as.getD (as.length - 1) 0)).2.2.2.2.2.2.2.2.2.2.2.2 &&& 31)) ^^^ -1))) ∧ (∀ b, b ≠ nx → ω' b = ω b) ∧ (ω' nx = ω nx) ∧ TY γ κ Ad ν' ω' L u'.1 ∧ PLx γ sb κ Ad 8 pl u'.2.1 u'.2.2 u'.1 ∧ FRs γ Ad pl G u'.1 ∧ (alK u'.2.1 = alK o ∧ u'.2.2 = as.dropLast)) (mu_B (dC, dI) [(γ.1, .byte), (γ.2.1, .int), (γ.2.2.1, .long), (γ.2.2.2, .object "java/lang/Object")] (va_A G sz) (fun u' : va_W × alD × List Nat => u'.1)) (va_A G sz)) 0 0 (va_A G sz) := by
  refine Met.ofW (cc := b_Search_takeOff) (maxL := 1) (ret := none) (by decide) rfl ?_
  intro p e s m args below meth c s₁ B hml hv
  obtain ⟨rfl, hsz, hB0, hP, hK, hD0, hN, hT0⟩ := hv
  have hx := B.exec
  have hb := B.bytes
  have hr := B.returns
  have hts := atoms_spec (ws := w_Search_takeOff) B.pre
  have tbin : ∀ w ∈ tb, w ∈ w_Search_takeOff := fun w h => List.mem_cons_of_mem _ h
  have htb : ∀ w ∈ tb, w.before _ s = true := fun w h => hts w (tbin w h)
  have hown : s.vm.findClass "TrustChain$Search" = some m.cls := findClass_of_methodNamed B.named
  have hlocks := B.notSynchronized
  subst hsz
  have hD := hD0.self (sz := s.heap.size)
  generalize hAe : va_A G s.heap.size = A at hD ⊢
  have hA : ∀ q : Nat, s.heap.size ≤ q → A q := fun q h => by rw [← hAe]; exact Or.inr h
  have hAs : ∀ q : Nat, A q → sb.1 ≤ q := fun q h => by
    rw [← hAe] at h
    rcases h with ⟨k, e, h⟩ | h
    · exact hD0.2 k _ h
    · exact Nat.le_trans hB0 h
  have hS : va_S A s.heap s.heap [] := va_S.rf
  have hFR := FRs.rf γ Ad pl G
  have hcs : 0 ≤ (headSpec w_Search_takeOff ({ frames := 4, cells := 0, slots := 0, locals := 110 })).room.cells ∧ 0 ≤ (headSpec w_Search_takeOff ({ frames := 4, cells := 0, slots := 0, locals := 110 })).room.slots := ⟨Nat.le_refl _, Nat.le_refl _⟩
  have hP : va_P (dC, dI) classes G s.heap := hP
  have hl := lv_entry ([.ref h]) (n := 1) (Nat.le_of_ble_eq_true rfl)
  rw [lg_entry_eq]
  generalize (lg_sl ([.ref h]) ++ List.replicate (1 - (lg_sl ([.ref h])).length) Slot.unset).toArray = ls at hl ⊢
  have hl : lv_has ls 1 [(0, .ref h)] := hl
  have hTy0 := hTy
  have hhn9 : h ≠ nx := sx_ne hTy kh hnx
  refine lv_aload_n hx hb d_Search_takeOff_0 rfl (lv_at hl 0 rfl) ?_
  obtain ⟨i_1, nx_1, ⟨knx_1, enx_1⟩, hg_1⟩ := ty_13 hTy kh
  have enk_1 : nx = (ω h).getD 0 0 := hnx
  obtain rfl : nx = nx_1 := enk_1.trans enx_1.symm
  have hg_1 : G[i_1]? = some (h, .inr (8, [.ref pl, .ref nx, .int ((ν h).1), .int ((ν h).2.1), .int ((ν h).2.2.1)])) := hg_1
  refine va_get (v := .ref pl) hx hb htb i_Search hown hK hP i_1 hg_1 rfl 0 (by decide) (htb _ q1_119) (fun _ h9 => h9) rfl d_Search_takeOff_1 ?_
  obtain ⟨i_2, m_2, hK_2, hg_2⟩ := pl_size kpl
  refine vp_callSi (pu_callV (As := []) (rest := []) ⟨hx, hb, hml, hown, hts⟩ tbin (c_AL_isEmpty l dC dI sb pl (alO sb o) as.length m_2 (by omega)) q6_19 q6_20 q6_21 q1_4 q6_22 (n := 0) (by decide +kernel) rfl ⟨rfl, rfl⟩ ⟨Nat.le_of_ble_eq_true rfl, Nat.le_of_ble_eq_true rfl⟩ ⟨Nat.le_of_ble_eq_true rfl, Nat.le_of_ble_eq_true rfl⟩ hN (hT0.keep hS hAs) hK hP [i_2] (by simp only [List.filterMap_cons, List.filterMap_nil, hg_2]) [] rfl i_2 11 hg_2 rfl rfl hl.1 rfl (Nat.le_of_ble_eq_true rfl) d_Search_takeOff_4) (fun r4 hr4 => ?_)
  obtain rfl := Eq.symm (bz_zP hr4)
  refine lv_if_ne (tgt := 45) hx hb d_Search_takeOff_7 (by decide) (fun c7 => ?_) (fun c7 => ?_)
  · have p7 : as.length = 0 := (zP_1 c7)
    refine W.widen (k := 0) (n := 0) (by omega) (by omega) ?_
    exact W.vret hx hb hr (fun t ht hW => ⟨⟨(G, o, as), rfl, ⟨ν, ω, (fun _ _ => rfl), False.elim (by omega), (fun _ _ => rfl), rfl, hTy, kpl, hFR, False.elim (by omega)⟩, ⟨by rw [ht]; exact hP, va_K.moved hW.alike hK, hD⟩⟩, hS.F ht⟩) hS.2.2 d_Search_takeOff_45
  · have p7 : ¬ (as.length = 0) := (zP_0.mp c7)
    refine lv_aload_n hx hb d_Search_takeOff_10 rfl (lv_at hl 0 rfl) ?_
    refine lv_dup hx hb d_Search_takeOff_11 rfl ?_
    refine va_get (v := .int ((ν h).2.2.1)) hx hb htb i_Search hown hK hP i_1 hg_1 rfl 4 (by decide) (htb _ q1_124) (fun _ h9 => h9) rfl d_Search_takeOff_12 ?_
    refine lv_iconst (v := 1) hx hb d_Search_takeOff_15 (by decide) ?_
    refine lv_aload_n hx hb d_Search_takeOff_16 rfl (lv_at hl 0 rfl) ?_
    refine va_get (v := .ref pl) hx hb htb i_Search hown hK hP i_1 hg_1 rfl 0 (by decide) (htb _ q1_119) (fun _ h9 => h9) rfl d_Search_takeOff_17 ?_
    refine lv_aload_n hx hb d_Search_takeOff_20 rfl (lv_at hl 0 rfl) ?_
    refine va_get (v := .ref pl) hx hb htb i_Search hown hK hP i_1 hg_1 rfl 0 (by decide) (htb _ q1_119) (fun _ h9 => h9) rfl d_Search_takeOff_21 ?_
    refine vp_callSi (pu_callV (As := []) (rest := [.ref pl, .int 1, .int ((ν h).2.2.1), .ref h]) ⟨hx, hb, hml, hown, hts⟩ tbin (c_AL_size l dC dI sb pl (alO sb o) as.length m_2) q6_13 q2_54 q2_55 q1_4 q2_56 (n := 0) (by decide +kernel) rfl ⟨rfl, rfl⟩ ⟨Nat.le_of_ble_eq_true rfl, Nat.le_of_ble_eq_true rfl⟩ ⟨Nat.le_of_ble_eq_true rfl, Nat.le_of_ble_eq_true rfl⟩ hN (hT0.keep hS hAs) hK hP [i_2] (by simp only [List.filterMap_cons, List.filterMap_nil, hg_2]) [] rfl i_2 11 hg_2 rfl rfl hl.1 rfl (Nat.le_of_ble_eq_true rfl) d_Search_takeOff_24) (fun r24 hr24 => ?_)
    subst hr24
    refine lv_iconst (v := 1) hx hb d_Search_takeOff_27 (by decide) ?_
    refine lv_isub hx hb d_Search_takeOff_28 ?_
    rw [show ((nI as.length) - 1 : Int32) = nI (as.length - 1) from pk_sub (a := as.length) (b := 1) (by omega)]
    obtain ⟨m29, R29, hp29⟩ := pl_split kpl
    have hP := hP.perm hp29
    have hD := hD.perm hp29
    obtain ⟨q29, eq29⟩ : ∃ z, z = as.getD (as.length - 1) 0 := ⟨_, rfl⟩
    have e1_29 : as.length = as.length - 1 + 1 := by omega
    obtain ⟨p29_1, p29_2, kq29⟩ := pl_kin kpl (as.length - 1) (by omega)
    rw [← eq29] at kq29
    have hal29 : alI o (as.length - 1 + 1) := by rw [← e1_29]; exact kpl.2.2.2.1
    have hP9 := hP
    have hD9 := hD
    rw [e1_29] at hP9 hD9
    refine al_remX (own := "TrustChain$Search") pl (as.length - 1) q29 m29 γ.2.2.2 o ⟨hx, hb, hml, hown, hts⟩ tbin q6_33 hN (hT0.keep hS hAs) hAs (Nat.le_trans hB0 hS.1) hA hK 3 rfl hP9 hD9 hS hal29 (by rw [kpl.2.2.2.2.2.1 _ (by omega), eq29]) (Nat.le_of_ble_eq_true rfl) (Nat.le_of_ble_eq_true rfl) (by omega) (by omega) hl.1 (Nat.le_of_ble_eq_true rfl) d_Search_takeOff_29 (fun o29 n29 H29 locs hi29 hk29 hf29 hP hD hS => ?_)
    obtain ⟨hTy, kpl, hF9⟩ := pl_new (as' := as.dropLast) (z' := (as.length - 1)) hTy kpl hp29 List.length_dropLast.symm hD hi29 (by have := kpl.2.2.2.2.1; omega) (fun i h => by rw [hf29 i h, kpl.2.2.2.2.2.1 i (by omega), gD_drop h]) (fun i h => by rw [gD_drop h]; exact pl_kin kpl i (by omega))
    have hFR := hFR.tr hF9
    clear hF9
    have hD : va_D A ((pl, .inr (11, [.ref (alO sb o29), .int (nI (as.length - 1)), .int n29])) :: (alC γ.2.2.2 o29 ++ R29)) := hD
    have hP : va_P (dC, dI) classes ((pl, .inr (11, [.ref (alO sb o29), .int (nI (as.length - 1)), .int n29])) :: (alC γ.2.2.2 o29 ++ R29)) H29 := hP
    generalize ((pl, .inr (11, [.ref (alO sb o29), .int (nI (as.length - 1)), .int n29])) :: (alC γ.2.2.2 o29 ++ R29) : va_W) = G_3 at hP hD hTy hFR kpl
    obtain ⟨as29, ea29⟩ : ∃ z, z = as.dropLast := ⟨_, rfl⟩
    rw [← ea29] at kpl
    have hla29 : as29.length = (as.length - 1) := by rw [ea29]; exact List.length_dropLast
    obtain ⟨i_4, bo_4, K_4, B_4, kbo_4, wl_4, hg_4⟩ := ty_8x hTy kq29
    obtain ⟨⟨A_4, knm_4⟩, kpe_4, kec_4, kse_4, ksu_4, kmo_4, kok_4, kik_4, kha_4, ksi_4, ken_4, ksg_4, kis_4⟩ := K_4
    have knm_4 := tK.fiv ⟨_, _, knm_4⟩
    have kpe_4 := tK.fiv kpe_4
    have kec_4 := tK.fiv kec_4
    have ksu_4 := tK.two ksu_4
    have kmo_4 := tK.two kmo_4
    have kok_4 := tK.two kok_4
    have kik_4 := tK.two kik_4
    have ksg_4 := tK.two ksg_4
    have kis_4 := tK.two kis_4
    refine va_castY (C := "TrustChain$Certificate") hx hb hown (htb _ q6_28) (hN.1 _ qn9_223) (va_recv (ci := 3) hK hP rfl hg_4) d_Search_takeOff_32 ?_
    refine va_get (v := .int ((ν q29).2.2.2.2.2.2.2.2.2.2.2.2)) hx hb htb i_Certificate hown hK hP i_4 hg_4 rfl 17 (by decide) (htb _ q2_188) (fun _ h9 => h9) rfl d_Search_takeOff_35 ?_
    refine lv_ishl hx hb d_Search_takeOff_38 ?_
    refine lv_iconst (v := -1) hx hb d_Search_takeOff_39 (by decide) ?_
    refine lv_ixor hx hb d_Search_takeOff_40 ?_
    refine lv_iand hx hb d_Search_takeOff_41 ?_
    obtain ⟨i_5, nx_5, ⟨knx_5, enx_5⟩, hg_5⟩ := ty_13 hTy kh
    have enk_5 : nx = (ω h).getD 0 0 := hnx
    obtain rfl : nx = nx_5 := enk_5.trans enx_5.symm
    have hg_5 : G_3[i_5]? = some (h, .inr (8, [.ref pl, .ref nx, .int ((ν h).1), .int ((ν h).2.1), .int ((ν h).2.2.1)])) := hg_5
    refine va_put (v := .int (((ν h).2.2.1) &&& (((1 : Int32) <<< (((ν q29).2.2.2.2.2.2.2.2.2.2.2.2) &&& 31)) ^^^ (-1)))) (ty := .int) hx hb htb i_Search t_Search t_Search_ok n_Search hown hK hP hD hS i_5 hg_5 rfl 4 (by decide) (htb _ q1_124) (fun _ h9 => h9) rfl (by decide +kernel) rfl rfl (Nat.le_of_ble_eq_true rfl) d_Search_takeOff_42 (fun H42 locs hP hD2 hS => ?_)
    have hP : va_P (dC, dI) classes (G_3.set i_5 (h, .inr (8, [.ref pl, .ref nx, .int ((ν h).1), .int ((ν h).2.1), .int (((ν h).2.2.1) &&& (((1 : Int32) <<< (((ν q29).2.2.2.2.2.2.2.2.2.2.2.2) &&& 31)) ^^^ (-1)))]))) H42 := hP
    have hD3 : va_D A (G_3.set i_5 (h, .inr (8, [.ref pl, .ref nx, .int ((ν h).1), .int ((ν h).2.1), .int (((ν h).2.2.1) &&& (((1 : Int32) <<< (((ν q29).2.2.2.2.2.2.2.2.2.2.2.2) &&& 31)) ^^^ (-1)))]))) := hD2
    obtain ⟨ν42_6, hν42_6, eν42_6⟩ : ∃ z : Nat → cN, (∀ b, b ≠ h → z b = ν b) ∧ z h = mkS (ν h) ((ν h).1) ((ν h).2.1) (((ν h).2.2.1) &&& (((1 : Int32) <<< (((ν q29).2.2.2.2.2.2.2.2.2.2.2.2) &&& 31)) ^^^ (-1))) := ⟨nuR0 ν h (mkS (ν h) ((ν h).1) ((ν h).2.1) (((ν h).2.2.1) &&& (((1 : Int32) <<< (((ν q29).2.2.2.2.2.2.2.2.2.2.2.2) &&& 31)) ^^^ (-1)))), fun b hb => if_neg hb, if_pos rfl⟩
    have hF1 := FR.set (c' := .inr (8, [.ref pl, .ref nx, .int ((ν h).1), .int ((ν h).2.1), .int (((ν h).2.2.1) &&& (((1 : Int32) <<< (((ν q29).2.2.2.2.2.2.2.2.2.2.2.2) &&& 31)) ^^^ (-1)))])) hg_5 kh.1
    have kpl := kpl.fr hF1
    have hFR := hFR.tr hF1.s
    clear hF1
    have hTy := q_setnu (ν' := ν42_6) (c' := .inr (8, [.ref pl, .ref nx, .int ((ν h).1), .int ((ν h).2.1), .int (((ν h).2.2.1) &&& (((1 : Int32) <<< (((ν q29).2.2.2.2.2.2.2.2.2.2.2.2) &&& 31)) ^^^ (-1)))])) hTy hD hg_5 hν42_6 (ok_13 kh knx_5 enk_5 (by rw [eν42_6]; rfl) (by rw [eν42_6]; rfl) (by rw [eν42_6]; rfl))
    have hD := hD3
    have hNν42_6 : ∀ b, b ≠ h → ν42_6 b = ν b := fun b hb => hν42_6 b hb
    clear hD3 hD2
    generalize G_3.set i_5 (h, .inr (8, [.ref pl, .ref nx, .int ((ν h).1), .int ((ν h).2.1), .int (((ν h).2.2.1) &&& (((1 : Int32) <<< (((ν q29).2.2.2.2.2.2.2.2.2.2.2.2) &&& 31)) ^^^ (-1)))])) = G_6 at hP hD hTy hFR kpl 
    refine W.widen (k := 0) (n := 0) (by omega) (by omega) ?_
    exact W.vret hx hb hr (fun t ht hW => ⟨⟨(G_6, o29, as29), rfl, ⟨ν42_6, ω, hNν42_6, (by rw [← eq29]; exact eν42_6), (fun _ _ => rfl), rfl, hTy, kpl, hFR, hk29, ea29⟩, ⟨by rw [ht]; exact hP, va_K.moved hW.alike hK, hD⟩⟩, hS.F ht⟩) hS.2.2 d_Search_takeOff_45
def y_Search_nextCandidate : MethodName := ⟨"TrustChain$Search", "nextCandidate", "(I)I"⟩
abbrev b_Search_nextCandidate : ByteArray := prog_10_method_6_code
def w_Search_nextCandidate : List Cond := Cond.code y_Search_nextCandidate b_Search_nextCandidate 5 ((some FieldType.int)) :: tb
theorem d_Search_nextCandidate_0 : decode b_Search_nextCandidate 0 = .ok (.aload_n 0, 1) := by decide +kernel
theorem d_Search_nextCandidate_1 : decode b_Search_nextCandidate 1 = .ok (.getfield 12, 3) := by decide +kernel
theorem d_Search_nextCandidate_4 : decode b_Search_nextCandidate 4 = .ok (.invokevirtual 59, 3) := by decide +kernel
theorem d_Search_nextCandidate_7 : decode b_Search_nextCandidate 7 = .ok (.iconst 1, 1) := by decide +kernel
theorem d_Search_nextCandidate_8 : decode b_Search_nextCandidate 8 = .ok (.isub, 1) := by decide +kernel
theorem d_Search_nextCandidate_9 : decode b_Search_nextCandidate 9 = .ok (.istore_n 2, 1) := by decide +kernel
theorem d_Search_nextCandidate_10 : decode b_Search_nextCandidate 10 = .ok (.iload_n 2, 1) := by decide +kernel
theorem d_Search_nextCandidate_11 : decode b_Search_nextCandidate 11 = .ok (.ifCond .lt 53, 3) := by decide +kernel
theorem d_Search_nextCandidate_14 : decode b_Search_nextCandidate 14 = .ok (.iload_n 2, 1) := by decide +kernel
theorem d_Search_nextCandidate_15 : decode b_Search_nextCandidate 15 = .ok (.aload_n 0, 1) := by decide +kernel
theorem d_Search_nextCandidate_16 : decode b_Search_nextCandidate 16 = .ok (.getfield 18, 3) := by decide +kernel
theorem d_Search_nextCandidate_19 : decode b_Search_nextCandidate 19 = .ok (.arraylength, 1) := by decide +kernel
theorem d_Search_nextCandidate_20 : decode b_Search_nextCandidate 20 = .ok (.if_icmp .ge 44, 3) := by decide +kernel
theorem d_Search_nextCandidate_23 : decode b_Search_nextCandidate 23 = .ok (.aload_n 0, 1) := by decide +kernel
theorem d_Search_nextCandidate_24 : decode b_Search_nextCandidate 24 = .ok (.getfield 26, 3) := by decide +kernel
theorem d_Search_nextCandidate_27 : decode b_Search_nextCandidate 27 = .ok (.sipush 1000, 3) := by decide +kernel
theorem d_Search_nextCandidate_30 : decode b_Search_nextCandidate 30 = .ok (.if_icmp .ge 34, 3) := by decide +kernel
theorem d_Search_nextCandidate_33 : decode b_Search_nextCandidate 33 = .ok (.aload_n 0, 1) := by decide +kernel
theorem d_Search_nextCandidate_34 : decode b_Search_nextCandidate 34 = .ok (.getfield 12, 3) := by decide +kernel
theorem d_Search_nextCandidate_37 : decode b_Search_nextCandidate 37 = .ok (.invokevirtual 59, 3) := by decide +kernel
theorem d_Search_nextCandidate_40 : decode b_Search_nextCandidate 40 = .ok (.aload_n 0, 1) := by decide +kernel
theorem d_Search_nextCandidate_41 : decode b_Search_nextCandidate 41 = .ok (.getfield 22, 3) := by decide +kernel
theorem d_Search_nextCandidate_44 : decode b_Search_nextCandidate 44 = .ok (.if_icmp .ge 20, 3) := by decide +kernel
theorem d_Search_nextCandidate_47 : decode b_Search_nextCandidate 47 = .ok (.aload_n 0, 1) := by decide +kernel
theorem d_Search_nextCandidate_48 : decode b_Search_nextCandidate 48 = .ok (.getfield 12, 3) := by decide +kernel
theorem d_Search_nextCandidate_51 : decode b_Search_nextCandidate 51 = .ok (.iload_n 2, 1) := by decide +kernel
theorem d_Search_nextCandidate_52 : decode b_Search_nextCandidate 52 = .ok (.invokevirtual 70, 3) := by decide +kernel
theorem d_Search_nextCandidate_55 : decode b_Search_nextCandidate 55 = .ok (.checkcast 46, 3) := by decide +kernel
theorem d_Search_nextCandidate_58 : decode b_Search_nextCandidate 58 = .ok (.getfield 45, 3) := by decide +kernel
theorem d_Search_nextCandidate_61 : decode b_Search_nextCandidate 61 = .ok (.ifCond .eq 5, 3) := by decide +kernel
theorem d_Search_nextCandidate_64 : decode b_Search_nextCandidate 64 = .ok (.iconst (-1), 1) := by decide +kernel
theorem d_Search_nextCandidate_65 : decode b_Search_nextCandidate 65 = .ok (.ireturn, 1) := by decide +kernel
theorem d_Search_nextCandidate_66 : decode b_Search_nextCandidate 66 = .ok (.aload_n 0, 1) := by decide +kernel
theorem d_Search_nextCandidate_67 : decode b_Search_nextCandidate 67 = .ok (.getfield 12, 3) := by decide +kernel
theorem d_Search_nextCandidate_70 : decode b_Search_nextCandidate 70 = .ok (.iload_n 2, 1) := by decide +kernel
theorem d_Search_nextCandidate_71 : decode b_Search_nextCandidate 71 = .ok (.invokevirtual 70, 3) := by decide +kernel
theorem d_Search_nextCandidate_74 : decode b_Search_nextCandidate 74 = .ok (.checkcast 46, 3) := by decide +kernel
theorem d_Search_nextCandidate_77 : decode b_Search_nextCandidate 77 = .ok (.getfield 84, 3) := by decide +kernel
theorem d_Search_nextCandidate_80 : decode b_Search_nextCandidate 80 = .ok (.aload_n 0, 1) := by decide +kernel
theorem d_Search_nextCandidate_81 : decode b_Search_nextCandidate 81 = .ok (.getfield 29, 3) := by decide +kernel
theorem d_Search_nextCandidate_84 : decode b_Search_nextCandidate 84 = .ok (.iconst (-1), 1) := by decide +kernel
theorem d_Search_nextCandidate_85 : decode b_Search_nextCandidate 85 = .ok (.ixor, 1) := by decide +kernel
theorem d_Search_nextCandidate_86 : decode b_Search_nextCandidate 86 = .ok (.iand, 1) := by decide +kernel
theorem d_Search_nextCandidate_87 : decode b_Search_nextCandidate 87 = .ok (.istore_n 3, 1) := by decide +kernel
theorem d_Search_nextCandidate_88 : decode b_Search_nextCandidate 88 = .ok (.aload_n 0, 1) := by decide +kernel
theorem d_Search_nextCandidate_89 : decode b_Search_nextCandidate 89 = .ok (.getfield 18, 3) := by decide +kernel
theorem d_Search_nextCandidate_92 : decode b_Search_nextCandidate 92 = .ok (.iload_n 2, 1) := by decide +kernel
theorem d_Search_nextCandidate_93 : decode b_Search_nextCandidate 93 = .ok (.iaload, 1) := by decide +kernel
theorem d_Search_nextCandidate_94 : decode b_Search_nextCandidate 94 = .ok (.istore 4, 2) := by decide +kernel
theorem d_Search_nextCandidate_96 : decode b_Search_nextCandidate 96 = .ok (.iload 4, 2) := by decide +kernel
theorem d_Search_nextCandidate_98 : decode b_Search_nextCandidate 98 = .ok (.iload_n 1, 1) := by decide +kernel
theorem d_Search_nextCandidate_99 : decode b_Search_nextCandidate 99 = .ok (.if_icmp .ge 32, 3) := by decide +kernel
theorem d_Search_nextCandidate_102 : decode b_Search_nextCandidate 102 = .ok (.iload_n 3, 1) := by decide +kernel
theorem d_Search_nextCandidate_103 : decode b_Search_nextCandidate 103 = .ok (.iload 4, 2) := by decide +kernel
theorem d_Search_nextCandidate_105 : decode b_Search_nextCandidate 105 = .ok (.ishr, 1) := by decide +kernel
theorem d_Search_nextCandidate_106 : decode b_Search_nextCandidate 106 = .ok (.iconst 1, 1) := by decide +kernel
theorem d_Search_nextCandidate_107 : decode b_Search_nextCandidate 107 = .ok (.iand, 1) := by decide +kernel
theorem d_Search_nextCandidate_108 : decode b_Search_nextCandidate 108 = .ok (.iconst 1, 1) := by decide +kernel
theorem d_Search_nextCandidate_109 : decode b_Search_nextCandidate 109 = .ok (.if_icmp .ne 16, 3) := by decide +kernel
theorem d_Search_nextCandidate_112 : decode b_Search_nextCandidate 112 = .ok (.aload_n 0, 1) := by decide +kernel
theorem d_Search_nextCandidate_113 : decode b_Search_nextCandidate 113 = .ok (.getfield 18, 3) := by decide +kernel
theorem d_Search_nextCandidate_116 : decode b_Search_nextCandidate 116 = .ok (.iload_n 2, 1) := by decide +kernel
theorem d_Search_nextCandidate_117 : decode b_Search_nextCandidate 117 = .ok (.iload 4, 2) := by decide +kernel
theorem d_Search_nextCandidate_119 : decode b_Search_nextCandidate 119 = .ok (.iconst 1, 1) := by decide +kernel
theorem d_Search_nextCandidate_120 : decode b_Search_nextCandidate 120 = .ok (.iadd, 1) := by decide +kernel
theorem d_Search_nextCandidate_121 : decode b_Search_nextCandidate 121 = .ok (.iastore, 1) := by decide +kernel
theorem d_Search_nextCandidate_122 : decode b_Search_nextCandidate 122 = .ok (.iload 4, 2) := by decide +kernel
theorem d_Search_nextCandidate_124 : decode b_Search_nextCandidate 124 = .ok (.ireturn, 1) := by decide +kernel
theorem d_Search_nextCandidate_125 : decode b_Search_nextCandidate 125 = .ok (.iinc 4 1, 3) := by decide +kernel
theorem d_Search_nextCandidate_128 : decode b_Search_nextCandidate 128 = .ok (.goto (-32), 3) := by decide +kernel
theorem d_Search_nextCandidate_131 : decode b_Search_nextCandidate 131 = .ok (.iconst (-1), 1) := by decide +kernel
theorem d_Search_nextCandidate_132 : decode b_Search_nextCandidate 132 = .ok (.ireturn, 1) := by decide +kernel
set_option maxHeartbeats 4000000 in
set_option maxRecDepth 100000 in
theorem m_Search_nextCandidate (l : Launch) (dC : Nat → ClassId) (dI : Nat → Nat → Nat) (sb : sB) (γ : cG) (κ : kE) (Ad : List Nat) (ν : Nat → cN) (ω : Nat → List Nat) (L : Nat) (G : va_W) (h pl : Nat) (nx : Nat) (n9 : Nat) (o : alD) (as : List Nat) (sz : Nat) (hTy : TY γ κ Ad ν ω L G) (kh : tK κ Ad h (13, pl, 0)) (kpl : PLx γ sb κ Ad 8 pl o as G) (hnx : nx = (ω h).getD 0 0) (hNL : ∀ a, (κ a).1 = 6 → ∀ b, b ∈ Ad → (κ b).1 = 14 ∨ (κ b).1 = 16 → (κ b).2.2 ≠ a) (h16 : as.length ≤ 16) (h1 : 1 ≤ as.length) (hn9 : n9 < 2 ^ 20) (hnx9 : ((ω nx).getD (as.length - 1) 0) ≤ n9) : Met l y_Search_nextCandidate w_Search_nextCandidate ({ frames := 3, cells := 0, slots := 0, locals := 64 }) (mu_P [.ref h, .int (nI n9)] (dC, dI) sb G [(γ.1, .byte), (γ.2.1, .int), (γ.2.2.1, .long), (γ.2.2.2, .object "java/lang/Object")] sz) (va_Qi (fun r (u' : va_W × alD × List Nat) => ∃ (ν' : Nat → cN) (ω' : Nat → List Nat), (∀ b, b ≠ h → ν' b = ν b) ∧ (ν' h = ν h) ∧ (∀ b, b ≠ nx → ω' b = ω b) ∧ (True) ∧ TY γ κ Ad ν' ω' L u'.1 ∧ PLx γ sb κ Ad 8 pl u'.2.1 u'.2.2 u'.1 ∧ FRs γ Ad pl G u'.1 ∧ (u'.2 = (o, as) ∧ ((r = -1 ∧ ω' nx = ω nx ∧ (1000 ≤ (ν h).2.1 ∨ (ν h).1 ≤ nI as.length ∨ ¬ (ν (as.getD (as.length - 1) 0)).2.2.2.2.2.2.2.2.1 = 0 ∨ ∀ k8, ((ω nx).getD (as.length - 1) 0) ≤ k8 → k8 < n9 → ¬ (((nI ((ω ((ω (as.getD (as.length - 1) 0)).getD 12 0)).getD 1 0)) &&& ((ν h).2.2.1 ^^^ -1)) >>> (nI k8 &&& 31)) &&& 1 = 1)) ∨ (∃ k8, r = nI k8 ∧ k8 < n9 ∧ ((ω nx).getD (as.length - 1) 0) ≤ k8 ∧ ((((nI ((ω ((ω (as.getD (as.length - 1) 0)).getD 12 0)).getD 1 0)) &&& ((ν h).2.2.1 ^^^ -1)) >>> (nI k8 &&& 31)) &&& 1 = 1) ∧ (∀ j8, ((ω nx).getD (as.length - 1) 0) ≤ j8 → j8 < k8 → ¬ (((nI ((ω ((ω (as.getD (as.length - 1) 0)).getD 12 0)).getD 1 0)) &&& ((ν h).2.2.1 ^^^ -1)) >>> (nI j8 &&& 31)) &&& 1 = 1) ∧ ¬ 1000 ≤ (ν h).2.1 ∧ ¬ (ν h).1 ≤ nI as.length ∧ (ν (as.getD (as.length - 1) 0)).2.2.2.2.2.2.2.2.1 = 0 ∧ ω' nx = setL (ω nx) (as.length - 1) (k8 + 1))))) (mu_B (dC, dI) [(γ.1, .byte), (γ.2.1, .int), (γ.2.2.1, .long), (γ.2.2.2, .object "java/lang/Object")] (va_A G sz) (fun u' : va_W × alD × List Nat => u'.1)) (va_A G sz)) 0 0 (va_A G sz) := by
  refine Met.ofW (cc := b_Search_nextCandidate) (maxL := 5) (ret := (some FieldType.int)) (by decide) rfl ?_
  intro p e s m args below meth c s₁ B hml hv
  obtain ⟨rfl, hsz, hB0, hP, hK, hD0, hN, hT0⟩ := hv
  have hx := B.exec
  have hb := B.bytes
  have hr := B.returns
  have hts := atoms_spec (ws := w_Search_nextCandidate) B.pre
  have tbin : ∀ w ∈ tb, w ∈ w_Search_nextCandidate := fun w h => List.mem_cons_of_mem _ h
  have htb : ∀ w ∈ tb, w.before _ s = true := fun w h => hts w (tbin w h)
  have hown : s.vm.findClass "TrustChain$Search" = some m.cls := findClass_of_methodNamed B.named
  have hlocks := B.notSynchronized
  subst hsz
  have hD := hD0.self (sz := s.heap.size)
  generalize hAe : va_A G s.heap.size = A at hD ⊢
  have hA : ∀ q : Nat, s.heap.size ≤ q → A q := fun q h => by rw [← hAe]; exact Or.inr h
  have hAs : ∀ q : Nat, A q → sb.1 ≤ q := fun q h => by
    rw [← hAe] at h
    rcases h with ⟨k, e, h⟩ | h
    · exact hD0.2 k _ h
    · exact Nat.le_trans hB0 h
  have hS : va_S A s.heap s.heap [] := va_S.rf
  have hFR := FRs.rf γ Ad pl G
  have hcs : 0 ≤ (headSpec w_Search_nextCandidate ({ frames := 3, cells := 0, slots := 0, locals := 64 })).room.cells ∧ 0 ≤ (headSpec w_Search_nextCandidate ({ frames := 3, cells := 0, slots := 0, locals := 64 })).room.slots := ⟨Nat.le_refl _, Nat.le_refl _⟩
  have hP : va_P (dC, dI) classes G s.heap := hP
  have hl := lv_entry ([.ref h, .int (nI n9)]) (n := 5) (Nat.le_of_ble_eq_true rfl)
  rw [lg_entry_eq]
  generalize (lg_sl ([.ref h, .int (nI n9)]) ++ List.replicate (5 - (lg_sl ([.ref h, .int (nI n9)])).length) Slot.unset).toArray = ls at hl ⊢
  have hl : lv_has ls 5 [(0, .ref h), (1, .int (nI n9))] := hl
  have hTy0 := hTy
  have hhn9 : h ≠ nx := sx_ne hTy kh hnx
  refine lv_aload_n hx hb d_Search_nextCandidate_0 rfl (lv_at hl 0 rfl) ?_
  obtain ⟨i_1, nx_1, ⟨knx_1, enx_1⟩, hg_1⟩ := ty_13 hTy kh
  have enk_1 : nx = (ω h).getD 0 0 := hnx
  obtain rfl : nx = nx_1 := enk_1.trans enx_1.symm
  have hg_1 : G[i_1]? = some (h, .inr (8, [.ref pl, .ref nx, .int ((ν h).1), .int ((ν h).2.1), .int ((ν h).2.2.1)])) := hg_1
  refine va_get (v := .ref pl) hx hb htb i_Search hown hK hP i_1 hg_1 rfl 0 (by decide) (htb _ q1_119) (fun _ h9 => h9) rfl d_Search_nextCandidate_1 ?_
  obtain ⟨i_2, m_2, hK_2, hg_2⟩ := pl_size kpl
  refine vp_callSi (pu_callV (As := []) (rest := []) ⟨hx, hb, hml, hown, hts⟩ tbin (c_AL_size l dC dI sb pl (alO sb o) as.length m_2) q6_13 q2_54 q2_55 q1_4 q2_56 (n := 0) (by decide +kernel) rfl ⟨rfl, rfl⟩ ⟨Nat.le_of_ble_eq_true rfl, Nat.le_of_ble_eq_true rfl⟩ ⟨Nat.le_of_ble_eq_true rfl, Nat.le_of_ble_eq_true rfl⟩ hN (hT0.keep hS hAs) hK hP [i_2] (by simp only [List.filterMap_cons, List.filterMap_nil, hg_2]) [] rfl i_2 11 hg_2 rfl rfl hl.1 rfl (Nat.le_of_ble_eq_true rfl) d_Search_nextCandidate_4) (fun r4 hr4 => ?_)
  subst hr4
  refine lv_iconst (v := 1) hx hb d_Search_nextCandidate_7 (by decide) ?_
  refine lv_isub hx hb d_Search_nextCandidate_8 ?_
  rw [show ((nI as.length) - 1 : Int32) = nI (as.length - 1) from pk_sub (a := as.length) (b := 1) (by omega)]
  refine lv_istore_n (lv' := [(2, .int (nI (as.length - 1))), (0, .ref h), (1, .int (nI n9))]) hx hb d_Search_nextCandidate_9 rfl hl (by decide) rfl (fun ls hl => ?_)
  refine lv_iload_n hx hb d_Search_nextCandidate_10 rfl (lv_at hl 0 rfl) ?_
  refine lv_if_lt (tgt := 64) hx hb d_Search_nextCandidate_11 (by decide) (fun c11 => ?_) (fun c11 => ?_)
  · have p11 : (as.length - 1) < 0 := ((nI_ltI (a := (as.length - 1)) (b := 0) (by omega) (by omega)).mp c11)
    refine lv_iconst (v := -1) hx hb d_Search_nextCandidate_64 (by decide) ?_
    refine W.widen (k := 0) (n := 0) (by omega) (by omega) ?_
    exact W.iret (v := -1) hx hb hr (fun t ht hW => ⟨⟨_, (G, o, as), rfl, ⟨ν, ω, (fun _ _ => rfl), rfl, (fun _ _ => rfl), trivial, hTy, kpl, hFR, rfl, False.elim (by omega)⟩, ⟨by rw [ht]; exact hP, va_K.moved hW.alike hK, hD⟩⟩, hS.F ht⟩) hS.2.2 d_Search_nextCandidate_65
  · have p11 : ¬ ((as.length - 1) < 0) := (fun q9 => c11 ((nI_ltI (a := (as.length - 1)) (b := 0) (by omega) (by omega)).mpr q9))
    refine lv_iload_n hx hb d_Search_nextCandidate_14 rfl (lv_at hl 0 rfl) ?_
    refine lv_aload_n hx hb d_Search_nextCandidate_15 rfl (lv_at hl 1 rfl) ?_
    refine va_get (v := .ref nx) hx hb htb i_Search hown hK hP i_1 hg_1 rfl 1 (by decide) (htb _ q1_121) (fun _ h9 => h9) rfl d_Search_nextCandidate_16 ?_
    obtain ⟨i_3, f_3, hr_3, hg_3⟩ := ty_6r hTy knx_1
    refine va_alen (v := nI 16) hx hb hK hP i_3 1 hg_3 rfl rfl d_Search_nextCandidate_19 ?_
    refine lv_icmp_ge (tgt := 64) hx hb d_Search_nextCandidate_20 (by decide) (fun c20 => ?_) (fun c20 => ?_)
    · have p20 : 16 ≤ (as.length - 1) := ((nI_leI (a := 16) (b := (as.length - 1)) (by omega) (by omega)).mp c20)
      refine lv_iconst (v := -1) hx hb d_Search_nextCandidate_64 (by decide) ?_
      refine W.widen (k := 0) (n := 0) (by omega) (by omega) ?_
      exact W.iret (v := -1) hx hb hr (fun t ht hW => ⟨⟨_, (G, o, as), rfl, ⟨ν, ω, (fun _ _ => rfl), rfl, (fun _ _ => rfl), trivial, hTy, kpl, hFR, rfl, False.elim (by omega)⟩, ⟨by rw [ht]; exact hP, va_K.moved hW.alike hK, hD⟩⟩, hS.F ht⟩) hS.2.2 d_Search_nextCandidate_65
    · have p20 : ¬ (16 ≤ (as.length - 1)) := (fun q9 => c20 ((nI_leI (a := 16) (b := (as.length - 1)) (by omega) (by omega)).mpr q9))
      refine lv_aload_n hx hb d_Search_nextCandidate_23 rfl (lv_at hl 1 rfl) ?_
      refine va_get (v := .int ((ν h).2.1)) hx hb htb i_Search hown hK hP i_1 hg_1 rfl 3 (by decide) (htb _ q1_123) (fun _ h9 => h9) rfl d_Search_nextCandidate_24 ?_
      refine lv_sipush (v := 1000) hx hb d_Search_nextCandidate_27 (by decide) ?_
      refine lv_icmp_ge (tgt := 64) hx hb d_Search_nextCandidate_30 (by decide) (fun c30 => ?_) (fun c30 => ?_)
      · have p30 : (1000 : Int32) ≤ ((ν h).2.1) := c30
        refine lv_iconst (v := -1) hx hb d_Search_nextCandidate_64 (by decide) ?_
        refine W.widen (k := 0) (n := 0) (by omega) (by omega) ?_
        exact W.iret (v := -1) hx hb hr (fun t ht hW => ⟨⟨_, (G, o, as), rfl, ⟨ν, ω, (fun _ _ => rfl), rfl, (fun _ _ => rfl), trivial, hTy, kpl, hFR, rfl, Or.inl ⟨rfl, rfl, Or.inl p30⟩⟩, ⟨by rw [ht]; exact hP, va_K.moved hW.alike hK, hD⟩⟩, hS.F ht⟩) hS.2.2 d_Search_nextCandidate_65
      · have p30 : ¬ ((1000 : Int32) ≤ ((ν h).2.1)) := c30
        refine lv_aload_n hx hb d_Search_nextCandidate_33 rfl (lv_at hl 1 rfl) ?_
        refine va_get (v := .ref pl) hx hb htb i_Search hown hK hP i_1 hg_1 rfl 0 (by decide) (htb _ q1_119) (fun _ h9 => h9) rfl d_Search_nextCandidate_34 ?_
        refine vp_callSi (pu_callV (As := []) (rest := []) ⟨hx, hb, hml, hown, hts⟩ tbin (c_AL_size l dC dI sb pl (alO sb o) as.length m_2) q6_13 q2_54 q2_55 q1_4 q2_56 (n := 0) (by decide +kernel) rfl ⟨rfl, rfl⟩ ⟨Nat.le_of_ble_eq_true rfl, Nat.le_of_ble_eq_true rfl⟩ ⟨Nat.le_of_ble_eq_true rfl, Nat.le_of_ble_eq_true rfl⟩ hN (hT0.keep hS hAs) hK hP [i_2] (by simp only [List.filterMap_cons, List.filterMap_nil, hg_2]) [] rfl i_2 11 hg_2 rfl rfl hl.1 rfl (Nat.le_of_ble_eq_true rfl) d_Search_nextCandidate_37) (fun r37 hr37 => ?_)
        subst hr37
        refine lv_aload_n hx hb d_Search_nextCandidate_40 rfl (lv_at hl 1 rfl) ?_
        refine va_get (v := .int ((ν h).1)) hx hb htb i_Search hown hK hP i_1 hg_1 rfl 2 (by decide) (htb _ q1_122) (fun _ h9 => h9) rfl d_Search_nextCandidate_41 ?_
        refine lv_icmp_ge (tgt := 64) hx hb d_Search_nextCandidate_44 (by decide) (fun c44 => ?_) (fun c44 => ?_)
        · have p44 : ((ν h).1) ≤ (nI as.length) := c44
          refine lv_iconst (v := -1) hx hb d_Search_nextCandidate_64 (by decide) ?_
          refine W.widen (k := 0) (n := 0) (by omega) (by omega) ?_
          exact W.iret (v := -1) hx hb hr (fun t ht hW => ⟨⟨_, (G, o, as), rfl, ⟨ν, ω, (fun _ _ => rfl), rfl, (fun _ _ => rfl), trivial, hTy, kpl, hFR, rfl, Or.inl ⟨rfl, rfl, Or.inr (Or.inl p44)⟩⟩, ⟨by rw [ht]; exact hP, va_K.moved hW.alike hK, hD⟩⟩, hS.F ht⟩) hS.2.2 d_Search_nextCandidate_65
        · have p44 : ¬ (((ν h).1) ≤ (nI as.length)) := c44
          refine lv_aload_n hx hb d_Search_nextCandidate_47 rfl (lv_at hl 1 rfl) ?_
          refine va_get (v := .ref pl) hx hb htb i_Search hown hK hP i_1 hg_1 rfl 0 (by decide) (htb _ q1_119) (fun _ h9 => h9) rfl d_Search_nextCandidate_48 ?_
          refine lv_iload_n hx hb d_Search_nextCandidate_51 rfl (lv_at hl 0 rfl) ?_
          obtain ⟨j_4, cap_4, f_4, p_4, q_4, hK_4, hc_4, hf_4, ks_4, h9_4, hq_4⟩ := pl_get kpl (j := (as.length - 1)) (by omega)
          refine va_csr (pu_callV (As := [.int (nI (as.length - 1))]) (rest := []) ⟨hx, hb, hml, hown, hts⟩ tbin (c_AL_get l dC dI sb pl (alO sb o) as.length cap_4 (as.length - 1) (as.getD (as.length - 1) 0) m_2 γ.2.2.2 f_4 (by omega) hK_4 (by omega) hf_4) q6_27 q4_210 q4_211 q1_4 q4_212 (n := 1) (by decide +kernel) rfl ⟨rfl, rfl⟩ ⟨Nat.le_of_ble_eq_true rfl, Nat.le_of_ble_eq_true rfl⟩ ⟨Nat.le_of_ble_eq_true rfl, Nat.le_of_ble_eq_true rfl⟩ hN (hT0.keep hS hAs) hK hP [i_2, j_4] (by simp only [List.filterMap_cons, List.filterMap_nil, hg_2, hq_4]) [3] rfl i_2 11 hg_2 rfl rfl hl.1 rfl (Nat.le_of_ble_eq_true rfl) d_Search_nextCandidate_52) (fun r52 hr52 => ?_)
          obtain rfl := Eq.symm hr52
          obtain ⟨i_5, bo_5, K_5, B_5, kbo_5, wl_5, hg_5⟩ := ty_8x hTy ks_4
          obtain ⟨⟨A_5, knm_5⟩, kpe_5, kec_5, kse_5, ksu_5, kmo_5, kok_5, kik_5, kha_5, ksi_5, ken_5, ksg_5, kis_5⟩ := K_5
          have knm_5 := tK.fiv ⟨_, _, knm_5⟩
          have kpe_5 := tK.fiv kpe_5
          have kec_5 := tK.fiv kec_5
          have ksu_5 := tK.two ksu_5
          have kmo_5 := tK.two kmo_5
          have kok_5 := tK.two kok_5
          have kik_5 := tK.two kik_5
          have ksg_5 := tK.two ksg_5
          have kis_5 := tK.two kis_5
          refine va_castY (C := "TrustChain$Certificate") hx hb hown (htb _ q6_28) (hN.1 _ qn9_223) (va_recv (ci := 3) hK hP rfl hg_5) d_Search_nextCandidate_55 ?_
          refine va_get (v := .int ((ν (as.getD (as.length - 1) 0)).2.2.2.2.2.2.2.2.1)) hx hb htb i_Certificate hown hK hP i_5 hg_5 rfl 16 (by decide) (htb _ q2_183) (fun _ h9 => h9) rfl d_Search_nextCandidate_58 ?_
          refine lv_if_eq (tgt := 66) hx hb d_Search_nextCandidate_61 (by decide) (fun c61 => ?_) (fun c61 => ?_)
          · have p61 : ((ν (as.getD (as.length - 1) 0)).2.2.2.2.2.2.2.2.1) = (0 : Int32) := c61
            refine lv_aload_n hx hb d_Search_nextCandidate_66 rfl (lv_at hl 1 rfl) ?_
            refine va_get (v := .ref pl) hx hb htb i_Search hown hK hP i_1 hg_1 rfl 0 (by decide) (htb _ q1_119) (fun _ h9 => h9) rfl d_Search_nextCandidate_67 ?_
            refine lv_iload_n hx hb d_Search_nextCandidate_70 rfl (lv_at hl 0 rfl) ?_
            obtain ⟨j_6, cap_6, f_6, p_6, q_6, hK_6, hc_6, hf_6, ks_6, h9_6, hq_6⟩ := pl_get kpl (j := (as.length - 1)) (by omega)
            refine va_csr (pu_callV (As := [.int (nI (as.length - 1))]) (rest := []) ⟨hx, hb, hml, hown, hts⟩ tbin (c_AL_get l dC dI sb pl (alO sb o) as.length cap_6 (as.length - 1) (as.getD (as.length - 1) 0) m_2 γ.2.2.2 f_6 (by omega) hK_6 (by omega) hf_6) q6_27 q4_210 q4_211 q1_4 q4_212 (n := 1) (by decide +kernel) rfl ⟨rfl, rfl⟩ ⟨Nat.le_of_ble_eq_true rfl, Nat.le_of_ble_eq_true rfl⟩ ⟨Nat.le_of_ble_eq_true rfl, Nat.le_of_ble_eq_true rfl⟩ hN (hT0.keep hS hAs) hK hP [i_2, j_6] (by simp only [List.filterMap_cons, List.filterMap_nil, hg_2, hq_6]) [3] rfl i_2 11 hg_2 rfl rfl hl.1 rfl (Nat.le_of_ble_eq_true rfl) d_Search_nextCandidate_71) (fun r71 hr71 => ?_)
            obtain rfl := Eq.symm hr71
            refine va_castY (C := "TrustChain$Certificate") hx hb hown (htb _ q6_28) (hN.1 _ qn9_223) (va_recv (ci := 3) hK hP rfl hg_5) d_Search_nextCandidate_74 ?_
            refine va_get (v := .int (nI ((ω ((ω (as.getD (as.length - 1) 0)).getD 12 0)).getD 1 0))) hx hb htb i_Certificate hown hK hP i_5 hg_5 rfl 18 (by decide) (htb _ q2_190) (fun _ h9 => h9) rfl d_Search_nextCandidate_77 ?_
            refine lv_aload_n hx hb d_Search_nextCandidate_80 rfl (lv_at hl 1 rfl) ?_
            refine va_get (v := .int ((ν h).2.2.1)) hx hb htb i_Search hown hK hP i_1 hg_1 rfl 4 (by decide) (htb _ q1_124) (fun _ h9 => h9) rfl d_Search_nextCandidate_81 ?_
            refine lv_iconst (v := -1) hx hb d_Search_nextCandidate_84 (by decide) ?_
            refine lv_ixor hx hb d_Search_nextCandidate_85 ?_
            refine lv_iand hx hb d_Search_nextCandidate_86 ?_
            refine lv_istore_n (lv' := [(3, .int ((nI ((ω ((ω (as.getD (as.length - 1) 0)).getD 12 0)).getD 1 0)) &&& (((ν h).2.2.1) ^^^ (-1)))), (2, .int (nI (as.length - 1))), (0, .ref h), (1, .int (nI n9))]) hx hb d_Search_nextCandidate_87 rfl hl (by decide) rfl (fun ls hl => ?_)
            refine lv_aload_n hx hb d_Search_nextCandidate_88 rfl (lv_at hl 2 rfl) ?_
            refine va_get (v := .ref nx) hx hb htb i_Search hown hK hP i_1 hg_1 rfl 1 (by decide) (htb _ q1_121) (fun _ h9 => h9) rfl d_Search_nextCandidate_89 ?_
            refine lv_iload_n hx hb d_Search_nextCandidate_92 rfl (lv_at hl 1 rfl) ?_
            have h93 : vp_in (nI (as.length - 1)) 16 := vp_in_nI (by omega) (by omega)
            refine va_iald hx hb hK hP i_3 1 hg_3 rfl h93 d_Search_nextCandidate_93 ?_
            rw [show f_3 (nI (as.length - 1)).toNatClampNeg = nI ((ω nx).getD (as.length - 1) 0) by rw [nI_clamp (by omega)]; exact hr_3 _ (by omega)]
            refine lv_istore (lv' := [(4, .int (nI ((ω nx).getD (as.length - 1) 0))), (3, .int ((nI ((ω ((ω (as.getD (as.length - 1) 0)).getD 12 0)).getD 1 0)) &&& (((ν h).2.2.1) ^^^ (-1)))), (2, .int (nI (as.length - 1))), (0, .ref h), (1, .int (nI n9))]) hx hb d_Search_nextCandidate_94 hl (by decide) rfl (fun ls hl => ?_)
            refine w_loop (α := Nat) (fun a9 => (((ω nx).getD (as.length - 1) 0) ≤ a9 ∧ a9 ≤ n9) ∧ ∀ j8, ((ω nx).getD (as.length - 1) 0) ≤ j8 → j8 < a9 → ¬ (((nI ((ω ((ω (as.getD (as.length - 1) 0)).getD 12 0)).getD 1 0)) &&& ((ν h).2.2.1 ^^^ -1)) >>> (nI j8 &&& 31)) &&& 1 = 1) (fun a9 => n9 - a9) (fun a9 => [(4, .int (nI a9)), (3, .int ((nI ((ω ((ω (as.getD (as.length - 1) 0)).getD 12 0)).getD 1 0)) &&& (((ν h).2.2.1) ^^^ (-1)))), (2, .int (nI (as.length - 1))), (0, .ref h), (1, .int (nI n9))]) (fun _ => []) 5 96 (fun z96 ls hJ hl ih96 => ?_) ((ω nx).getD (as.length - 1) 0) ls ⟨⟨Nat.le_refl _, hnx9⟩, fun j8 h8 h9 => absurd h8 (by omega)⟩ (lv_sub hl [0, 1, 2, 3, 4] rfl)
            have hz96 := hJ.1
            refine lv_iload hx hb d_Search_nextCandidate_96 (lv_at hl 0 rfl) ?_
            refine lv_iload_n hx hb d_Search_nextCandidate_98 rfl (lv_at hl 4 rfl) ?_
            refine lv_icmp_ge (tgt := 131) hx hb d_Search_nextCandidate_99 (by decide) (fun c99 => ?_) (fun c99 => ?_)
            · have p99 : n9 ≤ z96 := ((nI_leI (a := n9) (b := z96) (by omega) (by omega)).mp c99)
              refine lv_iconst (v := -1) hx hb d_Search_nextCandidate_131 (by decide) ?_
              refine W.widen (k := 0) (n := 0) (by omega) (by omega) ?_
              exact W.iret (v := -1) hx hb hr (fun t ht hW => ⟨⟨_, (G, o, as), rfl, ⟨ν, ω, (fun _ _ => rfl), rfl, (fun _ _ => rfl), trivial, hTy, kpl, hFR, rfl, Or.inl ⟨rfl, rfl, Or.inr (Or.inr (Or.inr (fun k8 h8 h9 => hJ.2 k8 h8 (by omega))))⟩⟩, ⟨by rw [ht]; exact hP, va_K.moved hW.alike hK, hD⟩⟩, hS.F ht⟩) hS.2.2 d_Search_nextCandidate_132
            · have p99 : ¬ (n9 ≤ z96) := (fun q9 => c99 ((nI_leI (a := n9) (b := z96) (by omega) (by omega)).mpr q9))
              refine lv_iload_n hx hb d_Search_nextCandidate_102 rfl (lv_at hl 1 rfl) ?_
              refine lv_iload hx hb d_Search_nextCandidate_103 (lv_at hl 0 rfl) ?_
              refine lv_ishr hx hb d_Search_nextCandidate_105 ?_
              refine lv_iconst (v := 1) hx hb d_Search_nextCandidate_106 (by decide) ?_
              refine lv_iand hx hb d_Search_nextCandidate_107 ?_
              refine lv_iconst (v := 1) hx hb d_Search_nextCandidate_108 (by decide) ?_
              refine lv_icmp_ne (tgt := 125) hx hb d_Search_nextCandidate_109 (by decide) (fun c109 => ?_) (fun c109 => ?_)
              · have p109 : ¬ (((((nI ((ω ((ω (as.getD (as.length - 1) 0)).getD 12 0)).getD 1 0)) &&& (((ν h).2.2.1) ^^^ (-1))) >>> ((nI z96) &&& 31)) &&& 1) = (1 : Int32)) := c109
                refine lv_iinc (v := nI (z96 + 1)) (lv' := [(4, .int (nI (z96 + 1))), (3, .int ((nI ((ω ((ω (as.getD (as.length - 1) 0)).getD 12 0)).getD 1 0)) &&& (((ν h).2.2.1) ^^^ (-1)))), (2, .int (nI (as.length - 1))), (0, .ref h), (1, .int (nI n9))]) hx hb d_Search_nextCandidate_125 hl (k := 0) rfl (nI_1 _) (by decide) rfl (fun ls hl => ?_)
                refine lv_goto (tgt := 96) hx hb d_Search_nextCandidate_128 (by decide) ?_
                exact ih96 (z96 + 1) ls (by omega) ⟨⟨by omega, by omega⟩, fun j8 h8 h9 => (Nat.lt_succ_iff_lt_or_eq.mp h9).elim (hJ.2 j8 h8) (fun e9 => by subst e9; exact p109)⟩ (lv_sub hl [0, 1, 2, 3, 4] rfl)
              · have p109 : ((((nI ((ω ((ω (as.getD (as.length - 1) 0)).getD 12 0)).getD 1 0)) &&& (((ν h).2.2.1) ^^^ (-1))) >>> ((nI z96) &&& 31)) &&& 1) = (1 : Int32) := c109
                refine lv_aload_n hx hb d_Search_nextCandidate_112 rfl (lv_at hl 3 rfl) ?_
                refine va_get (v := .ref nx) hx hb htb i_Search hown hK hP i_1 hg_1 rfl 1 (by decide) (htb _ q1_121) (fun _ h9 => h9) rfl d_Search_nextCandidate_113 ?_
                refine lv_iload_n hx hb d_Search_nextCandidate_116 rfl (lv_at hl 2 rfl) ?_
                refine lv_iload hx hb d_Search_nextCandidate_117 (lv_at hl 0 rfl) ?_
                refine lv_iconst (v := 1) hx hb d_Search_nextCandidate_119 (by decide) ?_
                refine lv_iadd hx hb d_Search_nextCandidate_120 ?_
                rw [show ((nI z96) + 1 : Int32) = nI (z96 + 1) from nI_add z96 1]
                have h121 : vp_in (nI (as.length - 1)) 16 := vp_in_nI (by omega) (by omega)
                refine va_iast hx hb hK hP hD hS i_3 1 hg_3 rfl h121 d_Search_nextCandidate_121 (fun H121 locs hP hD2 hS => ?_)
                have hP : va_P (dC, dI) classes (G.set i_3 (nx, .inl (γ.2.1, 16, .inl (upd f_3 (nI (as.length - 1)).toNatClampNeg (nI (z96 + 1)))))) H121 := hP
                have hD3 : va_D A (G.set i_3 (nx, .inl (γ.2.1, 16, .inl (upd f_3 (nI (as.length - 1)).toNatClampNeg (nI (z96 + 1)))))) := hD2
                obtain ⟨ω121_7, hω121_7, eω121_7⟩ : ∃ z : Nat → List Nat, (∀ b, b ≠ nx → z b = ω b) ∧ z nx = setL (ω nx) (as.length - 1) (z96 + 1) := ⟨fun b => if b = nx then setL (ω nx) (as.length - 1) (z96 + 1) else ω b, fun b hb => if_neg hb, if_pos rfl⟩
                have hF1 := FR.set (c' := .inl (γ.2.1, 16, .inl (upd f_3 (nI (as.length - 1)).toNatClampNeg (nI (z96 + 1))))) hg_3 knx_1.1
                have kpl := kpl.fr hF1
                have hFR := hFR.tr hF1.s
                clear hF1
                have hTy := TY.setom (ω' := ω121_7) (c' := .inl (γ.2.1, 16, .inl (upd f_3 (nI (as.length - 1)).toNatClampNeg (nI (z96 + 1))))) hTy hD hg_3 hω121_7 (by rw [knx_1.2]) (hNL nx (by rw [knx_1.2])) (ok_6r knx_1 (by rw [eω121_7]; exact st_16 hr_3 rfl (nI_clamp (by omega))))
                have hD := hD3
                have hWω121_7 : ∀ b, b ≠ nx → ω121_7 b = ω b := fun b hb => hω121_7 b hb
                clear hD3 hD2
                generalize G.set i_3 (nx, .inl (γ.2.1, 16, .inl (upd f_3 (nI (as.length - 1)).toNatClampNeg (nI (z96 + 1))))) = G_7 at hP hD hTy hFR kpl
                refine lv_iload hx hb d_Search_nextCandidate_122 (lv_at hl 0 rfl) ?_
                refine W.widen (k := 0) (n := 0) (by omega) (by omega) ?_
                exact W.iret (v := nI z96) hx hb hr (fun t ht hW => ⟨⟨_, (G_7, o, as), rfl, ⟨ν, ω121_7, (fun _ _ => rfl), rfl, hWω121_7, trivial, hTy, kpl, hFR, rfl, Or.inr ⟨z96, rfl, by omega, by omega, p109, hJ.2, p30, p44, p61, eω121_7⟩⟩, ⟨by rw [ht]; exact hP, va_K.moved hW.alike hK, hD⟩⟩, hS.F ht⟩) hS.2.2 d_Search_nextCandidate_124
          · have p61 : ¬ (((ν (as.getD (as.length - 1) 0)).2.2.2.2.2.2.2.2.1) = (0 : Int32)) := c61
            refine lv_iconst (v := -1) hx hb d_Search_nextCandidate_64 (by decide) ?_
            refine W.widen (k := 0) (n := 0) (by omega) (by omega) ?_
            exact W.iret (v := -1) hx hb hr (fun t ht hW => ⟨⟨_, (G, o, as), rfl, ⟨ν, ω, (fun _ _ => rfl), rfl, (fun _ _ => rfl), trivial, hTy, kpl, hFR, rfl, Or.inl ⟨rfl, rfl, Or.inr (Or.inr (Or.inl p61))⟩⟩, ⟨by rw [ht]; exact hP, va_K.moved hW.alike hK, hD⟩⟩, hS.F ht⟩) hS.2.2 d_Search_nextCandidate_65
def y_Search_advance : MethodName := ⟨"TrustChain$Search", "advance", "(Ljava/util/ArrayList;)Z"⟩
abbrev b_Search_advance : ByteArray := prog_10_method_3_code
def w_Search_advance : List Cond := Cond.code y_Search_advance b_Search_advance 4 ((some FieldType.boolean)) :: tb
theorem d_Search_advance_0 : decode b_Search_advance 0 = .ok (.iconst 0, 1) := by decide +kernel
theorem d_Search_advance_1 : decode b_Search_advance 1 = .ok (.istore_n 2, 1) := by decide +kernel
theorem d_Search_advance_2 : decode b_Search_advance 2 = .ok (.iload_n 2, 1) := by decide +kernel
theorem d_Search_advance_3 : decode b_Search_advance 3 = .ok (.sipush 2000, 3) := by decide +kernel
theorem d_Search_advance_6 : decode b_Search_advance 6 = .ok (.if_icmp .ge 75, 3) := by decide +kernel
theorem d_Search_advance_9 : decode b_Search_advance 9 = .ok (.aload_n 0, 1) := by decide +kernel
theorem d_Search_advance_10 : decode b_Search_advance 10 = .ok (.getfield 12, 3) := by decide +kernel
theorem d_Search_advance_13 : decode b_Search_advance 13 = .ok (.invokevirtual 55, 3) := by decide +kernel
theorem d_Search_advance_16 : decode b_Search_advance 16 = .ok (.ifCond .ne 65, 3) := by decide +kernel
theorem d_Search_advance_19 : decode b_Search_advance 19 = .ok (.aload_n 0, 1) := by decide +kernel
theorem d_Search_advance_20 : decode b_Search_advance 20 = .ok (.aload_n 1, 1) := by decide +kernel
theorem d_Search_advance_21 : decode b_Search_advance 21 = .ok (.invokevirtual 59, 3) := by decide +kernel
theorem d_Search_advance_24 : decode b_Search_advance 24 = .ok (.invokevirtual 63, 3) := by decide +kernel
theorem d_Search_advance_27 : decode b_Search_advance 27 = .ok (.istore_n 3, 1) := by decide +kernel
theorem d_Search_advance_28 : decode b_Search_advance 28 = .ok (.iload_n 3, 1) := by decide +kernel
theorem d_Search_advance_29 : decode b_Search_advance 29 = .ok (.ifCond .lt 11, 3) := by decide +kernel
theorem d_Search_advance_32 : decode b_Search_advance 32 = .ok (.iload_n 3, 1) := by decide +kernel
theorem d_Search_advance_33 : decode b_Search_advance 33 = .ok (.aload_n 1, 1) := by decide +kernel
theorem d_Search_advance_34 : decode b_Search_advance 34 = .ok (.invokevirtual 59, 3) := by decide +kernel
theorem d_Search_advance_37 : decode b_Search_advance 37 = .ok (.if_icmp .lt 10, 3) := by decide +kernel
theorem d_Search_advance_40 : decode b_Search_advance 40 = .ok (.aload_n 0, 1) := by decide +kernel
theorem d_Search_advance_41 : decode b_Search_advance 41 = .ok (.invokevirtual 67, 3) := by decide +kernel
theorem d_Search_advance_44 : decode b_Search_advance 44 = .ok (.goto 31, 3) := by decide +kernel
theorem d_Search_advance_47 : decode b_Search_advance 47 = .ok (.aload_n 0, 1) := by decide +kernel
theorem d_Search_advance_48 : decode b_Search_advance 48 = .ok (.aload_n 1, 1) := by decide +kernel
theorem d_Search_advance_49 : decode b_Search_advance 49 = .ok (.iload_n 3, 1) := by decide +kernel
theorem d_Search_advance_50 : decode b_Search_advance 50 = .ok (.invokevirtual 70, 3) := by decide +kernel
theorem d_Search_advance_53 : decode b_Search_advance 53 = .ok (.checkcast 46, 3) := by decide +kernel
theorem d_Search_advance_56 : decode b_Search_advance 56 = .ok (.invokevirtual 41, 3) := by decide +kernel
theorem d_Search_advance_59 : decode b_Search_advance 59 = .ok (.aload_n 1, 1) := by decide +kernel
theorem d_Search_advance_60 : decode b_Search_advance 60 = .ok (.iload_n 3, 1) := by decide +kernel
theorem d_Search_advance_61 : decode b_Search_advance 61 = .ok (.invokevirtual 70, 3) := by decide +kernel
theorem d_Search_advance_64 : decode b_Search_advance 64 = .ok (.checkcast 46, 3) := by decide +kernel
theorem d_Search_advance_67 : decode b_Search_advance 67 = .ok (.getfield 45, 3) := by decide +kernel
theorem d_Search_advance_70 : decode b_Search_advance 70 = .ok (.ifCond .eq 5, 3) := by decide +kernel
theorem d_Search_advance_73 : decode b_Search_advance 73 = .ok (.iconst 1, 1) := by decide +kernel
theorem d_Search_advance_74 : decode b_Search_advance 74 = .ok (.ireturn, 1) := by decide +kernel
theorem d_Search_advance_75 : decode b_Search_advance 75 = .ok (.iinc 2 1, 3) := by decide +kernel
theorem d_Search_advance_78 : decode b_Search_advance 78 = .ok (.goto (-76), 3) := by decide +kernel
theorem d_Search_advance_81 : decode b_Search_advance 81 = .ok (.iconst 0, 1) := by decide +kernel
theorem d_Search_advance_82 : decode b_Search_advance 82 = .ok (.ireturn, 1) := by decide +kernel
set_option maxHeartbeats 4000000 in
set_option maxRecDepth 100000 in
theorem m_Search_advance (l : Launch) (dC : Nat → ClassId) (dI : Nat → Nat → Nat) (sb : sB) (γ : cG) (κ : kE) (Ad : List Nat) (ν : Nat → cN) (ω : Nat → List Nat) (L : Nat) (G : va_W) (h cs pl : Nat) (nx : Nat) (νb : Nat → cN) (ωb : Nat → List Nat) (fo : Nat → Nat → Prop) (tr : Nat → Prop) (D pz : Nat) (σ : List (Nat × Nat)) (o : alD) (as : List Nat) (sz : Nat) (sl : Nat) (hTy : TY γ κ Ad ν ω L G) (kh : tK κ Ad h (13, pl, 0)) (kcs : tK κ Ad cs (15, (sb.2 5), 0)) (kpl : PLx γ sb κ Ad 8 pl o as G) (hnx : nx = (ω h).getD 0 0) (hNL : ∀ a, (κ a).1 = 6 → ∀ b, b ∈ Ad → (κ b).1 = 14 ∨ (κ b).1 = 16 → (κ b).2.2 ≠ a) (hcs9 : (ωb cs).length ≤ 16) (htr : ∀ k9, k9 < (ωb cs).length → (tr k9 ↔ ¬ (νb ((ωb cs).getD k9 0)).2.2.2.2.2.2.2.2.1 = 0)) (hnb : ∀ k9, k9 < (ωb cs).length → (νb ((ωb cs).getD k9 0)).2.2.2.2.2.2.2.2.2.2.2.2 = nI k9) (hbi : ∀ d9, d9 < (ωb cs).length → ∀ k9, k9 < 16 → (bJ (nI ((ωb ((ωb ((ωb cs).getD d9 0)).getD 12 0)).getD 1 0)) k9 = true ↔ k9 < (ωb cs).length ∧ fo d9 k9)) (hν0 : ∀ b, (κ b).1 = 8 → ν b = νb b) (hω0 : ∀ b, (κ b).1 ≠ 6 → ω b = ωb b) (hS0 : SX (fun k9 => (ωb cs).getD k9 0) (ωb cs).length D (fun j9 => (ω nx).getD j9 0) (ν h).2.2.1 as σ pz) (hde : (ν h).1 = nI D) (hpu : (ν h).2.1 = nI pz) (hp00 : 1 ≤ pz) : Met l y_Search_advance w_Search_advance ({ frames := 9, cells := (fC o), slots := (fS o), locals := 300 }) (mz_P sl [.ref h, .ref cs] (dC, dI) sb G [(γ.1, .byte), (γ.2.1, .int), (γ.2.2.1, .long), (γ.2.2.2, .object "java/lang/Object")] sz) (va_Qi (fun r (u' : va_W × alD × List Nat) => ∃ (ν' : Nat → cN) (ω' : Nat → List Nat), (∀ b, b ≠ h → ν' b = ν b) ∧ (True) ∧ (∀ b, b ≠ nx → ω' b = ω b) ∧ (True) ∧ TY γ κ Ad ν' ω' L u'.1 ∧ PLx γ sb κ Ad 8 pl u'.2.1 u'.2.2 u'.1 ∧ FRs γ Ad pl G u'.1 ∧ (∃ (σ' : List (Nat × Nat)) (p' : Nat) (op' : Int32), ν' h = mkS (ν h) (nI D) (nI p') op' ∧ SX (fun k9 => (ωb cs).getD k9 0) (ωb cs).length D (fun j9 => (ω' nx).getD j9 0) op' u'.2.2 σ' p' ∧ ((r = 1 ∧ pz + 1 ≤ p' ∧ 1 ≤ p' ∧ (∃ k9 τ, σ' = (k9, 0) :: τ) ∧ (∀ fl9 t9, ctR (ωb cs).length D fo tr fl9 σ (pz, t9) = thn (sJ fl9 (σ'.map Prod.fst) (p', t9)) (ctR (ωb cs).length D fo tr fl9 σ'))) ∨ (r = 0 ∧ σ' = [] ∧ (∀ fl9 t9, ctR (ωb cs).length D fo tr fl9 σ (pz, t9) = (false, (p', t9))))) ∧ fC u'.2.1 ≤ fC o ∧ fS u'.2.1 ≤ fS o)) (mz_B (dC, dI) [(γ.1, .byte), (γ.2.1, .int), (γ.2.2.1, .long), (γ.2.2.2, .object "java/lang/Object")] G sz sl o) (va_A G sz)) (fC o) (fS o) (va_A G sz) := by
  refine Met.ofW (cc := b_Search_advance) (maxL := 4) (ret := (some FieldType.boolean)) (by decide) rfl ?_
  intro p e s m args below meth c s₁ B hml hv
  obtain ⟨⟨rfl, hsz, hB0, hP, hK, hD0, hN, hT0⟩, hsl⟩ := hv
  have hx := B.exec
  have hb := B.bytes
  have hr := B.returns
  have hts := atoms_spec (ws := w_Search_advance) B.pre
  have tbin : ∀ w ∈ tb, w ∈ w_Search_advance := fun w h => List.mem_cons_of_mem _ h
  have htb : ∀ w ∈ tb, w.before _ s = true := fun w h => hts w (tbin w h)
  have hown : s.vm.findClass "TrustChain$Search" = some m.cls := findClass_of_methodNamed B.named
  have hlocks := B.notSynchronized
  subst hsz
  have hD := hD0.self (sz := s.heap.size)
  subst hsl
  unfold mz_B
  generalize hAe : va_A G s.heap.size = A at hD ⊢
  have hA : ∀ q : Nat, s.heap.size ≤ q → A q := fun q h => by rw [← hAe]; exact Or.inr h
  have hAs : ∀ q : Nat, A q → sb.1 ≤ q := fun q h => by
    rw [← hAe] at h
    rcases h with ⟨k, e, h⟩ | h
    · exact hD0.2 k _ h
    · exact Nat.le_trans hB0 h
  have hS : va_S A s.heap s.heap [] := va_S.rf
  have hFR := FRs.rf γ Ad pl G
  have hcs : (fC o) ≤ (headSpec w_Search_advance ({ frames := 9, cells := (fC o), slots := (fS o), locals := 300 })).room.cells ∧ (fS o) ≤ (headSpec w_Search_advance ({ frames := 9, cells := (fC o), slots := (fS o), locals := 300 })).room.slots := ⟨Nat.le_refl _, Nat.le_refl _⟩
  have hP : va_P (dC, dI) classes G s.heap := hP
  have hl := lv_entry ([.ref h, .ref cs]) (n := 4) (Nat.le_of_ble_eq_true rfl)
  rw [lg_entry_eq]
  generalize (lg_sl ([.ref h, .ref cs]) ++ List.replicate (4 - (lg_sl ([.ref h, .ref cs])).length) Slot.unset).toArray = ls at hl ⊢
  have hl : lv_has ls 4 [(0, .ref h), (1, .ref cs)] := hl
  have hTy0 := hTy
  have hhn9 : h ≠ nx := sx_ne hTy kh hnx
  refine lv_iconst (v := 0) hx hb d_Search_advance_0 (by decide) ?_
  refine lv_istore_n (lv' := [(2, .int 0), (0, .ref h), (1, .ref cs)]) hx hb d_Search_advance_1 rfl hl (by decide) rfl (fun ls hl => ?_)
  have hfo := Nat.le_refl (fC o)
  have hgo := Nat.le_refl (fS o)
  have hnk := sx_nk hTy kh hnx
  have hcn9 : cs ≠ nx := q_nek kcs hnk (by simp)
  have hcsb : ω cs = ωb cs := hω0 _ (by rw [kcs.2]; exact (by decide : (15 : Nat) ≠ 6))
  have hlb9 : (ω cs).length = (ωb cs).length := by rw [hcsb]
  have hp1 := hS0.p1
  have hlp := hS0.lp
  have hp0 : 1 ≤ pz := hp00
  refine W.widen (k := fC o - fC o) (n := fS o - fS o) (by omega) (by omega) ?_
  refine w_loopC (α := Nat × va_W × alD × List Nat × List (Nat × Nat) × Nat) (fun a9 => a9.1 ≤ 2000 ∧ (∃ (ν' : Nat → cN) (ω' : Nat → List Nat) (op' : Int32), (∀ b, b ≠ h → ν' b = ν b) ∧ (∀ b, b ≠ nx → ω' b = ω b) ∧ ν' h = mkS (ν h) (nI D) (nI a9.2.2.2.2.2) op' ∧ SX (fun k9 => (ωb cs).getD k9 0) (ωb cs).length D (fun j9 => (ω' nx).getD j9 0) op' a9.2.2.2.1 a9.2.2.2.2.1 a9.2.2.2.2.2 ∧ TY γ κ Ad ν' ω' L a9.2.1) ∧ PLx γ sb κ Ad 8 pl a9.2.2.1 a9.2.2.2.1 a9.2.1 ∧ FRs γ Ad pl G a9.2.1 ∧ (fC a9.2.2.1 ≤ fC o ∧ fS a9.2.2.1 ≤ fS o) ∧ (∀ fl9 t9, ctR (ωb cs).length D fo tr fl9 σ (pz, t9) = ctR (ωb cs).length D fo tr fl9 a9.2.2.2.2.1 (a9.2.2.2.2.2, t9)) ∧ pz ≤ a9.2.2.2.2.2 ∧ a9.1 + 2 * (1000 - a9.2.2.2.2.2) + a9.2.2.2.2.1.length ≤ 2 * (1000 - pz) + σ.length) (fun a9 => 2000 - a9.1) (fun a9 => [(2, .int (nI a9.1)), (0, .ref h), (1, .ref cs)]) (fun _ => []) (fun a9 => a9.2.1) (fun a9 => fC o - fC a9.2.2.1) (fun a9 => fS o - fS a9.2.2.1) 4 2 (fun a9 HL2 locs ls hJ hP hD hS hl ih2 => ?_) (0, G, o, as, σ, pz) _ _ ls ⟨Nat.zero_le _, ⟨ν, ω, (ν h).2.2.1, fun _ _ => rfl, fun _ _ => rfl, by rw [← hde, ← hpu]; rfl, hS0, hTy⟩, kpl, hFR, ⟨hfo, hgo⟩, fun _ _ => rfl, Nat.le_refl _, by dsimp only; omega⟩ hP hD hS (lv_sub hl [0, 1, 2] rfl)
  obtain ⟨z2, G2, o2, as2, σ2, p2⟩ := a9
  obtain ⟨hz2, ⟨ν2, ω2, op2, hν2, hω2, eν2, hS2, hTy⟩, kpl, hFR, ⟨hfo, hgo⟩, hct2, hp2, hm2⟩ := hJ
  dsimp only at hz2 eν2 hS2 hTy kpl hFR hfo hgo hct2 hp2 hm2 hP hD hl ih2 ⊢
  have hai9 := kpl.2.2.2.1
  have hpl9 := pC_le hai9
  have hl2 := hS2.len
  have hd2 := hS2.d1
  have hld2 := hS2.ld
  have hlp2 := hS2.lp
  have hp12 := hS2.p1
  refine lv_iload_n hx hb d_Search_advance_2 rfl (lv_at hl 0 rfl) ?_
  refine lv_sipush (v := 2000) hx hb d_Search_advance_3 (by decide) ?_
  refine lv_icmp_ge (tgt := 81) hx hb d_Search_advance_6 (by decide) (fun c6 => ?_) (fun c6 => ?_)
  · have p6 : 2000 ≤ z2 := ((nI_leI (a := 2000) (b := z2) (by omega) (by omega)).mp c6)
    refine lv_iconst (v := 0) hx hb d_Search_advance_81 (by decide) ?_
    have hnil2 : σ2 = [] := List.length_eq_zero_iff.mp (by omega)
    refine W.size (fun hz9 hy9 => ?_)
    refine W.widen (k := (fC o)) (n := (fS o)) (by omega) (by omega) ?_
    exact W.zret (v := 0) hx hb hr rfl (fun t ht hW => ⟨⟨_, (G2, o2, as2), rfl, ⟨ν2, ω2, hν2, trivial, hω2, trivial, hTy, kpl, hFR, ⟨σ2, p2, op2, eν2, hS2, Or.inr ⟨rfl, hnil2, fun fl9 t9 => by rw [hct2 fl9 t9, hnil2]; rfl⟩, by show fC o2 ≤ fC o; omega, by show fS o2 ≤ fS o; omega⟩⟩, ⟨⟨by rw [ht]; exact hP, va_K.moved hW.alike hK, hD⟩, by rw [ht]; show HL2.size + fC o2 ≤ _; omega, by rw [ht]; show slN HL2 + fS o2 ≤ _; omega⟩⟩, hS.F ht⟩) hS.2.2 d_Search_advance_82
  · have p6 : ¬ (2000 ≤ z2) := (fun q9 => c6 ((nI_leI (a := 2000) (b := z2) (by omega) (by omega)).mpr q9))
    refine lv_aload_n hx hb d_Search_advance_9 rfl (lv_at hl 1 rfl) ?_
    obtain ⟨i_1, nx_1, ⟨knx_1, enx_1⟩, hg_1⟩ := ty_13 hTy kh
    have enk_1 : nx = (ω2 h).getD 0 0 := by rw [hω2 _ hhn9]; exact hnx
    obtain rfl : nx = nx_1 := enk_1.trans enx_1.symm
    rw [eν2] at hg_1
    have hg_1 : G2[i_1]? = some (h, .inr (8, [.ref pl, .ref nx, .int (nI D), .int (nI p2), .int op2])) := hg_1
    refine va_get (v := .ref pl) hx hb htb i_Search hown hK hP i_1 hg_1 rfl 0 (by decide) (htb _ q1_119) (fun _ h9 => h9) rfl d_Search_advance_10 ?_
    obtain ⟨i_2, m_2, hK_2, hg_2⟩ := pl_size kpl
    refine vp_callSi (pu_callV (As := []) (rest := []) ⟨hx, hb, hml, hown, hts⟩ tbin (c_AL_isEmpty l dC dI sb pl (alO sb o2) as2.length m_2 (by omega)) q6_19 q6_20 q6_21 q1_4 q6_22 (n := 0) (by decide +kernel) rfl ⟨rfl, rfl⟩ ⟨Nat.le_of_ble_eq_true rfl, Nat.le_of_ble_eq_true rfl⟩ ⟨(by omega), (by omega)⟩ hN (hT0.keep hS hAs) hK hP [i_2] (by simp only [List.filterMap_cons, List.filterMap_nil, hg_2]) [] rfl i_2 11 hg_2 rfl rfl hl.1 rfl (Nat.le_of_ble_eq_true rfl) d_Search_advance_13) (fun r13 hr13 => ?_)
    obtain rfl := Eq.symm (bz_zP hr13)
    refine lv_if_ne (tgt := 81) hx hb d_Search_advance_16 (by decide) (fun c16 => ?_) (fun c16 => ?_)
    · have p16 : as2.length = 0 := (zP_1 c16)
      refine lv_iconst (v := 0) hx hb d_Search_advance_81 (by decide) ?_
      have hnil2 : σ2 = [] := List.length_eq_zero_iff.mp (by omega)
      refine W.size (fun hz9 hy9 => ?_)
      refine W.widen (k := (fC o)) (n := (fS o)) (by omega) (by omega) ?_
      exact W.zret (v := 0) hx hb hr rfl (fun t ht hW => ⟨⟨_, (G2, o2, as2), rfl, ⟨ν2, ω2, hν2, trivial, hω2, trivial, hTy, kpl, hFR, ⟨σ2, p2, op2, eν2, hS2, Or.inr ⟨rfl, hnil2, fun fl9 t9 => by rw [hct2 fl9 t9, hnil2]; rfl⟩, by show fC o2 ≤ fC o; omega, by show fS o2 ≤ fS o; omega⟩⟩, ⟨⟨by rw [ht]; exact hP, va_K.moved hW.alike hK, hD⟩, by rw [ht]; show HL2.size + fC o2 ≤ _; omega, by rw [ht]; show slN HL2 + fS o2 ≤ _; omega⟩⟩, hS.F ht⟩) hS.2.2 d_Search_advance_82
    · have p16 : ¬ (as2.length = 0) := (zP_0.mp c16)
      obtain ⟨c2, m2, τ2, rfl⟩ := sx_cons hS2 (by omega)
      have htp : as2.getD (as2.length - 1) 0 = (ωb cs).getD c2 0 ∧ (ω2 nx).getD (as2.length - 1) 0 = m2 := hS2.top
      have hr2 := hS2.r (c2, m2) List.mem_cons_self
      dsimp only at hr2
      simp only [List.length_cons] at hl2 hld2 hlp2 hm2
      obtain ⟨pc2, qc2, kc2⟩ := pl_kin kpl (as2.length - 1) (by omega)
      rw [htp.1] at kc2
      have hc2h : (ωb cs).getD c2 0 ≠ h := q_nek kc2 kh (by simp)
      have hc2n : (ωb cs).getD c2 0 ≠ nx := q_nek kc2 hnk (by simp)
      have hen2 := en_k hTy0 kc2.1 (by rw [kc2.2])
      have hc2k : (κ ((ωb cs).getD c2 0)).1 = 8 := by rw [kc2.2]
      have hc26 : (κ ((ωb cs).getD c2 0)).1 ≠ 6 := by rw [hc2k]; decide
      rw [hω0 _ hc26] at hen2
      have he2n : (ωb ((ωb cs).getD c2 0)).getD 12 0 ≠ nx := q_nek hen2 hnk (by simp)
      have hν2c := (hν2 _ hc2h).trans (hν0 _ hc2k)
      have hω2c := (hω2 _ hc2n).trans (hω0 _ hc26)
      have hω2e := (hω2 _ he2n).trans (hω0 _ (by rw [hen2.2]; exact (by decide : (4 : Nat) ≠ 6)))
      have hbt2 := hbi c2 hr2.1
      refine lv_aload_n hx hb d_Search_advance_19 rfl (lv_at hl 1 rfl) ?_
      refine lv_aload_n hx hb d_Search_advance_20 rfl (lv_at hl 2 rfl) ?_
      obtain ⟨i_3, q_3, m_3, hK_3, he_3, hg_3⟩ := ty_15 hTy kcs
      try rw [show ω2 cs = ω cs from hω2 _ hcn9] at hK_3
      try rw [show ω2 cs = ω cs from hω2 _ hcn9] at he_3
      try rw [show ω2 cs = ω cs from hω2 _ hcn9] at hg_3
      refine vp_callSi (pu_callV (As := []) (rest := [.ref h]) ⟨hx, hb, hml, hown, hts⟩ tbin (c_AL_size l dC dI sb cs q_3 ((ω cs).length) m_3) q6_13 q2_54 q2_55 q1_4 q2_56 (n := 0) (by decide +kernel) rfl ⟨rfl, rfl⟩ ⟨Nat.le_of_ble_eq_true rfl, Nat.le_of_ble_eq_true rfl⟩ ⟨(by omega), (by omega)⟩ hN (hT0.keep hS hAs) hK hP [i_3] (by simp only [List.filterMap_cons, List.filterMap_nil, hg_3]) [] rfl i_3 11 hg_3 rfl rfl hl.1 rfl (Nat.le_of_ble_eq_true rfl) d_Search_advance_21) (fun r21 hr21 => ?_)
      subst hr21
      have hFc := va_free (wc := G2) hD hS hA (List.range G2.length) (rg_is _)
      refine va_calli (mu_runV (As := [.int (nI ((ω cs).length))]) (rest := []) ⟨hx, hb, hml, hown, hts⟩ tbin (m_Search_nextCandidate l dC dI sb γ κ Ad ν2 ω2 L G2 h pl nx _ o2 as2 HL2.size hTy kh kpl enk_1 hNL (by omega) (by omega) (by rw [hcsb]; omega) (by rw [htp.2, hcsb]; exact hr2.2)) q6_23 q6_25 qp_28 q1_7 q6_26 (n := 1) (by decide +kernel) rfl ⟨rfl, rfl⟩ ⟨Nat.le_of_ble_eq_true rfl, Nat.le_of_ble_eq_true rfl⟩ ⟨(by omega), (by omega)⟩ hN (hT0.keep hS hAs) hAs (Nat.le_trans hB0 hS.1) hK hP hD (List.range G2.length) (rg_nd _) (rg_is _) [0, 1, 2, 3] rfl i_1 8 hg_1 rfl rfl hl.1 rfl (Nat.le_of_ble_eq_true rfl) d_Search_advance_24) hS (fun q _ h => hFc q h) hFc (fun r24 u24 tS H24 locs ht hvm hw24 hB hz1 hk1 hS => ?_)
      obtain ⟨G_4, o24, as24⟩ := u24
      obtain ⟨ν24_4, ω24_4, hν24_4, eν24_4, hω24_4, eω24_4, hTy, kpl, hF9, hr24⟩ := hw24
      dsimp only at hTy kpl hF9 hr24
      have hNν24_4 : ∀ b, b ≠ h → ν24_4 b = ν b := fun b hb => (hν24_4 b hb).trans (hν2 b hb)
      have hWω24_4 : ∀ b, b ≠ nx → ω24_4 b = ω b := fun b hb => (hω24_4 b hb).trans (hω2 b hb)
      have hFR := hFR.tr hF9
      obtain ⟨hP1, hK1, hD1⟩ := hB
      rw [ht] at hP1
      have hP : va_P (dC, dI) classes G_4 H24 := hP1
      have hD : va_D A G_4 := hD1.weaken (fun _ _ _ h => hFc _ h)
      obtain ⟨e24, hr24⟩ := hr24
      obtain ⟨rfl, rfl⟩ := Prod.mk.inj e24.symm
      have eq24 : ν24_4 h = mkS (ν h) (nI D) (nI p2) op2 := eν24_4.trans eν2
      rcases hr24 with ⟨rfl, ew24, hno24⟩ | ⟨k24, rfl, hk24, hm24, hcb24, hfs24, hpu24, hde24, htr24, ew24⟩
      · rw [eν2, htp.1, htp.2, hν2c, hω2c, hω2e, hcsb] at hno24
        have hct3 : ∀ fl9 t9, ctR (ωb cs).length D fo tr fl9 σ (pz, t9) = ctR (ωb cs).length D fo tr fl9 τ2 (p2, t9) := fun fl9 t9 => (hct2 fl9 t9).trans (sx_no (tr := tr) hS2 hcs9 hbt2 (hno24.imp_right (Or.imp_right (Or.imp_left (htr c2 hr2.1).mpr))) fl9 t9)
        have hrow3 : (fun j9 => (ω24_4 nx).getD j9 0) = fun j9 => (ω2 nx).getD j9 0 := by rw [ew24]
        refine lv_istore_n (lv' := [(3, .int (-1)), (2, .int (nI z2)), (0, .ref h), (1, .ref cs)]) hx hb d_Search_advance_27 rfl hl (by decide) rfl (fun ls hl => ?_)
        refine lv_iload_n hx hb d_Search_advance_28 rfl (lv_at hl 0 rfl) ?_
        refine lv_if_lt (tgt := 40) hx hb d_Search_advance_29 (by decide) (fun c29 => ?_) (fun c29 => ?_)
        rotate_left
        · exact absurd c29 (fun q9 => q9 (by decide))
        refine lv_aload_n hx hb d_Search_advance_40 rfl (lv_at hl 2 rfl) ?_
        obtain ⟨i_6, nx_6, ⟨knx_6, enx_6⟩, hg_6⟩ := ty_13 hTy kh
        have enk_6 : nx = (ω24_4 h).getD 0 0 := by rw [hWω24_4 _ hhn9]; exact hnx
        obtain rfl : nx = nx_6 := enk_6.trans enx_6.symm
        rw [eq24] at hg_6
        have hg_6 : G_4[i_6]? = some (h, .inr (8, [.ref pl, .ref nx, .int (nI D), .int (nI p2), .int op2])) := hg_6
        have hFc := va_free (wc := G_4) hD hS hA (List.range G_4.length) (rg_is _)
        refine va_callv (mu_runV (As := []) (rest := []) ⟨hx, hb, hml, hown, hts⟩ tbin (m_Search_takeOff l dC dI sb γ κ Ad ν24_4 ω24_4 L G_4 h pl nx  o2 as2 H24.size hTy kh kpl enk_6 hNL (by omega)) q6_29 q6_31 qp_29 q1_7 q6_32 (n := 0) (by decide +kernel) rfl ⟨rfl, rfl⟩ ⟨Nat.le_of_ble_eq_true rfl, Nat.le_of_ble_eq_true rfl⟩ ⟨(by omega), (by omega)⟩ hN (hT0.keep hS hAs) hAs (Nat.le_trans hB0 hS.1) hK hP hD (List.range G_4.length) (rg_nd _) (rg_is _) [0, 1, 2, 3] rfl i_6 8 hg_6 rfl rfl hl.1 rfl (Nat.le_of_ble_eq_true rfl) d_Search_advance_41) hS (fun q _ h => hFc q h) hFc (fun u41 tS H41 locs ht hvm hw41 hB hz1 hk1 hS => ?_)
        obtain ⟨G_5, o41, as41⟩ := u41
        obtain ⟨ν41_6, ω41_6, hν41_6, eν41_6, hω41_6, eω41_6, hTy, kpl, hF9, hr41⟩ := hw41
        dsimp only at hTy kpl hF9 hr41
        have hNν41_6 : ∀ b, b ≠ h → ν41_6 b = ν b := fun b hb => (hν41_6 b hb).trans (hNν24_4 b hb)
        have hWω41_6 : ∀ b, b ≠ nx → ω41_6 b = ω b := fun b hb => (hω41_6 b hb).trans (hWω24_4 b hb)
        have hFR := hFR.tr hF9
        obtain ⟨hP1, hK1, hD1⟩ := hB
        rw [ht] at hP1
        have hP : va_P (dC, dI) classes G_5 H41 := hP1
        have hD : va_D A G_5 := hD1.weaken (fun _ _ _ h => hFc _ h)
        obtain ⟨hk41, ea41⟩ := hr41
        subst ea41
        have hfc41 := fC_at hk41
        have eq41 : ν41_6 h = mkS (ν h) (nI D) (nI p2) (op2 &&& (((1 : Int32) <<< (nI c2 &&& 31)) ^^^ -1)) := by rw [eν41_6, htp.1, hNν24_4 _ hc2h, hν0 _ hc2k, hnb c2 hr2.1, eq24]; rfl
        have hS3 : SX (fun k9 => (ωb cs).getD k9 0) (ωb cs).length D (fun j9 => (ω41_6 nx).getD j9 0) (op2 &&& (((1 : Int32) <<< (nI c2 &&& 31)) ^^^ -1)) as2.dropLast τ2 p2 := by rw [eω41_6, hrow3]; exact hS2.off (by omega)
        refine lv_goto (tgt := 75) hx hb d_Search_advance_44 (by decide) ?_
        refine lv_iinc (v := nI (z2 + 1)) (lv' := [(2, .int (nI (z2 + 1))), (3, .int (-1)), (0, .ref h), (1, .ref cs)]) hx hb d_Search_advance_75 hl (k := 1) rfl (nI_1 _) (by decide) rfl (fun ls hl => ?_)
        refine lv_goto (tgt := 2) hx hb d_Search_advance_78 (by decide) ?_
        refine W.widen (k := fC o - fC o41) (n := fS o - fS o41) (by omega) (by omega) ?_
        exact ih2 ((z2 + 1), G_5, o41, as2.dropLast, τ2, p2) _ _ ls (by dsimp only; omega) ⟨by dsimp only; omega, ⟨ν41_6, ω41_6, _, hNν41_6, hWω41_6, eq41, hS3, hTy⟩, kpl, hFR, ⟨by dsimp only; omega, by dsimp only; omega⟩, hct3, by dsimp only; omega, by dsimp only; (try simp only [List.length_cons] at hm2 ⊢); omega⟩ hP hD hS (lv_sub hl [0, 2, 3] rfl)
      · rw [hcsb] at hk24
        rw [htp.2] at hm24
        rw [eν2, htp.1, hω2c, hω2e] at hcb24
        rw [eν2, htp.1, htp.2, hω2c, hω2e] at hfs24
        rw [eν2] at hpu24 hde24
        rw [htp.1, hν2c] at htr24
        obtain ⟨hp24, hD24, hw24, hct24⟩ := sx_yes (tr := tr) hS2 hcs9 hbt2 hk24 hm24 hcb24 hfs24 hpu24 hde24 (fun q9 => (htr c2 hr2.1).mp q9 htr24)
        refine lv_istore_n (lv' := [(3, .int (nI k24)), (2, .int (nI z2)), (0, .ref h), (1, .ref cs)]) hx hb d_Search_advance_27 rfl hl (by decide) rfl (fun ls hl => ?_)
        refine lv_iload_n hx hb d_Search_advance_28 rfl (lv_at hl 0 rfl) ?_
        refine lv_if_lt (tgt := 40) hx hb d_Search_advance_29 (by decide) (fun c29 => ?_) (fun c29 => ?_)
        · exact absurd c29 (fun q9 => absurd ((nI_ltI (a := k24) (b := 0) (by omega) (by omega)).mp q9) (by omega))
        refine lv_iload_n hx hb d_Search_advance_32 rfl (lv_at hl 0 rfl) ?_
        refine lv_aload_n hx hb d_Search_advance_33 rfl (lv_at hl 3 rfl) ?_
        obtain ⟨i_7, q_7, m_7, hK_7, he_7, hg_7⟩ := ty_15 hTy kcs
        try rw [show ω24_4 cs = ω cs from hWω24_4 _ hcn9] at hK_7
        try rw [show ω24_4 cs = ω cs from hWω24_4 _ hcn9] at he_7
        try rw [show ω24_4 cs = ω cs from hWω24_4 _ hcn9] at hg_7
        refine vp_callSi (pu_callV (As := []) (rest := [.int (nI k24)]) ⟨hx, hb, hml, hown, hts⟩ tbin (c_AL_size l dC dI sb cs q_7 ((ω cs).length) m_7) q6_13 q2_54 q2_55 q1_4 q2_56 (n := 0) (by decide +kernel) rfl ⟨rfl, rfl⟩ ⟨Nat.le_of_ble_eq_true rfl, Nat.le_of_ble_eq_true rfl⟩ ⟨(by omega), (by omega)⟩ hN (hT0.keep hS hAs) hK hP [i_7] (by simp only [List.filterMap_cons, List.filterMap_nil, hg_7]) [] rfl i_7 11 hg_7 rfl rfl hl.1 rfl (Nat.le_of_ble_eq_true rfl) d_Search_advance_34) (fun r34 hr34 => ?_)
        subst hr34
        refine lv_icmp_lt (tgt := 47) hx hb d_Search_advance_37 (by decide) (fun c37 => ?_) (fun c37 => ?_)
        rotate_left
        · exact absurd c37 (fun q9 => q9 ((nI_ltI (a := k24) (b := (ω cs).length) (by omega) (by omega)).mpr (by rw [hcsb]; exact hk24)))
        refine lv_aload_n hx hb d_Search_advance_47 rfl (lv_at hl 2 rfl) ?_
        refine lv_aload_n hx hb d_Search_advance_48 rfl (lv_at hl 3 rfl) ?_
        refine lv_iload_n hx hb d_Search_advance_49 rfl (lv_at hl 0 rfl) ?_
        obtain ⟨cap_8, kq_8⟩ := he_7 (by omega)
        obtain ⟨i_9, f_9, hK_9, hc_9, he_9, hg_9⟩ := ty_14 hTy kq_8
        try rw [show ω24_4 cs = ω cs from hWω24_4 _ hcn9] at hK_9
        try rw [show ω24_4 cs = ω cs from hWω24_4 _ hcn9] at he_9
        try rw [show ω24_4 cs = ω cs from hWω24_4 _ hcn9] at hg_9
        obtain ⟨hf_8, p_8, q_8, ks_8⟩ := he_9 k24 (by omega)
        refine va_csr (pu_callV (As := [.int (nI k24)]) (rest := [.ref h]) ⟨hx, hb, hml, hown, hts⟩ tbin (c_AL_get l dC dI sb cs q_7 ((ω cs).length) cap_8 k24 ((ω cs).getD k24 0) m_7 γ.2.2.2 f_9 (by omega) hK_9 (by omega) hf_8) q6_27 q4_210 q4_211 q1_4 q4_212 (n := 1) (by decide +kernel) rfl ⟨rfl, rfl⟩ ⟨Nat.le_of_ble_eq_true rfl, Nat.le_of_ble_eq_true rfl⟩ ⟨(by omega), (by omega)⟩ hN (hT0.keep hS hAs) hK hP [i_7, i_9] (by simp only [List.filterMap_cons, List.filterMap_nil, hg_7, hg_9]) [3] rfl i_7 11 hg_7 rfl rfl hl.1 rfl (Nat.le_of_ble_eq_true rfl) d_Search_advance_50) (fun r50 hr50 => ?_)
        obtain rfl := Eq.symm hr50
        obtain ⟨i_10, bo_10, K_10, B_10, kbo_10, wl_10, hg_10⟩ := ty_8x hTy ks_8
        obtain ⟨⟨A_10, knm_10⟩, kpe_10, kec_10, kse_10, ksu_10, kmo_10, kok_10, kik_10, kha_10, ksi_10, ken_10, ksg_10, kis_10⟩ := K_10
        have knm_10 := tK.fiv ⟨_, _, knm_10⟩
        have kpe_10 := tK.fiv kpe_10
        have kec_10 := tK.fiv kec_10
        have ksu_10 := tK.two ksu_10
        have kmo_10 := tK.two kmo_10
        have kok_10 := tK.two kok_10
        have kik_10 := tK.two kik_10
        have ksg_10 := tK.two ksg_10
        have kis_10 := tK.two kis_10
        rw [show ν24_4 ((ω cs).getD k24 0) = ν ((ω cs).getD k24 0) from hNν24_4 _ (q_nek ks_8 kh (by simp))] at hg_10 B_10
        refine va_castY (C := "TrustChain$Certificate") hx hb hown (htb _ q6_28) (hN.1 _ qn9_223) (va_recv (ci := 3) hK hP rfl hg_10) d_Search_advance_53 ?_
        obtain ⟨i_12, nx_12, ⟨knx_12, enx_12⟩, hg_12⟩ := ty_13 hTy kh
        have enk_12 : nx = (ω24_4 h).getD 0 0 := by rw [hWω24_4 _ hhn9]; exact hnx
        obtain rfl : nx = nx_12 := enk_12.trans enx_12.symm
        rw [eq24] at hg_12
        have hg_12 : G_4[i_12]? = some (h, .inr (8, [.ref pl, .ref nx, .int (nI D), .int (nI p2), .int op2])) := hg_12
        have hFc := va_free (wc := G_4) hD hS hA (List.range G_4.length) (rg_is _)
        refine va_callv (mu_runV (As := [.ref ((ω cs).getD k24 0)]) (rest := []) ⟨hx, hb, hml, hown, hts⟩ tbin (m_Search_put l dC dI sb γ κ Ad ν24_4 ω24_4 L G_4 h ((ω cs).getD k24 0) pl nx _ _ o2 as2 H24.size hTy kh ks_8 kpl enk_12 hNL (by omega)) q6_9 q6_11 qp_27 q1_7 q6_12 (n := 1) (by decide +kernel) rfl ⟨rfl, rfl⟩ ⟨Nat.le_of_ble_eq_true rfl, Nat.le_of_ble_eq_true rfl⟩ ⟨(by omega), (by omega)⟩ hN (hT0.keep hS hAs) hAs (Nat.le_trans hB0 hS.1) hK hP hD (List.range G_4.length) (rg_nd _) (rg_is _) [0, 1, 2, 3] rfl i_12 8 hg_12 rfl rfl hl.1 rfl (Nat.le_of_ble_eq_true rfl) d_Search_advance_56) hS (fun q _ h => hFc q h) hFc (fun u56 tS H56 locs ht hvm hw56 hB hz1 hk1 hS => ?_)
        obtain ⟨G_11, o56, as56⟩ := u56
        obtain ⟨ν56_12, ω56_12, hν56_12, eν56_12, hω56_12, eω56_12, hTy, kpl, hF9, hr56⟩ := hw56
        dsimp only at hTy kpl hF9 hr56
        have hNν56_12 : ∀ b, b ≠ h → ν56_12 b = ν b := fun b hb => (hν56_12 b hb).trans (hNν24_4 b hb)
        have hWω56_12 : ∀ b, b ≠ nx → ω56_12 b = ω b := fun b hb => (hω56_12 b hb).trans (hWω24_4 b hb)
        have hFR := hFR.tr hF9
        obtain ⟨hP1, hK1, hD1⟩ := hB
        rw [ht] at hP1
        have hP : va_P (dC, dI) classes G_11 H56 := hP1
        have hD : va_D A G_11 := hD1.weaken (fun _ _ _ h => hFc _ h)
        obtain ⟨hk56, ea56⟩ := hr56
        rw [hcsb] at ea56
        subst ea56
        have hfc56 := pC_pay hai9 hk56
        have eq56 : ν56_12 h = mkS (ν h) (nI D) (nI (p2 + 1)) (op2 ||| ((1 : Int32) <<< (nI k24 &&& 31))) := by rw [eν56_12, hNν24_4 _ (q_nek ks_8 kh (by simp)), hν0 _ (by rw [ks_8.2]), hcsb, hnb k24 hk24, eq24, ← nI_1]; rfl
        have hS3 : SX (fun k9 => (ωb cs).getD k9 0) (ωb cs).length D (fun j9 => (ω56_12 nx).getD j9 0) (op2 ||| ((1 : Int32) <<< (nI k24 &&& 31))) (as2 ++ [(ωb cs).getD k24 0]) ((k24, 0) :: (c2, k24 + 1) :: τ2) (p2 + 1) := SX.on hS2 hk24 hcs9 hw24 hp24 hD24 (fun j9 hj9 => by rw [eω56_12, setL_at hj9, ew24]; by_cases q9 : j9 = as2.length <;> simp only [q9, if_true, if_false]; rw [setL_at hj9])
        have hk24h : (κ ((ωb cs).getD k24 0)).1 = 8 := by rw [← hcsb, ks_8.2]
        refine lv_aload_n hx hb d_Search_advance_59 rfl (lv_at hl 3 rfl) ?_
        refine lv_iload_n hx hb d_Search_advance_60 rfl (lv_at hl 0 rfl) ?_
        obtain ⟨i_13, q_13, m_13, hK_13, he_13, hg_13⟩ := ty_15 hTy kcs
        try rw [show ω56_12 cs = ω cs from hWω56_12 _ hcn9] at hK_13
        try rw [show ω56_12 cs = ω cs from hWω56_12 _ hcn9] at he_13
        try rw [show ω56_12 cs = ω cs from hWω56_12 _ hcn9] at hg_13
        obtain ⟨cap_14, kq_14⟩ := he_13 (by omega)
        obtain ⟨i_15, f_15, hK_15, hc_15, he_15, hg_15⟩ := ty_14 hTy kq_14
        try rw [show ω56_12 cs = ω cs from hWω56_12 _ hcn9] at hK_15
        try rw [show ω56_12 cs = ω cs from hWω56_12 _ hcn9] at he_15
        try rw [show ω56_12 cs = ω cs from hWω56_12 _ hcn9] at hg_15
        obtain ⟨hf_14, p_14, q_14, ks_14⟩ := he_15 k24 (by omega)
        refine va_csr (pu_callV (As := [.int (nI k24)]) (rest := []) ⟨hx, hb, hml, hown, hts⟩ tbin (c_AL_get l dC dI sb cs q_13 ((ω cs).length) cap_14 k24 ((ω cs).getD k24 0) m_13 γ.2.2.2 f_15 (by omega) hK_15 (by omega) hf_14) q6_27 q4_210 q4_211 q1_4 q4_212 (n := 1) (by decide +kernel) rfl ⟨rfl, rfl⟩ ⟨Nat.le_of_ble_eq_true rfl, Nat.le_of_ble_eq_true rfl⟩ ⟨(by omega), (by omega)⟩ hN (hT0.keep hS hAs) hK hP [i_13, i_15] (by simp only [List.filterMap_cons, List.filterMap_nil, hg_13, hg_15]) [3] rfl i_13 11 hg_13 rfl rfl hl.1 rfl (Nat.le_of_ble_eq_true rfl) d_Search_advance_61) (fun r61 hr61 => ?_)
        obtain rfl := Eq.symm hr61
        obtain ⟨i_16, bo_16, K_16, B_16, kbo_16, wl_16, hg_16⟩ := ty_8x hTy ks_14
        obtain ⟨⟨A_16, knm_16⟩, kpe_16, kec_16, kse_16, ksu_16, kmo_16, kok_16, kik_16, kha_16, ksi_16, ken_16, ksg_16, kis_16⟩ := K_16
        have knm_16 := tK.fiv ⟨_, _, knm_16⟩
        have kpe_16 := tK.fiv kpe_16
        have kec_16 := tK.fiv kec_16
        have ksu_16 := tK.two ksu_16
        have kmo_16 := tK.two kmo_16
        have kok_16 := tK.two kok_16
        have kik_16 := tK.two kik_16
        have ksg_16 := tK.two ksg_16
        have kis_16 := tK.two kis_16
        rw [show ν56_12 ((ω cs).getD k24 0) = ν ((ω cs).getD k24 0) from hNν56_12 _ (q_nek ks_14 kh (by simp))] at hg_16 B_16
        refine va_castY (C := "TrustChain$Certificate") hx hb hown (htb _ q6_28) (hN.1 _ qn9_223) (va_recv (ci := 3) hK hP rfl hg_16) d_Search_advance_64 ?_
        refine va_get (v := .int ((ν ((ω cs).getD k24 0)).2.2.2.2.2.2.2.2.1)) hx hb htb i_Certificate hown hK hP i_16 hg_16 rfl 16 (by decide) (htb _ q2_183) (fun _ h9 => h9) rfl d_Search_advance_67 ?_
        refine lv_if_eq (tgt := 75) hx hb d_Search_advance_70 (by decide) (fun c70 => ?_) (fun c70 => ?_)
        · have p70 : ((ν ((ω cs).getD k24 0)).2.2.2.2.2.2.2.2.1) = (0 : Int32) := c70
          refine lv_iinc (v := nI (z2 + 1)) (lv' := [(2, .int (nI (z2 + 1))), (3, .int (nI k24)), (0, .ref h), (1, .ref cs)]) hx hb d_Search_advance_75 hl (k := 1) rfl (nI_1 _) (by decide) rfl (fun ls hl => ?_)
          have hct3 : ∀ fl9 t9, ctR (ωb cs).length D fo tr fl9 σ (pz, t9) = ctR (ωb cs).length D fo tr fl9 ((k24, 0) :: (c2, k24 + 1) :: τ2) ((p2 + 1), t9) := fun fl9 t9 => ((hct2 fl9 t9).trans (hct24 fl9 t9)).trans (if_neg (fun q9 => (htr k24 hk24).mp q9 (by rw [← hν0 _ hk24h, ← hcsb]; exact p70)))
          refine lv_goto (tgt := 2) hx hb d_Search_advance_78 (by decide) ?_
          refine W.widen (k := fC o - fC o56) (n := fS o - fS o56) (by omega) (by omega) ?_
          exact ih2 ((z2 + 1), G_11, o56, (as2 ++ [(ωb cs).getD k24 0]), ((k24, 0) :: (c2, k24 + 1) :: τ2), (p2 + 1)) _ _ ls (by dsimp only; omega) ⟨by dsimp only; omega, ⟨ν56_12, ω56_12, _, hNν56_12, hWω56_12, eq56, hS3, hTy⟩, kpl, hFR, ⟨by dsimp only; omega, by dsimp only; omega⟩, hct3, by dsimp only; omega, by dsimp only; (try simp only [List.length_cons] at hm2 ⊢); omega⟩ hP hD hS (lv_sub hl [0, 2, 3] rfl)
        · have p70 : ¬ (((ν ((ω cs).getD k24 0)).2.2.2.2.2.2.2.2.1) = (0 : Int32)) := c70
          refine lv_iconst (v := 1) hx hb d_Search_advance_73 (by decide) ?_
          refine W.size (fun hz9 hy9 => ?_)
          refine W.widen (k := (fC o)) (n := (fS o)) (by omega) (by omega) ?_
          exact W.zret (v := 1) hx hb hr rfl (fun t ht hW => ⟨⟨_, (G_11, o56, (as2 ++ [(ωb cs).getD k24 0])), rfl, ⟨ν56_12, ω56_12, hNν56_12, trivial, hWω56_12, trivial, hTy, kpl, hFR, ⟨((k24, 0) :: (c2, k24 + 1) :: τ2), (p2 + 1), _, eq56, hS3, Or.inl ⟨rfl, by omega, by omega, ⟨_, _, rfl⟩, fun fl9 t9 => ((hct2 fl9 t9).trans (hct24 fl9 t9)).trans (if_pos ((htr k24 hk24).mpr (by rw [← hν0 _ hk24h, ← hcsb]; exact p70)))⟩, by show fC o56 ≤ fC o; omega, by show fS o56 ≤ fS o; omega⟩⟩, ⟨⟨by rw [ht]; exact hP, va_K.moved hW.alike hK, hD⟩, by rw [ht]; show H56.size + fC o56 ≤ _; omega, by rw [ht]; show slN H56 + fS o56 ≤ _; omega⟩⟩, hS.F ht⟩) hS.2.2 d_Search_advance_74
