/-! Throws of TrustChain's methods. -/
def xUp : List String := ["java/lang/RuntimeException", "java/lang/Exception"]
def xStr : List (Nat × String) := [(76, "more than 2,060 octets"), (93, "no such text, or no room"), (112, "WRONG"), (163, "no such certificate"), (169, "no such part"), (178, "no such list"), (193, "no such certificate or list"), (199, "no such certificate or word"), (201, "depth is not 1..16"), (225, "the chain has no such one"), (227, "no such count")]
/-- Throwable's two statics, the texts of the messages -/
def thOK (sb : sB) (U : State) (H : Heap) : Prop := vx_Zq Bundle.tN "UNASSIGNED_STACK" Bundle.steD (fun q => sb.1 ≤ q) U H ∧ vx_Zq Bundle.tN "SUPPRESSED_SENTINEL" Bundle.listD (fun q => sb.1 ≤ q) U H ∧ (∀ z ∈ xStr, ∃ a, vk_R "TrustChain" z.1 z.2 a U) ∧ va_Nc "java/lang/IllegalArgumentException" "java/lang/IndexOutOfBoundsException" U ∧ va_Nc "java/lang/IndexOutOfBoundsException" "java/lang/IllegalArgumentException" U
theorem thOK.warm {sb : sB} {s U : State} {H : Heap} (hW : s.WarmedH U.vm) (h : thOK sb s H) : thOK sb U H := ⟨h.1.moved hW.alike, h.2.1.moved hW.alike, fun z hz => (h.2.2.1 z hz).elim (fun a h => ⟨a, vk_R.warm hW h⟩), h.2.2.2.1.moved hW.alike, h.2.2.2.2.moved hW.alike⟩
theorem thOK.same {sb : sB} {s U : State} {H : Heap} (e : s.vm = U.vm) (h : thOK sb s H) : thOK sb U H := ⟨h.1.moved (e ▸ Vm.Alike.refl s.vm), h.2.1.moved (e ▸ Vm.Alike.refl s.vm), fun z hz => (h.2.2.1 z hz).elim (fun a h => ⟨a, vk_R.same e.symm h⟩), h.2.2.2.1.moved (e ▸ Vm.Alike.refl s.vm), h.2.2.2.2.moved (e ▸ Vm.Alike.refl s.vm)⟩
theorem thOK.kept {sb : sB} {U : State} {H H1 : Heap} (h : thOK sb U H) (hq : ∀ a : Nat, a < H.size → ¬ sb.1 ≤ a → H1[a]? = H[a]?) : thOK sb U H1 := ⟨h.1.kept hq, h.2.1.kept hq, h.2.2⟩
def mx_P (av : List Value) (D : va_G) (sb : sB) (ws : va_W) (tys : List (ClassId × FieldType)) (sz : Nat) : Array Value → State → Prop := va_Pc av (fun U => U.heap.size = sz ∧ sb.1 ≤ sz ∧ va_P D classes ws U.heap ∧ va_K D classes tys U ∧ va_D (fun q => sb.1 ≤ q) ws ∧ nwOK sb U ∧ stOK sb U U.heap ∧ thOK sb U U.heap)
theorem mx_blind {av : List Value} {D : va_G} {sb : sB} {ws : va_W} {tys : List (ClassId × FieldType)} {sz : Nat} : FrameBlind (mx_P av D sb ws tys sz) := fun a U g mk q => by
  obtain ⟨q0, qz, qb, qP, qK, qD, qN, qT, qX⟩ := q
  exact ⟨q0, qz, qb, qP, va_K.moved (u := U) (U := U.calling g mk a) (Vm.Alike.refl U.vm) qK, qD, nwOK.same (s := U) rfl qN, stOK.moved (u := U) (U := U.calling g mk a) (Vm.Alike.refl U.vm) qT, thOK.same (s := U) rfl qX⟩
/-- what a throw leaves: the exception's class, the state chosen, the world of it -/
def mx_B {S : Type} (q : String → S → Prop) (D : va_G) (tys : List (ClassId × FieldType)) (A : Nat → Prop) (F : S → va_W) (E : String) (u : S) (t : State) : Prop := q E u ∧ mu_B D tys A F u t
abbrev mx_X {S : Type} (q : String → S → Prop) (D : va_G) (tys : List (ClassId × FieldType)) (A : Nat → Prop) (F : S → va_W) : String → State → State → Prop := vx_X (fun _ : S => True) (mx_B q D tys A F) A
theorem x_ot78 : ∀ w ∈ Cond.classLink "TrustChain" 74 "java/lang/IndexOutOfBoundsException" :: Cond.initialized "java/lang/IndexOutOfBoundsException" :: vx_atS "TrustChain" 78 "java/lang/IndexOutOfBoundsException" xUp, vx_ot w = true := by decide +kernel
theorem x_gd78 : ∀ w ∈ (vx_atS "TrustChain" 78 "java/lang/IndexOutOfBoundsException" xUp).filter goodWord, w ∈ lw_tbl := by decide +kernel
theorem x_nw78 : ∀ w ∈ (vx_atS "TrustChain" 78 "java/lang/IndexOutOfBoundsException" xUp).filter (fun w => !goodWord w), w ∈ nwords := by decide +kernel
theorem x_ot114 : ∀ w ∈ Cond.classLink "TrustChain" 110 "java/lang/IllegalArgumentException" :: Cond.initialized "java/lang/IllegalArgumentException" :: vx_atS "TrustChain" 114 "java/lang/IllegalArgumentException" xUp, vx_ot w = true := by decide +kernel
theorem x_gd114 : ∀ w ∈ (vx_atS "TrustChain" 114 "java/lang/IllegalArgumentException" xUp).filter goodWord, w ∈ lw_tbl := by decide +kernel
theorem x_nw114 : ∀ w ∈ (vx_atS "TrustChain" 114 "java/lang/IllegalArgumentException" xUp).filter (fun w => !goodWord w), w ∈ nwords := by decide +kernel
theorem x_hat {sb : sB} {args : Array Value} {s : State} {L : List Cond} {a b : Cond} (ho : ∀ w ∈ a :: b :: L, vx_ot w = true) (hg : ∀ w ∈ L.filter goodWord, w ∈ lw_tbl) (hn : ∀ w ∈ L.filter (fun w => !goodWord w), w ∈ nwords) (htb : ∀ w ∈ tb, w.before args s = true) (hN : nwOK sb s) : ∀ w ∈ L, w.before args s = true := fun w hw => by
  cases h : goodWord w with
  | true => exact htb w (tb_in (hg w (List.mem_filter.mpr ⟨hw, h⟩)) h)
  | false =>
    have ho1 := ho w (List.mem_cons_of_mem _ (List.mem_cons_of_mem _ hw))
    unfold vx_ot at ho1
    rw [h, Bool.or_false] at ho1
    exact va_Nw.use ho1 (hN.1 w (hn w (List.mem_filter.mpr ⟨hw, by rw [h]; rfl⟩)))
theorem x_wide {p : Program} {l : Launch} {e : Env} {R : Room} {s : State} {m : MethodId} {args : Array Value} {below : List Frame} {meth : Method} {c : Code} {H : Heap} {locs : List Loc} {cells slots : Nat} {Q : State → Prop} {g : JFrame} (k n : Nat) (h1 : cells ≤ k) (h2 : slots ≤ n) (kk : W p l e R s m args below meth c H locs k n Q g) : W p l e R s m args below meth c H locs cells slots Q g := fun T hT X => kk T hT (stand_widen X h1 h2)
theorem x_end {S : Type} {q : String → S → Prop} {D : va_G} {tys : List (ClassId × FieldType)} {A : Nat → Prop} {F : S → va_W} {E : String} {s : State} {H : Heap} {locs : List Loc} (u : S) (hq : q E u) (hP : va_P D classes (F u) H) (hK : va_K D classes tys s) (hD : va_D A (F u)) (hS : va_S A s.heap H locs) :
    ∀ t : State, s.vm.Alike t.vm → H.size ≤ t.heap.size → (∀ q : Nat, q < H.size → t.heap[q]? = H[q]?) → mx_X q D tys A F E s t := fun t ha hz hk =>
  ⟨u, trivial, ⟨hq, hP.kept (fun k z hk1 => hk z.1 (vx_lt hP hk1)), va_K.moved ha hK, hD⟩, Nat.le_trans hS.1 hz, fun a h1 h2 => (hk a (Nat.lt_of_lt_of_le h1 hS.1)).trans (hS.2.1 a h1 h2)⟩
def y_Trust_feed : MethodName := ⟨"TrustChain", "feed", "(IIIII)I"⟩
abbrev b_Trust_feed : ByteArray := prog_1_method_2_code
def w_Trust_feed : List Cond := Cond.code y_Trust_feed b_Trust_feed 6 ((some FieldType.int)) :: tb
theorem d_Trust_feed_0 : decode b_Trust_feed 0 = .ok (.aload_n 0, 1) := by decide +kernel
theorem d_Trust_feed_1 : decode b_Trust_feed 1 = .ok (.getfield 68, 3) := by decide +kernel
theorem d_Trust_feed_4 : decode b_Trust_feed 4 = .ok (.sipush 2040, 3) := by decide +kernel
theorem d_Trust_feed_7 : decode b_Trust_feed 7 = .ok (.if_icmp .le 13, 3) := by decide +kernel
theorem d_Trust_feed_10 : decode b_Trust_feed 10 = .ok (.new 74, 3) := by decide +kernel
theorem d_Trust_feed_13 : decode b_Trust_feed 13 = .ok (.dup, 1) := by decide +kernel
theorem d_Trust_feed_14 : decode b_Trust_feed 14 = .ok (.ldc 76, 2) := by decide +kernel
theorem d_Trust_feed_16 : decode b_Trust_feed 16 = .ok (.invokespecial 78, 3) := by decide +kernel
theorem d_Trust_feed_19 : decode b_Trust_feed 19 = .ok (.athrow, 1) := by decide +kernel
theorem d_Trust_feed_20 : decode b_Trust_feed 20 = .ok (.aload_n 0, 1) := by decide +kernel
theorem d_Trust_feed_21 : decode b_Trust_feed 21 = .ok (.iload_n 1, 1) := by decide +kernel
theorem d_Trust_feed_22 : decode b_Trust_feed 22 = .ok (.invokevirtual 81, 3) := by decide +kernel
theorem d_Trust_feed_25 : decode b_Trust_feed 25 = .ok (.aload_n 0, 1) := by decide +kernel
theorem d_Trust_feed_26 : decode b_Trust_feed 26 = .ok (.iload_n 2, 1) := by decide +kernel
theorem d_Trust_feed_27 : decode b_Trust_feed 27 = .ok (.invokevirtual 81, 3) := by decide +kernel
theorem d_Trust_feed_30 : decode b_Trust_feed 30 = .ok (.aload_n 0, 1) := by decide +kernel
theorem d_Trust_feed_31 : decode b_Trust_feed 31 = .ok (.iload_n 3, 1) := by decide +kernel
theorem d_Trust_feed_32 : decode b_Trust_feed 32 = .ok (.invokevirtual 81, 3) := by decide +kernel
theorem d_Trust_feed_35 : decode b_Trust_feed 35 = .ok (.aload_n 0, 1) := by decide +kernel
theorem d_Trust_feed_36 : decode b_Trust_feed 36 = .ok (.iload 4, 2) := by decide +kernel
theorem d_Trust_feed_38 : decode b_Trust_feed 38 = .ok (.invokevirtual 81, 3) := by decide +kernel
theorem d_Trust_feed_41 : decode b_Trust_feed 41 = .ok (.aload_n 0, 1) := by decide +kernel
theorem d_Trust_feed_42 : decode b_Trust_feed 42 = .ok (.iload 5, 2) := by decide +kernel
theorem d_Trust_feed_44 : decode b_Trust_feed 44 = .ok (.invokevirtual 81, 3) := by decide +kernel
theorem d_Trust_feed_47 : decode b_Trust_feed 47 = .ok (.aload_n 0, 1) := by decide +kernel
theorem d_Trust_feed_48 : decode b_Trust_feed 48 = .ok (.getfield 68, 3) := by decide +kernel
theorem d_Trust_feed_51 : decode b_Trust_feed 51 = .ok (.ireturn, 1) := by decide +kernel
set_option maxHeartbeats 4000000 in
set_option maxRecDepth 100000 in
theorem c_Trust_feed (l : Launch) (hl0 : l.stackTraces = false) (dC : Nat → ClassId) (dI : Nat → Nat → Nat) (sb : sB) (q0 fe ho ce li sh rs se ch fo : Nat) (foS chS faP wrP : Int32) (cB : ClassId) (f : Nat → Int32) (k : Nat) (x0 x1 x2 x3 x4 : Int32) (sz : Nat) (hk : k ≤ 2060) : vx_Met l y_Trust_feed w_Trust_feed ({ frames := 6, cells := 1, slots := 6, locals := 104 }) (mx_P [.ref q0, .int x0, .int x1, .int x2, .int x3, .int x4] (dC, dI) sb [(q0, .inr (10, [.ref fe, .ref ho, .ref ce, .ref li, .ref sh, .ref rs, .ref se, .ref ch, .ref fo, .int foS, .int chS, .int faP, .int (nI k), .int wrP])), (fe, .inl (cB, 2060, .inl f))] [(cB, .byte)] sz) (va_Qi (fun r (_u : Unit) => r = nI (k + 20) ∧ k ≤ 2040) (mu_B (dC, dI) [(cB, .byte)] (va_A [(q0, .inr (10, [.ref fe, .ref ho, .ref ce, .ref li, .ref sh, .ref rs, .ref se, .ref ch, .ref fo, .int foS, .int chS, .int faP, .int (nI k), .int wrP])), (fe, .inl (cB, 2060, .inl f))] sz) (fun _ : Unit => [(q0, .inr (10, [.ref fe, .ref ho, .ref ce, .ref li, .ref sh, .ref rs, .ref se, .ref ch, .ref fo, .int foS, .int chS, .int faP, .int (nI (k + 20)), .int wrP])), (fe, .inl (cB, 2060, .inl (tw4 (tw4 (tw4 (tw4 (tw4 f k x0) (k + 4) x1) (k + 8) x2) (k + 12) x3) (k + 16) x4)))])) (va_A [(q0, .inr (10, [.ref fe, .ref ho, .ref ce, .ref li, .ref sh, .ref rs, .ref se, .ref ch, .ref fo, .int foS, .int chS, .int faP, .int (nI k), .int wrP])), (fe, .inl (cB, 2060, .inl f))] sz)) (mx_X (fun (E : String) (_u : Unit) => E = "java/lang/IndexOutOfBoundsException" ∧ 2040 < k) (dC, dI) [(cB, .byte)] (va_A [(q0, .inr (10, [.ref fe, .ref ho, .ref ce, .ref li, .ref sh, .ref rs, .ref se, .ref ch, .ref fo, .int foS, .int chS, .int faP, .int (nI k), .int wrP])), (fe, .inl (cB, 2060, .inl f))] sz) (fun _ : Unit => [(q0, .inr (10, [.ref fe, .ref ho, .ref ce, .ref li, .ref sh, .ref rs, .ref se, .ref ch, .ref fo, .int foS, .int chS, .int faP, .int (nI k), .int wrP])), (fe, .inl (cB, 2060, .inl f))])) 1 6 (va_A [(q0, .inr (10, [.ref fe, .ref ho, .ref ce, .ref li, .ref sh, .ref rs, .ref se, .ref ch, .ref fo, .int foS, .int chS, .int faP, .int (nI k), .int wrP])), (fe, .inl (cB, 2060, .inl f))] sz) := by
  refine vx_ofW (cc := b_Trust_feed) (maxL := 6) (ret := (some FieldType.int)) (by decide) rfl ?_
  intro p e s m args below meth c s₁ B hml hnoh hv
  obtain ⟨rfl, hsz, hB0, hP, hK, hD0, hN, hT0, hTh⟩ := hv
  have hx := B.exec
  have hb := B.bytes
  have hr := B.returns
  have hts := atoms_spec (ws := w_Trust_feed) B.pre
  have tbin : ∀ w ∈ tb, w ∈ w_Trust_feed := fun w h => List.mem_cons_of_mem _ h
  have htb : ∀ w ∈ tb, w.before _ s = true := fun w h => hts w (tbin w h)
  have hown : s.vm.findClass "TrustChain" = some m.cls := findClass_of_methodNamed B.named
  have hlocks := B.notSynchronized
  subst hsz
  have hD := hD0.self (sz := s.heap.size)
  generalize hAe : va_A [(q0, .inr (10, [.ref fe, .ref ho, .ref ce, .ref li, .ref sh, .ref rs, .ref se, .ref ch, .ref fo, .int foS, .int chS, .int faP, .int (nI k), .int wrP])), (fe, .inl (cB, 2060, .inl f))] s.heap.size = A at hD ⊢
  have hA : ∀ q : Nat, s.heap.size ≤ q → A q := fun q h => by rw [← hAe]; exact Or.inr h
  have hAs : ∀ q : Nat, A q → sb.1 ≤ q := fun q h => by
    rw [← hAe] at h
    rcases h with ⟨k, e, h⟩ | h
    · exact hD0.2 k _ h
    · exact Nat.le_trans hB0 h
  have hS : va_S A s.heap s.heap [] := va_S.rf
  have hcs : 1 ≤ (headSpec w_Trust_feed ({ frames := 6, cells := 1, slots := 6, locals := 104 })).room.cells ∧ 6 ≤ (headSpec w_Trust_feed ({ frames := 6, cells := 1, slots := 6, locals := 104 })).room.slots := ⟨Nat.le_refl _, Nat.le_refl _⟩
  have hP : va_P (dC, dI) classes [(q0, .inr (10, [.ref fe, .ref ho, .ref ce, .ref li, .ref sh, .ref rs, .ref se, .ref ch, .ref fo, .int foS, .int chS, .int faP, .int (nI k), .int wrP])), (fe, .inl (cB, 2060, .inl f))] s.heap := hP
  have hl := lv_entry ([.ref q0, .int x0, .int x1, .int x2, .int x3, .int x4]) (n := 6) (Nat.le_of_ble_eq_true rfl)
  rw [lg_entry_eq]
  generalize (lg_sl ([.ref q0, .int x0, .int x1, .int x2, .int x3, .int x4]) ++ List.replicate (6 - (lg_sl ([.ref q0, .int x0, .int x1, .int x2, .int x3, .int x4])).length) Slot.unset).toArray = ls at hl ⊢
  have hl : lv_has ls 6 [(0, .ref q0), (1, .int x0), (2, .int x1), (3, .int x2), (4, .int x3), (5, .int x4)] := hl
  refine lv_aload_n hx hb d_Trust_feed_0 rfl (lv_at hl 0 rfl) ?_
  refine va_get (v := .int (nI k)) hx hb htb i_Trust hown hK hP 0 rfl rfl 12 (by decide) (htb _ q1_168) (fun _ h9 => h9) rfl d_Trust_feed_1 ?_
  refine lv_sipush (v := 2040) hx hb d_Trust_feed_4 (by decide) ?_
  refine lv_icmp_le (tgt := 20) hx hb d_Trust_feed_7 (by decide) (fun c7 => ?_) (fun c7 => ?_)
  · have hsm : k ≤ 2040 := by rw [show (2040 : Int32) = nI 2040 from rfl, nI_leI (by omega) (by omega)] at c7; omega
    refine lv_aload_n hx hb d_Trust_feed_20 rfl (lv_at hl 0 rfl) ?_
    refine lv_iload_n hx hb d_Trust_feed_21 rfl (lv_at hl 1 rfl) ?_
    have hFc := va_free (wc := [(q0, .inr (10, [.ref fe, .ref ho, .ref ce, .ref li, .ref sh, .ref rs, .ref se, .ref ch, .ref fo, .int foS, .int chS, .int faP, .int (nI k), .int wrP])), (fe, .inl (cB, 2060, .inl f))]) hD hS hA [0, 1] rfl
    refine va_callv (mu_runV (As := [.int x0]) (rest := []) ⟨hx, hb, hml, hown, hts⟩ tbin (c_Trust_takeWord l dC dI sb q0 fe ho ce li sh rs se ch fo foS chS faP wrP cB f k x0 s.heap.size (by omega)) q2_37 q2_39 qp_1 q1_1 q2_40 (n := 1) (by decide +kernel) rfl ⟨rfl, rfl⟩ ⟨Nat.le_of_ble_eq_true rfl, Nat.le_of_ble_eq_true rfl⟩ ⟨Nat.le_of_ble_eq_true rfl, Nat.le_of_ble_eq_true rfl⟩ hN (hT0.keep hS hAs) hAs (Nat.le_trans hB0 hS.1) hK hP hD [0, 1] (by decide) rfl [0] rfl 0 10 rfl rfl rfl hl.1 rfl (Nat.le_of_ble_eq_true rfl) d_Trust_feed_22) hS (fun q _ h => hFc q h) hFc (fun u22 tS H22 locs ht hvm hw22 hB hz1 hk1 hS => ?_)
    skip
    obtain ⟨hP1, hK1, hD1⟩ := hB
    rw [ht] at hP1
    obtain ⟨hP, hD⟩ := va_join (wr := []) (w1 := [(q0, .inr (10, [.ref fe, .ref ho, .ref ce, .ref li, .ref sh, .ref rs, .ref se, .ref ch, .ref fo, .int foS, .int chS, .int faP, .int (nI (k + 4)), .int wrP])), (fe, .inl (cB, 2060, .inl (tw4 f k x0)))]) hP hD [0, 1] [] rfl rfl (by decide) (by decide) hk1 hFc hP1 hD1
    have hP : va_P (dC, dI) classes [(q0, .inr (10, [.ref fe, .ref ho, .ref ce, .ref li, .ref sh, .ref rs, .ref se, .ref ch, .ref fo, .int foS, .int chS, .int faP, .int (nI (k + 4)), .int wrP])), (fe, .inl (cB, 2060, .inl (tw4 f k x0)))] H22 := hP
    have hD : va_D A [(q0, .inr (10, [.ref fe, .ref ho, .ref ce, .ref li, .ref sh, .ref rs, .ref se, .ref ch, .ref fo, .int foS, .int chS, .int faP, .int (nI (k + 4)), .int wrP])), (fe, .inl (cB, 2060, .inl (tw4 f k x0)))] := hD
    have hP : va_P (dC, dI) classes [(q0, .inr (10, [.ref fe, .ref ho, .ref ce, .ref li, .ref sh, .ref rs, .ref se, .ref ch, .ref fo, .int foS, .int chS, .int faP, .int (nI (k + 4)), .int wrP])), (fe, .inl (cB, 2060, .inl (tw4 f k x0)))] H22 := hP
    have hD : va_D A [(q0, .inr (10, [.ref fe, .ref ho, .ref ce, .ref li, .ref sh, .ref rs, .ref se, .ref ch, .ref fo, .int foS, .int chS, .int faP, .int (nI (k + 4)), .int wrP])), (fe, .inl (cB, 2060, .inl (tw4 f k x0)))] := hD
    refine lv_aload_n hx hb d_Trust_feed_25 rfl (lv_at hl 0 rfl) ?_
    refine lv_iload_n hx hb d_Trust_feed_26 rfl (lv_at hl 2 rfl) ?_
    have hFc := va_free (wc := [(q0, .inr (10, [.ref fe, .ref ho, .ref ce, .ref li, .ref sh, .ref rs, .ref se, .ref ch, .ref fo, .int foS, .int chS, .int faP, .int (nI (k + 4)), .int wrP])), (fe, .inl (cB, 2060, .inl (tw4 f k x0)))]) hD hS hA [0, 1] rfl
    refine va_callv (mu_runV (As := [.int x1]) (rest := []) ⟨hx, hb, hml, hown, hts⟩ tbin (c_Trust_takeWord l dC dI sb q0 fe ho ce li sh rs se ch fo foS chS faP wrP cB (tw4 f k x0) (k + 4) x1 H22.size (by omega)) q2_37 q2_39 qp_1 q1_1 q2_40 (n := 1) (by decide +kernel) rfl ⟨rfl, rfl⟩ ⟨Nat.le_of_ble_eq_true rfl, Nat.le_of_ble_eq_true rfl⟩ ⟨Nat.le_of_ble_eq_true rfl, Nat.le_of_ble_eq_true rfl⟩ hN (hT0.keep hS hAs) hAs (Nat.le_trans hB0 hS.1) hK hP hD [0, 1] (by decide) rfl [0] rfl 0 10 rfl rfl rfl hl.1 rfl (Nat.le_of_ble_eq_true rfl) d_Trust_feed_27) hS (fun q _ h => hFc q h) hFc (fun u27 tS H27 locs ht hvm hw27 hB hz1 hk1 hS => ?_)
    skip
    obtain ⟨hP1, hK1, hD1⟩ := hB
    rw [ht] at hP1
    obtain ⟨hP, hD⟩ := va_join (wr := []) (w1 := [(q0, .inr (10, [.ref fe, .ref ho, .ref ce, .ref li, .ref sh, .ref rs, .ref se, .ref ch, .ref fo, .int foS, .int chS, .int faP, .int (nI ((k + 4) + 4)), .int wrP])), (fe, .inl (cB, 2060, .inl (tw4 (tw4 f k x0) (k + 4) x1)))]) hP hD [0, 1] [] rfl rfl (by decide) (by decide) hk1 hFc hP1 hD1
    have hP : va_P (dC, dI) classes [(q0, .inr (10, [.ref fe, .ref ho, .ref ce, .ref li, .ref sh, .ref rs, .ref se, .ref ch, .ref fo, .int foS, .int chS, .int faP, .int (nI ((k + 4) + 4)), .int wrP])), (fe, .inl (cB, 2060, .inl (tw4 (tw4 f k x0) (k + 4) x1)))] H27 := hP
    have hD : va_D A [(q0, .inr (10, [.ref fe, .ref ho, .ref ce, .ref li, .ref sh, .ref rs, .ref se, .ref ch, .ref fo, .int foS, .int chS, .int faP, .int (nI ((k + 4) + 4)), .int wrP])), (fe, .inl (cB, 2060, .inl (tw4 (tw4 f k x0) (k + 4) x1)))] := hD
    have hP : va_P (dC, dI) classes [(q0, .inr (10, [.ref fe, .ref ho, .ref ce, .ref li, .ref sh, .ref rs, .ref se, .ref ch, .ref fo, .int foS, .int chS, .int faP, .int (nI (k + 8)), .int wrP])), (fe, .inl (cB, 2060, .inl (tw4 (tw4 f k x0) (k + 4) x1)))] H27 := hP
    have hD : va_D A [(q0, .inr (10, [.ref fe, .ref ho, .ref ce, .ref li, .ref sh, .ref rs, .ref se, .ref ch, .ref fo, .int foS, .int chS, .int faP, .int (nI (k + 8)), .int wrP])), (fe, .inl (cB, 2060, .inl (tw4 (tw4 f k x0) (k + 4) x1)))] := hD
    refine lv_aload_n hx hb d_Trust_feed_30 rfl (lv_at hl 0 rfl) ?_
    refine lv_iload_n hx hb d_Trust_feed_31 rfl (lv_at hl 3 rfl) ?_
    have hFc := va_free (wc := [(q0, .inr (10, [.ref fe, .ref ho, .ref ce, .ref li, .ref sh, .ref rs, .ref se, .ref ch, .ref fo, .int foS, .int chS, .int faP, .int (nI (k + 8)), .int wrP])), (fe, .inl (cB, 2060, .inl (tw4 (tw4 f k x0) (k + 4) x1)))]) hD hS hA [0, 1] rfl
    refine va_callv (mu_runV (As := [.int x2]) (rest := []) ⟨hx, hb, hml, hown, hts⟩ tbin (c_Trust_takeWord l dC dI sb q0 fe ho ce li sh rs se ch fo foS chS faP wrP cB (tw4 (tw4 f k x0) (k + 4) x1) (k + 8) x2 H27.size (by omega)) q2_37 q2_39 qp_1 q1_1 q2_40 (n := 1) (by decide +kernel) rfl ⟨rfl, rfl⟩ ⟨Nat.le_of_ble_eq_true rfl, Nat.le_of_ble_eq_true rfl⟩ ⟨Nat.le_of_ble_eq_true rfl, Nat.le_of_ble_eq_true rfl⟩ hN (hT0.keep hS hAs) hAs (Nat.le_trans hB0 hS.1) hK hP hD [0, 1] (by decide) rfl [0] rfl 0 10 rfl rfl rfl hl.1 rfl (Nat.le_of_ble_eq_true rfl) d_Trust_feed_32) hS (fun q _ h => hFc q h) hFc (fun u32 tS H32 locs ht hvm hw32 hB hz1 hk1 hS => ?_)
    skip
    obtain ⟨hP1, hK1, hD1⟩ := hB
    rw [ht] at hP1
    obtain ⟨hP, hD⟩ := va_join (wr := []) (w1 := [(q0, .inr (10, [.ref fe, .ref ho, .ref ce, .ref li, .ref sh, .ref rs, .ref se, .ref ch, .ref fo, .int foS, .int chS, .int faP, .int (nI ((k + 8) + 4)), .int wrP])), (fe, .inl (cB, 2060, .inl (tw4 (tw4 (tw4 f k x0) (k + 4) x1) (k + 8) x2)))]) hP hD [0, 1] [] rfl rfl (by decide) (by decide) hk1 hFc hP1 hD1
    have hP : va_P (dC, dI) classes [(q0, .inr (10, [.ref fe, .ref ho, .ref ce, .ref li, .ref sh, .ref rs, .ref se, .ref ch, .ref fo, .int foS, .int chS, .int faP, .int (nI ((k + 8) + 4)), .int wrP])), (fe, .inl (cB, 2060, .inl (tw4 (tw4 (tw4 f k x0) (k + 4) x1) (k + 8) x2)))] H32 := hP
    have hD : va_D A [(q0, .inr (10, [.ref fe, .ref ho, .ref ce, .ref li, .ref sh, .ref rs, .ref se, .ref ch, .ref fo, .int foS, .int chS, .int faP, .int (nI ((k + 8) + 4)), .int wrP])), (fe, .inl (cB, 2060, .inl (tw4 (tw4 (tw4 f k x0) (k + 4) x1) (k + 8) x2)))] := hD
    have hP : va_P (dC, dI) classes [(q0, .inr (10, [.ref fe, .ref ho, .ref ce, .ref li, .ref sh, .ref rs, .ref se, .ref ch, .ref fo, .int foS, .int chS, .int faP, .int (nI (k + 12)), .int wrP])), (fe, .inl (cB, 2060, .inl (tw4 (tw4 (tw4 f k x0) (k + 4) x1) (k + 8) x2)))] H32 := hP
    have hD : va_D A [(q0, .inr (10, [.ref fe, .ref ho, .ref ce, .ref li, .ref sh, .ref rs, .ref se, .ref ch, .ref fo, .int foS, .int chS, .int faP, .int (nI (k + 12)), .int wrP])), (fe, .inl (cB, 2060, .inl (tw4 (tw4 (tw4 f k x0) (k + 4) x1) (k + 8) x2)))] := hD
    refine lv_aload_n hx hb d_Trust_feed_35 rfl (lv_at hl 0 rfl) ?_
    refine lv_iload hx hb d_Trust_feed_36 (lv_at hl 4 rfl) ?_
    have hFc := va_free (wc := [(q0, .inr (10, [.ref fe, .ref ho, .ref ce, .ref li, .ref sh, .ref rs, .ref se, .ref ch, .ref fo, .int foS, .int chS, .int faP, .int (nI (k + 12)), .int wrP])), (fe, .inl (cB, 2060, .inl (tw4 (tw4 (tw4 f k x0) (k + 4) x1) (k + 8) x2)))]) hD hS hA [0, 1] rfl
    refine va_callv (mu_runV (As := [.int x3]) (rest := []) ⟨hx, hb, hml, hown, hts⟩ tbin (c_Trust_takeWord l dC dI sb q0 fe ho ce li sh rs se ch fo foS chS faP wrP cB (tw4 (tw4 (tw4 f k x0) (k + 4) x1) (k + 8) x2) (k + 12) x3 H32.size (by omega)) q2_37 q2_39 qp_1 q1_1 q2_40 (n := 1) (by decide +kernel) rfl ⟨rfl, rfl⟩ ⟨Nat.le_of_ble_eq_true rfl, Nat.le_of_ble_eq_true rfl⟩ ⟨Nat.le_of_ble_eq_true rfl, Nat.le_of_ble_eq_true rfl⟩ hN (hT0.keep hS hAs) hAs (Nat.le_trans hB0 hS.1) hK hP hD [0, 1] (by decide) rfl [0] rfl 0 10 rfl rfl rfl hl.1 rfl (Nat.le_of_ble_eq_true rfl) d_Trust_feed_38) hS (fun q _ h => hFc q h) hFc (fun u38 tS H38 locs ht hvm hw38 hB hz1 hk1 hS => ?_)
    skip
    obtain ⟨hP1, hK1, hD1⟩ := hB
    rw [ht] at hP1
    obtain ⟨hP, hD⟩ := va_join (wr := []) (w1 := [(q0, .inr (10, [.ref fe, .ref ho, .ref ce, .ref li, .ref sh, .ref rs, .ref se, .ref ch, .ref fo, .int foS, .int chS, .int faP, .int (nI ((k + 12) + 4)), .int wrP])), (fe, .inl (cB, 2060, .inl (tw4 (tw4 (tw4 (tw4 f k x0) (k + 4) x1) (k + 8) x2) (k + 12) x3)))]) hP hD [0, 1] [] rfl rfl (by decide) (by decide) hk1 hFc hP1 hD1
    have hP : va_P (dC, dI) classes [(q0, .inr (10, [.ref fe, .ref ho, .ref ce, .ref li, .ref sh, .ref rs, .ref se, .ref ch, .ref fo, .int foS, .int chS, .int faP, .int (nI ((k + 12) + 4)), .int wrP])), (fe, .inl (cB, 2060, .inl (tw4 (tw4 (tw4 (tw4 f k x0) (k + 4) x1) (k + 8) x2) (k + 12) x3)))] H38 := hP
    have hD : va_D A [(q0, .inr (10, [.ref fe, .ref ho, .ref ce, .ref li, .ref sh, .ref rs, .ref se, .ref ch, .ref fo, .int foS, .int chS, .int faP, .int (nI ((k + 12) + 4)), .int wrP])), (fe, .inl (cB, 2060, .inl (tw4 (tw4 (tw4 (tw4 f k x0) (k + 4) x1) (k + 8) x2) (k + 12) x3)))] := hD
    have hP : va_P (dC, dI) classes [(q0, .inr (10, [.ref fe, .ref ho, .ref ce, .ref li, .ref sh, .ref rs, .ref se, .ref ch, .ref fo, .int foS, .int chS, .int faP, .int (nI (k + 16)), .int wrP])), (fe, .inl (cB, 2060, .inl (tw4 (tw4 (tw4 (tw4 f k x0) (k + 4) x1) (k + 8) x2) (k + 12) x3)))] H38 := hP
    have hD : va_D A [(q0, .inr (10, [.ref fe, .ref ho, .ref ce, .ref li, .ref sh, .ref rs, .ref se, .ref ch, .ref fo, .int foS, .int chS, .int faP, .int (nI (k + 16)), .int wrP])), (fe, .inl (cB, 2060, .inl (tw4 (tw4 (tw4 (tw4 f k x0) (k + 4) x1) (k + 8) x2) (k + 12) x3)))] := hD
    refine lv_aload_n hx hb d_Trust_feed_41 rfl (lv_at hl 0 rfl) ?_
    refine lv_iload hx hb d_Trust_feed_42 (lv_at hl 5 rfl) ?_
    have hFc := va_free (wc := [(q0, .inr (10, [.ref fe, .ref ho, .ref ce, .ref li, .ref sh, .ref rs, .ref se, .ref ch, .ref fo, .int foS, .int chS, .int faP, .int (nI (k + 16)), .int wrP])), (fe, .inl (cB, 2060, .inl (tw4 (tw4 (tw4 (tw4 f k x0) (k + 4) x1) (k + 8) x2) (k + 12) x3)))]) hD hS hA [0, 1] rfl
    refine va_callv (mu_runV (As := [.int x4]) (rest := []) ⟨hx, hb, hml, hown, hts⟩ tbin (c_Trust_takeWord l dC dI sb q0 fe ho ce li sh rs se ch fo foS chS faP wrP cB (tw4 (tw4 (tw4 (tw4 f k x0) (k + 4) x1) (k + 8) x2) (k + 12) x3) (k + 16) x4 H38.size (by omega)) q2_37 q2_39 qp_1 q1_1 q2_40 (n := 1) (by decide +kernel) rfl ⟨rfl, rfl⟩ ⟨Nat.le_of_ble_eq_true rfl, Nat.le_of_ble_eq_true rfl⟩ ⟨Nat.le_of_ble_eq_true rfl, Nat.le_of_ble_eq_true rfl⟩ hN (hT0.keep hS hAs) hAs (Nat.le_trans hB0 hS.1) hK hP hD [0, 1] (by decide) rfl [0] rfl 0 10 rfl rfl rfl hl.1 rfl (Nat.le_of_ble_eq_true rfl) d_Trust_feed_44) hS (fun q _ h => hFc q h) hFc (fun u44 tS H44 locs ht hvm hw44 hB hz1 hk1 hS => ?_)
    skip
    obtain ⟨hP1, hK1, hD1⟩ := hB
    rw [ht] at hP1
    obtain ⟨hP, hD⟩ := va_join (wr := []) (w1 := [(q0, .inr (10, [.ref fe, .ref ho, .ref ce, .ref li, .ref sh, .ref rs, .ref se, .ref ch, .ref fo, .int foS, .int chS, .int faP, .int (nI ((k + 16) + 4)), .int wrP])), (fe, .inl (cB, 2060, .inl (tw4 (tw4 (tw4 (tw4 (tw4 f k x0) (k + 4) x1) (k + 8) x2) (k + 12) x3) (k + 16) x4)))]) hP hD [0, 1] [] rfl rfl (by decide) (by decide) hk1 hFc hP1 hD1
    have hP : va_P (dC, dI) classes [(q0, .inr (10, [.ref fe, .ref ho, .ref ce, .ref li, .ref sh, .ref rs, .ref se, .ref ch, .ref fo, .int foS, .int chS, .int faP, .int (nI ((k + 16) + 4)), .int wrP])), (fe, .inl (cB, 2060, .inl (tw4 (tw4 (tw4 (tw4 (tw4 f k x0) (k + 4) x1) (k + 8) x2) (k + 12) x3) (k + 16) x4)))] H44 := hP
    have hD : va_D A [(q0, .inr (10, [.ref fe, .ref ho, .ref ce, .ref li, .ref sh, .ref rs, .ref se, .ref ch, .ref fo, .int foS, .int chS, .int faP, .int (nI ((k + 16) + 4)), .int wrP])), (fe, .inl (cB, 2060, .inl (tw4 (tw4 (tw4 (tw4 (tw4 f k x0) (k + 4) x1) (k + 8) x2) (k + 12) x3) (k + 16) x4)))] := hD
    have hP : va_P (dC, dI) classes [(q0, .inr (10, [.ref fe, .ref ho, .ref ce, .ref li, .ref sh, .ref rs, .ref se, .ref ch, .ref fo, .int foS, .int chS, .int faP, .int (nI (k + 20)), .int wrP])), (fe, .inl (cB, 2060, .inl (tw4 (tw4 (tw4 (tw4 (tw4 f k x0) (k + 4) x1) (k + 8) x2) (k + 12) x3) (k + 16) x4)))] H44 := hP
    have hD : va_D A [(q0, .inr (10, [.ref fe, .ref ho, .ref ce, .ref li, .ref sh, .ref rs, .ref se, .ref ch, .ref fo, .int foS, .int chS, .int faP, .int (nI (k + 20)), .int wrP])), (fe, .inl (cB, 2060, .inl (tw4 (tw4 (tw4 (tw4 (tw4 f k x0) (k + 4) x1) (k + 8) x2) (k + 12) x3) (k + 16) x4)))] := hD
    refine lv_aload_n hx hb d_Trust_feed_47 rfl (lv_at hl 0 rfl) ?_
    refine va_get (v := .int (nI (k + 20))) hx hb htb i_Trust hown hK hP 0 rfl rfl 12 (by decide) (htb _ q1_168) (fun _ h9 => h9) rfl d_Trust_feed_48 ?_
    exact vx_ret (x_wide 1 6 (Nat.le_of_ble_eq_true rfl) (Nat.le_of_ble_eq_true rfl) (W.iret (v := nI (k + 20)) hx hb hr (fun t ht hW => ⟨⟨_, (), rfl, ⟨rfl, hsm⟩, by rw [ht]; exact hP, va_K.moved hW.alike hK, hD⟩, hS.F ht⟩) hS.2.2 d_Trust_feed_51))
  · have hbig : 2040 < k := by rw [show (2040 : Int32) = nI 2040 from rfl, nI_leI (by omega) (by omega)] at c7; omega
    obtain ⟨sa, hsa⟩ := hTh.2.2.1 (76, "more than 2,060 octets") (by decide)
    exact vx_throwS (own := "TrustChain") (cls := "java/lang/IndexOutOfBoundsException") (text := "more than 2,060 octets") (names := xUp) (ik := 74) (is := 76) (ic := 78) (sa := sa) (A := A) hx hb hl0 hown (by decide) (by decide) (htb _ q1_211) (htb _ q1_14) hsa (x_hat x_ot78 x_gd78 x_nw78 htb hN) x_ot78 (hTh.1.narrow hAs) (hTh.2.1.narrow hAs) hS (hl.1.trans hml.symm) d_Trust_feed_10 d_Trust_feed_13 d_Trust_feed_14 d_Trust_feed_16 d_Trust_feed_19 (fun x h => (hnoh x h).elim) (Nat.le_of_ble_eq_true rfl) (Nat.le_of_ble_eq_true rfl) (Nat.le_of_ble_eq_true rfl) (Nat.le_of_ble_eq_true rfl) hlocks (x_end () ⟨rfl, hbig⟩ hP hK hD hS) hS.2.2 (Nat.le_of_ble_eq_true rfl) (Nat.le_of_ble_eq_true rfl)
