/-! The reference's isSigned, exactly. -/
set_option maxHeartbeats 4000000 in
set_option maxRecDepth 100000 in
theorem x_Model_isSigned (l : Launch) (dC : Nat → ClassId) (dI : Nat → Nat → Nat) (sb : sB) (mo t t2 : Nat) (moc msT mrV msP mrA mbA mwA mhA mfA mpA mxA myA mmA mqA mzA mwy mfd : Nat) (mer mfed mwr mct mls mqs msz mcz mch mft mpt mdp mvd mmk : Int32) (mnw : Int64) (x x2 : TD) (a b sg se mm me ex : Nat) (cI : ClassId) (u u2 os om xd yd md zd qd rd : Nat → Nat) (bl g f fif pmf : Nat → Int32) (sz : Nat) (h21 : x.I 21 = nI a) (h22 : x.I 22 = nI b) (h23 : x.I 23 = nI sg) (h24 : x.I 24 = nI se) (g18 : x2.I 18 = nI mm) (g19 : x2.I 19 = nI me) (g20 : x2.I 20 = nI ex) (hab : a ≤ b) (hb9 : b ≤ 2048) (hs1 : 2 ≤ sg) (hs2 : sg ≤ se) (hs3 : se ≤ 2048) (hm1 : 2 ≤ mm) (hm2 : mm ≤ me) (hm3 : me ≤ 2048) (hc62 : 62 ≤ me - mm) (hc256 : me - mm ≤ 256) (he1 : 1 ≤ ex) (he2 : ex < 2 ^ 31) (hN9 : 65536 ≤ (vB 256 om (me - mm))) (hu : ∀ j, u j < 256) (hu2 : ∀ j, u2 j < 256) (hos : ∀ i, i < (se - sg) → os i = u (se - 1 - i)) (hos8 : ∀ i, os i < 256) (hom : ∀ i, i < (me - mm) → om i = u2 (me - 1 - i)) (hom8 : ∀ i, om i < 256) (hxd : ∀ j, xd j < 65536) (hyd : ∀ j, yd j < 65536) (hmd : ∀ j, md j < 65536) (hzd : ∀ j, zd j < 65536) (hqd : ∀ j, qd j < 131072) (hrd : ∀ j, rd j < 65536) (hfi : ∀ j, j < 8 → fif j = s0G j) (hpm : ∀ j, j < 64 → pmf j = r0G j) : Met l y_Model_isSigned w_Model_isSigned ({ frames := 5, cells := 0, slots := 0, locals := 106 }) (mf_P [(t, .inr (13, (.ref (x.A 0) :: .int (x.I 1) :: .int (x.I 2) :: .int (x.I 3) :: .int (x.I 4) :: .int (x.I 5) :: .int (x.I 6) :: .long (x.J 7) :: .long (x.J 8) :: .long (x.J 9) :: .int (x.I 10) :: .int (x.I 11) :: .int (x.I 12) :: .int (x.I 13) :: .int (x.I 14) :: .int (x.I 15) :: .int (x.I 16) :: .int (x.I 17) :: .int (x.I 18) :: .int (x.I 19) :: .int (x.I 20) :: .int (x.I 21) :: .int (x.I 22) :: .int (x.I 23) :: .int (x.I 24) :: .int (x.I 25) :: .int (x.I 26) :: .int (x.I 27) :: .int (x.I 28) :: .int (x.I 29) :: .int (x.I 30) :: .int (x.I 31) :: .int (x.I 32) :: .int (x.I 33) :: .int (x.I 34) :: .int (x.I 35) :: .int (x.I 36) :: .int (x.I 37) :: .int (x.I 38) :: .int (x.I 39) :: .int (x.I 40) :: .int (x.I 41) :: .int (x.I 42) :: .ref (x.A 1) :: .ref (x.A 2) :: .ref (x.A 3) :: .ref (x.A 4) :: .ref (x.A 5) :: .ref (x.A 6) :: .ref (x.A 7) :: .ref (x.A 8) :: .ref (x.A 9) :: .ref (x.A 10) :: .ref (x.A 11) :: []))), ((x.A 0), .inl (cI, 2048, .inl (tI u))), (t2, .inr (13, (.ref (x2.A 0) :: .int (x2.I 1) :: .int (x2.I 2) :: .int (x2.I 3) :: .int (x2.I 4) :: .int (x2.I 5) :: .int (x2.I 6) :: .long (x2.J 7) :: .long (x2.J 8) :: .long (x2.J 9) :: .int (x2.I 10) :: .int (x2.I 11) :: .int (x2.I 12) :: .int (x2.I 13) :: .int (x2.I 14) :: .int (x2.I 15) :: .int (x2.I 16) :: .int (x2.I 17) :: .int (x2.I 18) :: .int (x2.I 19) :: .int (x2.I 20) :: .int (x2.I 21) :: .int (x2.I 22) :: .int (x2.I 23) :: .int (x2.I 24) :: .int (x2.I 25) :: .int (x2.I 26) :: .int (x2.I 27) :: .int (x2.I 28) :: .int (x2.I 29) :: .int (x2.I 30) :: .int (x2.I 31) :: .int (x2.I 32) :: .int (x2.I 33) :: .int (x2.I 34) :: .int (x2.I 35) :: .int (x2.I 36) :: .int (x2.I 37) :: .int (x2.I 38) :: .int (x2.I 39) :: .int (x2.I 40) :: .int (x2.I 41) :: .int (x2.I 42) :: .ref (x2.A 1) :: .ref (x2.A 2) :: .ref (x2.A 3) :: .ref (x2.A 4) :: .ref (x2.A 5) :: .ref (x2.A 6) :: .ref (x2.A 7) :: .ref (x2.A 8) :: .ref (x2.A 9) :: .ref (x2.A 10) :: .ref (x2.A 11) :: []))), ((x2.A 0), .inl (cI, 2048, .inl (tI u2)))] [.ref mo, .ref t, .ref t2] (dC, dI) sb [(mo, .inr (12, (.int mer :: .int mfed :: .int mwr :: .int mct :: .int mls :: .ref moc :: .ref msT :: .ref mrV :: .ref msP :: .int mqs :: .ref mrA :: .ref mbA :: .ref mwA :: .ref mhA :: .ref mfA :: .ref mpA :: .ref mxA :: .ref myA :: .ref mmA :: .ref mqA :: .ref mzA :: .ref mwy :: .ref mfd :: .int msz :: .int mcz :: .int mch :: .int mft :: .int mpt :: .int mdp :: .int mvd :: .long mnw :: .int mmk :: []))), (mxA, .inl (cI, 600, .inl (tI xd))), (myA, .inl (cI, 600, .inl (tI yd))), (mmA, .inl (cI, 600, .inl (tI md))), (mzA, .inl (cI, 600, .inl (tI zd))), (mqA, .inl (cI, 600, .inl (tI qd))), (mrA, .inl (cI, 600, .inl (tI rd))), (mbA, .inl (cI, 2176, .inl bl)), (mwA, .inl (cI, 64, .inl g)), (mhA, .inl (cI, 8, .inl f)), (mfA, .inl (cI, 8, .inl fif)), (mpA, .inl (cI, 64, .inl pmf))] [(cI, .int)] sz) (va_Qi (fun r (v : ((Nat → Nat) × (Nat → Nat) × (Nat → Nat) × (Nat → Nat) × (Nat → Nat) × (Nat → Nat)) × Int32 × ((Nat → Int32) × (Nat → Int32) × (Nat → Int32))) => bz r (sgV (hsV u a b) om (me - mm) os (se - sg) ex) ∧ (∀ j, v.1.1 j < 65536) ∧ (∀ j, v.1.2.1 j < 65536) ∧ (∀ j, v.1.2.2.1 j < 65536) ∧ (∀ j, v.1.2.2.2.1 j < 65536) ∧ (∀ j, v.1.2.2.2.2.1 j < 131072) ∧ (∀ j, v.1.2.2.2.2.2 j < 65536)) (mu_B (dC, dI) [(cI, .int)] (va_A [(mo, .inr (12, (.int mer :: .int mfed :: .int mwr :: .int mct :: .int mls :: .ref moc :: .ref msT :: .ref mrV :: .ref msP :: .int mqs :: .ref mrA :: .ref mbA :: .ref mwA :: .ref mhA :: .ref mfA :: .ref mpA :: .ref mxA :: .ref myA :: .ref mmA :: .ref mqA :: .ref mzA :: .ref mwy :: .ref mfd :: .int msz :: .int mcz :: .int mch :: .int mft :: .int mpt :: .int mdp :: .int mvd :: .long mnw :: .int mmk :: []))), (mxA, .inl (cI, 600, .inl (tI xd))), (myA, .inl (cI, 600, .inl (tI yd))), (mmA, .inl (cI, 600, .inl (tI md))), (mzA, .inl (cI, 600, .inl (tI zd))), (mqA, .inl (cI, 600, .inl (tI qd))), (mrA, .inl (cI, 600, .inl (tI rd))), (mbA, .inl (cI, 2176, .inl bl)), (mwA, .inl (cI, 64, .inl g)), (mhA, .inl (cI, 8, .inl f)), (mfA, .inl (cI, 8, .inl fif)), (mpA, .inl (cI, 64, .inl pmf))] sz) (fun v : ((Nat → Nat) × (Nat → Nat) × (Nat → Nat) × (Nat → Nat) × (Nat → Nat) × (Nat → Nat)) × Int32 × ((Nat → Int32) × (Nat → Int32) × (Nat → Int32)) => [(mo, .inr (12, (.int mer :: .int mfed :: .int mwr :: .int mct :: .int mls :: .ref moc :: .ref msT :: .ref mrV :: .ref msP :: .int v.2.1 :: .ref mrA :: .ref mbA :: .ref mwA :: .ref mhA :: .ref mfA :: .ref mpA :: .ref mxA :: .ref myA :: .ref mmA :: .ref mqA :: .ref mzA :: .ref mwy :: .ref mfd :: .int msz :: .int mcz :: .int mch :: .int mft :: .int mpt :: .int mdp :: .int mvd :: .long mnw :: .int mmk :: []))), (mxA, .inl (cI, 600, .inl (tI v.1.1))), (myA, .inl (cI, 600, .inl (tI v.1.2.1))), (mmA, .inl (cI, 600, .inl (tI v.1.2.2.1))), (mzA, .inl (cI, 600, .inl (tI v.1.2.2.2.1))), (mqA, .inl (cI, 600, .inl (tI v.1.2.2.2.2.1))), (mrA, .inl (cI, 600, .inl (tI v.1.2.2.2.2.2))), (mbA, .inl (cI, 2176, .inl v.2.2.1)), (mwA, .inl (cI, 64, .inl v.2.2.2.1)), (mhA, .inl (cI, 8, .inl v.2.2.2.2)), (mfA, .inl (cI, 8, .inl fif)), (mpA, .inl (cI, 64, .inl pmf))])) (va_A [(mo, .inr (12, (.int mer :: .int mfed :: .int mwr :: .int mct :: .int mls :: .ref moc :: .ref msT :: .ref mrV :: .ref msP :: .int mqs :: .ref mrA :: .ref mbA :: .ref mwA :: .ref mhA :: .ref mfA :: .ref mpA :: .ref mxA :: .ref myA :: .ref mmA :: .ref mqA :: .ref mzA :: .ref mwy :: .ref mfd :: .int msz :: .int mcz :: .int mch :: .int mft :: .int mpt :: .int mdp :: .int mvd :: .long mnw :: .int mmk :: []))), (mxA, .inl (cI, 600, .inl (tI xd))), (myA, .inl (cI, 600, .inl (tI yd))), (mmA, .inl (cI, 600, .inl (tI md))), (mzA, .inl (cI, 600, .inl (tI zd))), (mqA, .inl (cI, 600, .inl (tI qd))), (mrA, .inl (cI, 600, .inl (tI rd))), (mbA, .inl (cI, 2176, .inl bl)), (mwA, .inl (cI, 64, .inl g)), (mhA, .inl (cI, 8, .inl f)), (mfA, .inl (cI, 8, .inl fif)), (mpA, .inl (cI, 64, .inl pmf))] sz)) 0 0 (va_A [(mo, .inr (12, (.int mer :: .int mfed :: .int mwr :: .int mct :: .int mls :: .ref moc :: .ref msT :: .ref mrV :: .ref msP :: .int mqs :: .ref mrA :: .ref mbA :: .ref mwA :: .ref mhA :: .ref mfA :: .ref mpA :: .ref mxA :: .ref myA :: .ref mmA :: .ref mqA :: .ref mzA :: .ref mwy :: .ref mfd :: .int msz :: .int mcz :: .int mch :: .int mft :: .int mpt :: .int mdp :: .int mvd :: .long mnw :: .int mmk :: []))), (mxA, .inl (cI, 600, .inl (tI xd))), (myA, .inl (cI, 600, .inl (tI yd))), (mmA, .inl (cI, 600, .inl (tI md))), (mzA, .inl (cI, 600, .inl (tI zd))), (mqA, .inl (cI, 600, .inl (tI qd))), (mrA, .inl (cI, 600, .inl (tI rd))), (mbA, .inl (cI, 2176, .inl bl)), (mwA, .inl (cI, 64, .inl g)), (mhA, .inl (cI, 8, .inl f)), (mfA, .inl (cI, 8, .inl fif)), (mpA, .inl (cI, 64, .inl pmf))] sz) := by
  refine Met.ofW (cc := b_Model_isSigned) (maxL := 14) (ret := (some FieldType.boolean)) (by decide) rfl ?_
  intro p e s m args below meth c s₁ B hml hv
  obtain ⟨⟨rfl, hsz, hB0, hP, hK, hD0, hN, hT0⟩, hF0, hFA0⟩ := hv
  have hx := B.exec
  have hb := B.bytes
  have hr := B.returns
  have hts := atoms_spec (ws := w_Model_isSigned) B.pre
  have tbin : ∀ w ∈ tb, w ∈ w_Model_isSigned := fun w h => List.mem_cons_of_mem _ h
  have htb : ∀ w ∈ tb, w.before _ s = true := fun w h => hts w (tbin w h)
  have hown : s.vm.findClass "TrustChainModel" = some m.cls := findClass_of_methodNamed B.named
  have hlocks := B.notSynchronized
  subst hsz
  have hD := hD0.self (sz := s.heap.size)
  generalize hAe : va_A [(mo, .inr (12, (.int mer :: .int mfed :: .int mwr :: .int mct :: .int mls :: .ref moc :: .ref msT :: .ref mrV :: .ref msP :: .int mqs :: .ref mrA :: .ref mbA :: .ref mwA :: .ref mhA :: .ref mfA :: .ref mpA :: .ref mxA :: .ref myA :: .ref mmA :: .ref mqA :: .ref mzA :: .ref mwy :: .ref mfd :: .int msz :: .int mcz :: .int mch :: .int mft :: .int mpt :: .int mdp :: .int mvd :: .long mnw :: .int mmk :: []))), (mxA, .inl (cI, 600, .inl (tI xd))), (myA, .inl (cI, 600, .inl (tI yd))), (mmA, .inl (cI, 600, .inl (tI md))), (mzA, .inl (cI, 600, .inl (tI zd))), (mqA, .inl (cI, 600, .inl (tI qd))), (mrA, .inl (cI, 600, .inl (tI rd))), (mbA, .inl (cI, 2176, .inl bl)), (mwA, .inl (cI, 64, .inl g)), (mhA, .inl (cI, 8, .inl f)), (mfA, .inl (cI, 8, .inl fif)), (mpA, .inl (cI, 64, .inl pmf))] s.heap.size = A at hD hFA0 ⊢
  have hA : ∀ q : Nat, s.heap.size ≤ q → A q := fun q h => by rw [← hAe]; exact Or.inr h
  have hAs : ∀ q : Nat, A q → sb.1 ≤ q := fun q h => by
    rw [← hAe] at h
    rcases h with ⟨k, e, h⟩ | h
    · exact hD0.2 k _ h
    · exact Nat.le_trans hB0 h
  have hS : va_S A s.heap s.heap [] := va_S.rf
  have hcs : 0 ≤ (headSpec w_Model_isSigned ({ frames := 5, cells := 0, slots := 0, locals := 106 })).room.cells ∧ 0 ≤ (headSpec w_Model_isSigned ({ frames := 5, cells := 0, slots := 0, locals := 106 })).room.slots := ⟨Nat.le_refl _, Nat.le_refl _⟩
  have hP : va_P (dC, dI) classes [(mo, .inr (12, (.int mer :: .int mfed :: .int mwr :: .int mct :: .int mls :: .ref moc :: .ref msT :: .ref mrV :: .ref msP :: .int mqs :: .ref mrA :: .ref mbA :: .ref mwA :: .ref mhA :: .ref mfA :: .ref mpA :: .ref mxA :: .ref myA :: .ref mmA :: .ref mqA :: .ref mzA :: .ref mwy :: .ref mfd :: .int msz :: .int mcz :: .int mch :: .int mft :: .int mpt :: .int mdp :: .int mvd :: .long mnw :: .int mmk :: []))), (mxA, .inl (cI, 600, .inl (tI xd))), (myA, .inl (cI, 600, .inl (tI yd))), (mmA, .inl (cI, 600, .inl (tI md))), (mzA, .inl (cI, 600, .inl (tI zd))), (mqA, .inl (cI, 600, .inl (tI qd))), (mrA, .inl (cI, 600, .inl (tI rd))), (mbA, .inl (cI, 2176, .inl bl)), (mwA, .inl (cI, 64, .inl g)), (mhA, .inl (cI, 8, .inl f)), (mfA, .inl (cI, 8, .inl fif)), (mpA, .inl (cI, 64, .inl pmf))] s.heap := hP
  have hl := lv_entry ([.ref mo, .ref t, .ref t2]) (n := 14) (Nat.le_of_ble_eq_true rfl)
  rw [lg_entry_eq]
  generalize (lg_sl ([.ref mo, .ref t, .ref t2]) ++ List.replicate (14 - (lg_sl ([.ref mo, .ref t, .ref t2])).length) Slot.unset).toArray = ls at hl ⊢
  have hl : lv_has ls 14 [(0, .ref mo), (1, .ref t), (2, .ref t2)] := hl
  refine lv_aload_n hx hb d_Model_isSigned_0 rfl (lv_at hl 2 rfl) ?_
  refine va_get (v := .int (x2.I 19)) hx hb htb i_Text hown hK (mf_keep hF0 hFA0 hS) 2 rfl rfl 19 (by decide) (htb _ q6_211) (fun _ h9 => h9) rfl d_Model_isSigned_1 ?_
  refine lv_topi (fun x4 e4 => ?_)
  obtain rfl : x4 = nI me := e4.trans g19
  refine lv_aload_n hx hb d_Model_isSigned_4 rfl (lv_at hl 2 rfl) ?_
  refine va_get (v := .int (x2.I 18)) hx hb htb i_Text hown hK (mf_keep hF0 hFA0 hS) 2 rfl rfl 18 (by decide) (htb _ q6_209) (fun _ h9 => h9) rfl d_Model_isSigned_5 ?_
  refine lv_topi (fun x8 e8 => ?_)
  obtain rfl : x8 = nI mm := e8.trans g18
  refine lv_isub hx hb d_Model_isSigned_8 ?_
  rw [show ((nI me) - (nI mm) : Int32) = nI (me - mm) from pk_sub (a := me) (b := mm) (by omega)]
  refine lv_istore_n (lv' := [(3, .int (nI (me - mm))), (0, .ref mo), (1, .ref t), (2, .ref t2)]) hx hb d_Model_isSigned_9 rfl hl (by decide) rfl (fun ls hl => ?_)
  refine lv_aload_n hx hb d_Model_isSigned_10 rfl (lv_at hl 2 rfl) ?_
  refine va_get (v := .int (x.I 24)) hx hb htb i_Text hown hK (mf_keep hF0 hFA0 hS) 0 rfl rfl 24 (by decide) (htb _ q6_220) (fun _ h9 => h9) rfl d_Model_isSigned_11 ?_
  refine lv_topi (fun x14 e14 => ?_)
  obtain rfl : x14 = nI se := e14.trans h24
  refine lv_aload_n hx hb d_Model_isSigned_14 rfl (lv_at hl 2 rfl) ?_
  refine va_get (v := .int (x.I 23)) hx hb htb i_Text hown hK (mf_keep hF0 hFA0 hS) 0 rfl rfl 23 (by decide) (htb _ q6_218) (fun _ h9 => h9) rfl d_Model_isSigned_15 ?_
  refine lv_topi (fun x18 e18 => ?_)
  obtain rfl : x18 = nI sg := e18.trans h23
  refine lv_isub hx hb d_Model_isSigned_18 ?_
  rw [show ((nI se) - (nI sg) : Int32) = nI (se - sg) from pk_sub (a := se) (b := sg) (by omega)]
  refine lv_iload_n hx hb d_Model_isSigned_19 rfl (lv_at hl 0 rfl) ?_
  refine lv_icmp_eq (tgt := 25) hx hb d_Model_isSigned_20 (by decide) (fun c20 => ?_) (fun c20 => ?_)
  · have p20 : (se - sg) = (me - mm) := ((nI_eq (a := (se - sg)) (b := (me - mm)) (by omega) (by omega)).mp c20)
    refine lv_aload_n hx hb d_Model_isSigned_25 rfl (lv_at hl 3 rfl) ?_
    refine lv_aload_n hx hb d_Model_isSigned_26 rfl (lv_at hl 3 rfl) ?_
    refine va_get (v := .int (x2.I 18)) hx hb htb i_Text hown hK (mf_keep hF0 hFA0 hS) 2 rfl rfl 18 (by decide) (htb _ q6_209) (fun _ h9 => h9) rfl d_Model_isSigned_27 ?_
    refine lv_topi (fun x30 e30 => ?_)
    obtain rfl : x30 = nI mm := e30.trans g18
    refine lv_aload_n hx hb d_Model_isSigned_30 rfl (lv_at hl 3 rfl) ?_
    refine va_get (v := .int (x2.I 19)) hx hb htb i_Text hown hK (mf_keep hF0 hFA0 hS) 2 rfl rfl 19 (by decide) (htb _ q6_211) (fun _ h9 => h9) rfl d_Model_isSigned_31 ?_
    refine lv_topi (fun x34 e34 => ?_)
    obtain rfl : x34 = nI me := e34.trans g19
    refine lv_aload_n hx hb d_Model_isSigned_34 rfl (lv_at hl 1 rfl) ?_
    refine va_get (v := .ref mmA) hx hb htb i_Model hown hK hP 0 rfl rfl 18 (by decide) (htb _ q7_232) (fun _ h9 => h9) rfl d_Model_isSigned_35 ?_
    have hFc := va_free (wc := [(mmA, .inl (cI, 600, .inl (tI md)))]) hD hS hA [3] rfl
    refine va_calli (mf_runS (As := [.ref t2, .int (nI mm), .int (nI me), .ref mmA]) (rest := []) ⟨hx, hb, hml, hown, hts⟩ tbin (x_Model_limbs l dC dI sb t2 mmA x2 mm me cI u2 om md s.heap.size hm1 hm2 hm3 (by omega) hu2 hom hom8 hmd) ((mf_keep hF0 hFA0 hS).sub [2, 3] rfl) (mf_fr [2, 3] rfl hFA0 hFc) q9_100 q9_101 q1_9 q9_102 (n := 4) (by decide +kernel) rfl ⟨rfl, rfl⟩ ⟨Nat.le_of_ble_eq_true rfl, Nat.le_of_ble_eq_true rfl⟩ ⟨Nat.le_of_ble_eq_true rfl, Nat.le_of_ble_eq_true rfl⟩ hN (hT0.keep hS hAs) hAs (Nat.le_trans hB0 hS.1) hK hP hD [3] (by decide) rfl [0] rfl hl.1 rfl (Nat.le_of_ble_eq_true rfl) d_Model_isSigned_38) hS (fun q _ h => hFc q h) hFc (fun r38 u38 tS H38 locs ht hvm hw38 hB hz1 hk1 hS => ?_)
    obtain ⟨k38, m38⟩ := u38
    obtain ⟨hP1, hK1, hD1⟩ := hB
    rw [ht] at hP1
    obtain ⟨hP, hD⟩ := va_join (wr := [(mo, .inr (12, (.int mer :: .int mfed :: .int mwr :: .int mct :: .int mls :: .ref moc :: .ref msT :: .ref mrV :: .ref msP :: .int mqs :: .ref mrA :: .ref mbA :: .ref mwA :: .ref mhA :: .ref mfA :: .ref mpA :: .ref mxA :: .ref myA :: .ref mmA :: .ref mqA :: .ref mzA :: .ref mwy :: .ref mfd :: .int msz :: .int mcz :: .int mch :: .int mft :: .int mpt :: .int mdp :: .int mvd :: .long mnw :: .int mmk :: []))), (mxA, .inl (cI, 600, .inl (tI xd))), (myA, .inl (cI, 600, .inl (tI yd))), (mzA, .inl (cI, 600, .inl (tI zd))), (mqA, .inl (cI, 600, .inl (tI qd))), (mrA, .inl (cI, 600, .inl (tI rd))), (mbA, .inl (cI, 2176, .inl bl)), (mwA, .inl (cI, 64, .inl g)), (mhA, .inl (cI, 8, .inl f)), (mfA, .inl (cI, 8, .inl fif)), (mpA, .inl (cI, 64, .inl pmf))]) (w1 := [(mmA, .inl (cI, 600, .inl (tI m38)))]) hP hD [3] [0, 1, 2, 4, 5, 6, 7, 8, 9, 10, 11] rfl rfl (by decide) (by decide) hk1 hFc hP1 hD1
    have hP : va_P (dC, dI) classes [(mo, .inr (12, (.int mer :: .int mfed :: .int mwr :: .int mct :: .int mls :: .ref moc :: .ref msT :: .ref mrV :: .ref msP :: .int mqs :: .ref mrA :: .ref mbA :: .ref mwA :: .ref mhA :: .ref mfA :: .ref mpA :: .ref mxA :: .ref myA :: .ref mmA :: .ref mqA :: .ref mzA :: .ref mwy :: .ref mfd :: .int msz :: .int mcz :: .int mch :: .int mft :: .int mpt :: .int mdp :: .int mvd :: .long mnw :: .int mmk :: []))), (mxA, .inl (cI, 600, .inl (tI xd))), (myA, .inl (cI, 600, .inl (tI yd))), (mzA, .inl (cI, 600, .inl (tI zd))), (mqA, .inl (cI, 600, .inl (tI qd))), (mrA, .inl (cI, 600, .inl (tI rd))), (mbA, .inl (cI, 2176, .inl bl)), (mwA, .inl (cI, 64, .inl g)), (mhA, .inl (cI, 8, .inl f)), (mfA, .inl (cI, 8, .inl fif)), (mpA, .inl (cI, 64, .inl pmf)), (mmA, .inl (cI, 600, .inl (tI m38)))] H38 := hP
    have hD : va_D A [(mo, .inr (12, (.int mer :: .int mfed :: .int mwr :: .int mct :: .int mls :: .ref moc :: .ref msT :: .ref mrV :: .ref msP :: .int mqs :: .ref mrA :: .ref mbA :: .ref mwA :: .ref mhA :: .ref mfA :: .ref mpA :: .ref mxA :: .ref myA :: .ref mmA :: .ref mqA :: .ref mzA :: .ref mwy :: .ref mfd :: .int msz :: .int mcz :: .int mch :: .int mft :: .int mpt :: .int mdp :: .int mvd :: .long mnw :: .int mmk :: []))), (mxA, .inl (cI, 600, .inl (tI xd))), (myA, .inl (cI, 600, .inl (tI yd))), (mzA, .inl (cI, 600, .inl (tI zd))), (mqA, .inl (cI, 600, .inl (tI qd))), (mrA, .inl (cI, 600, .inl (tI rd))), (mbA, .inl (cI, 2176, .inl bl)), (mwA, .inl (cI, 64, .inl g)), (mhA, .inl (cI, 8, .inl f)), (mfA, .inl (cI, 8, .inl fif)), (mpA, .inl (cI, 64, .inl pmf)), (mmA, .inl (cI, 600, .inl (tI m38)))] := hD
    rw [show (r38 : Int32) = nI k38 from hw38.1]
    have hm38 := hw38.2.2.2.2
    have hl38 := hw38.2.1
    have hk38 : 2 ≤ k38 := Classical.byContradiction (fun q9 => by
      have h9 := vB_lt (B := 65536) (d := m38) k38 (fun j _ => hm38 j)
      have h8 : 65536 ^ k38 ≤ 65536 ^ 1 := Nat.pow_le_pow_right (by decide) (by omega)
      rw [hw38.2.2.2.1] at h9
      rw [Nat.pow_one] at h8
      exact absurd (Nat.lt_of_lt_of_le h9 h8) (Nat.not_lt.mpr hN9))
    have hb38 : m38 (k38 - 1) ≠ 0 := by
      rcases hw38.2.2.1 with q9 | q9
      · omega
      · exact q9
    clear hFc
    refine lv_istore (lv' := [(4, .int (nI k38)), (3, .int (nI (me - mm))), (0, .ref mo), (1, .ref t), (2, .ref t2)]) hx hb d_Model_isSigned_41 hl (by decide) rfl (fun ls hl => ?_)
    refine lv_aload_n hx hb d_Model_isSigned_43 rfl (lv_at hl 3 rfl) ?_
    refine lv_aload_n hx hb d_Model_isSigned_44 rfl (lv_at hl 3 rfl) ?_
    refine va_get (v := .int (x.I 23)) hx hb htb i_Text hown hK (mf_keep hF0 hFA0 hS) 0 rfl rfl 23 (by decide) (htb _ q6_218) (fun _ h9 => h9) rfl d_Model_isSigned_45 ?_
    refine lv_topi (fun x48 e48 => ?_)
    obtain rfl : x48 = nI sg := e48.trans h23
    refine lv_aload_n hx hb d_Model_isSigned_48 rfl (lv_at hl 3 rfl) ?_
    refine va_get (v := .int (x.I 24)) hx hb htb i_Text hown hK (mf_keep hF0 hFA0 hS) 0 rfl rfl 24 (by decide) (htb _ q6_220) (fun _ h9 => h9) rfl d_Model_isSigned_49 ?_
    refine lv_topi (fun x52 e52 => ?_)
    obtain rfl : x52 = nI se := e52.trans h24
    refine lv_aload_n hx hb d_Model_isSigned_52 rfl (lv_at hl 2 rfl) ?_
    refine va_get (v := .ref mxA) hx hb htb i_Model hown hK hP 0 rfl rfl 16 (by decide) (htb _ q7_230) (fun _ h9 => h9) rfl d_Model_isSigned_53 ?_
    have hFc := va_free (wc := [(mxA, .inl (cI, 600, .inl (tI xd)))]) hD hS hA [1] rfl
    refine va_calli (mf_runS (As := [.ref t, .int (nI sg), .int (nI se), .ref mxA]) (rest := []) ⟨hx, hb, hml, hown, hts⟩ tbin (x_Model_limbs l dC dI sb t mxA x sg se cI u os xd H38.size hs1 hs2 hs3 (by omega) hu hos hos8 hxd) ((mf_keep hF0 hFA0 hS).sub [0, 1] rfl) (mf_fr [0, 1] rfl hFA0 hFc) q9_100 q9_101 q1_9 q9_102 (n := 4) (by decide +kernel) rfl ⟨rfl, rfl⟩ ⟨Nat.le_of_ble_eq_true rfl, Nat.le_of_ble_eq_true rfl⟩ ⟨Nat.le_of_ble_eq_true rfl, Nat.le_of_ble_eq_true rfl⟩ hN (hT0.keep hS hAs) hAs (Nat.le_trans hB0 hS.1) hK hP hD [1] (by decide) rfl [0] rfl hl.1 rfl (Nat.le_of_ble_eq_true rfl) d_Model_isSigned_56) hS (fun q _ h => hFc q h) hFc (fun r56 u56 tS H56 locs ht hvm hw56 hB hz1 hk1 hS => ?_)
    obtain ⟨k56, m56⟩ := u56
    obtain ⟨hP1, hK1, hD1⟩ := hB
    rw [ht] at hP1
    obtain ⟨hP, hD⟩ := va_join (wr := [(mo, .inr (12, (.int mer :: .int mfed :: .int mwr :: .int mct :: .int mls :: .ref moc :: .ref msT :: .ref mrV :: .ref msP :: .int mqs :: .ref mrA :: .ref mbA :: .ref mwA :: .ref mhA :: .ref mfA :: .ref mpA :: .ref mxA :: .ref myA :: .ref mmA :: .ref mqA :: .ref mzA :: .ref mwy :: .ref mfd :: .int msz :: .int mcz :: .int mch :: .int mft :: .int mpt :: .int mdp :: .int mvd :: .long mnw :: .int mmk :: []))), (myA, .inl (cI, 600, .inl (tI yd))), (mzA, .inl (cI, 600, .inl (tI zd))), (mqA, .inl (cI, 600, .inl (tI qd))), (mrA, .inl (cI, 600, .inl (tI rd))), (mbA, .inl (cI, 2176, .inl bl)), (mwA, .inl (cI, 64, .inl g)), (mhA, .inl (cI, 8, .inl f)), (mfA, .inl (cI, 8, .inl fif)), (mpA, .inl (cI, 64, .inl pmf)), (mmA, .inl (cI, 600, .inl (tI m38)))]) (w1 := [(mxA, .inl (cI, 600, .inl (tI m56)))]) hP hD [1] [0, 2, 3, 4, 5, 6, 7, 8, 9, 10, 11] rfl rfl (by decide) (by decide) hk1 hFc hP1 hD1
    have hP : va_P (dC, dI) classes [(mo, .inr (12, (.int mer :: .int mfed :: .int mwr :: .int mct :: .int mls :: .ref moc :: .ref msT :: .ref mrV :: .ref msP :: .int mqs :: .ref mrA :: .ref mbA :: .ref mwA :: .ref mhA :: .ref mfA :: .ref mpA :: .ref mxA :: .ref myA :: .ref mmA :: .ref mqA :: .ref mzA :: .ref mwy :: .ref mfd :: .int msz :: .int mcz :: .int mch :: .int mft :: .int mpt :: .int mdp :: .int mvd :: .long mnw :: .int mmk :: []))), (myA, .inl (cI, 600, .inl (tI yd))), (mzA, .inl (cI, 600, .inl (tI zd))), (mqA, .inl (cI, 600, .inl (tI qd))), (mrA, .inl (cI, 600, .inl (tI rd))), (mbA, .inl (cI, 2176, .inl bl)), (mwA, .inl (cI, 64, .inl g)), (mhA, .inl (cI, 8, .inl f)), (mfA, .inl (cI, 8, .inl fif)), (mpA, .inl (cI, 64, .inl pmf)), (mmA, .inl (cI, 600, .inl (tI m38))), (mxA, .inl (cI, 600, .inl (tI m56)))] H56 := hP
    have hD : va_D A [(mo, .inr (12, (.int mer :: .int mfed :: .int mwr :: .int mct :: .int mls :: .ref moc :: .ref msT :: .ref mrV :: .ref msP :: .int mqs :: .ref mrA :: .ref mbA :: .ref mwA :: .ref mhA :: .ref mfA :: .ref mpA :: .ref mxA :: .ref myA :: .ref mmA :: .ref mqA :: .ref mzA :: .ref mwy :: .ref mfd :: .int msz :: .int mcz :: .int mch :: .int mft :: .int mpt :: .int mdp :: .int mvd :: .long mnw :: .int mmk :: []))), (myA, .inl (cI, 600, .inl (tI yd))), (mzA, .inl (cI, 600, .inl (tI zd))), (mqA, .inl (cI, 600, .inl (tI qd))), (mrA, .inl (cI, 600, .inl (tI rd))), (mbA, .inl (cI, 2176, .inl bl)), (mwA, .inl (cI, 64, .inl g)), (mhA, .inl (cI, 8, .inl f)), (mfA, .inl (cI, 8, .inl fif)), (mpA, .inl (cI, 64, .inl pmf)), (mmA, .inl (cI, 600, .inl (tI m38))), (mxA, .inl (cI, 600, .inl (tI m56)))] := hD
    rw [show (r56 : Int32) = nI k56 from hw56.1]
    have hx56 := hw56.2.2.2.2
    have hl56 := hw56.2.1
    refine lv_istore (lv' := [(5, .int (nI k56)), (4, .int (nI k38)), (3, .int (nI (me - mm))), (0, .ref mo), (1, .ref t), (2, .ref t2)]) hx hb d_Model_isSigned_59 hl (by decide) rfl (fun ls hl => ?_)
    refine lv_iconst (v := 1) hx hb d_Model_isSigned_61 (by decide) ?_
    refine lv_istore (lv' := [(6, .int 1), (5, .int (nI k56)), (4, .int (nI k38)), (3, .int (nI (me - mm))), (0, .ref mo), (1, .ref t), (2, .ref t2)]) hx hb d_Model_isSigned_62 hl (by decide) rfl (fun ls hl => ?_)
    refine lv_aload_n hx hb d_Model_isSigned_64 rfl (lv_at hl 4 rfl) ?_
    refine va_get (v := .ref mxA) hx hb htb i_Model hown hK hP 0 rfl rfl 16 (by decide) (htb _ q7_230) (fun _ h9 => h9) rfl d_Model_isSigned_65 ?_
    refine lv_iload hx hb d_Model_isSigned_68 (lv_at hl 1 rfl) ?_
    refine lv_aload_n hx hb d_Model_isSigned_70 rfl (lv_at hl 4 rfl) ?_
    refine va_get (v := .ref mmA) hx hb htb i_Model hown hK hP 0 rfl rfl 18 (by decide) (htb _ q7_232) (fun _ h9 => h9) rfl d_Model_isSigned_71 ?_
    refine lv_iload hx hb d_Model_isSigned_74 (lv_at hl 2 rfl) ?_
    refine vp_callSi (pu_callS (As := [.ref mxA, .int (nI k56), .ref mmA, .int (nI k38)]) (rest := []) ⟨hx, hb, hml, hown, hts⟩ tbin (x_Model_compared l dC dI sb mxA mmA k56 k38 cI m56 m38 (by omega) (by omega) hx56 hm38 hw56.2.2.1 (Or.inr hb38)) q9_106 q9_107 q1_9 q9_108 (n := 4) (by decide +kernel) rfl ⟨rfl, rfl⟩ ⟨Nat.le_of_ble_eq_true rfl, Nat.le_of_ble_eq_true rfl⟩ ⟨Nat.le_of_ble_eq_true rfl, Nat.le_of_ble_eq_true rfl⟩ hN (hT0.keep hS hAs) hK hP [11, 10] rfl [0] rfl hl.1 rfl (Nat.le_of_ble_eq_true rfl) d_Model_isSigned_76) (fun r76 hr76 => ?_)
    refine lv_if_lt (tgt := 84) hx hb d_Model_isSigned_79 (by decide) (fun c79 => ?_) (fun c79 => ?_)
    · have p79 : r76 < (0 : Int32) := c79
      refine lv_aload_n hx hb d_Model_isSigned_84 rfl (lv_at hl 4 rfl) ?_
      refine va_get (v := .ref myA) hx hb htb i_Model hown hK hP 0 rfl rfl 17 (by decide) (htb _ q7_231) (fun _ h9 => h9) rfl d_Model_isSigned_85 ?_
      refine lv_iconst (v := 0) hx hb d_Model_isSigned_88 (by decide) ?_
      refine lv_iconst (v := 1) hx hb d_Model_isSigned_89 (by decide) ?_
      have h90 : vp_in (0 : Int32) 600 := by unfold vp_in; decide
      refine va_iast hx hb hK hP hD hS 1 0 rfl rfl h90 d_Model_isSigned_90 (fun H90 locs hP hD hS => ?_)
      rw [show (0 : Int32).toNatClampNeg = 0 from by decide, show (1 : Int32) = nI 1 from rfl, tI_up] at hP hD
      have hP : va_P (dC, dI) classes [(mo, .inr (12, (.int mer :: .int mfed :: .int mwr :: .int mct :: .int mls :: .ref moc :: .ref msT :: .ref mrV :: .ref msP :: .int mqs :: .ref mrA :: .ref mbA :: .ref mwA :: .ref mhA :: .ref mfA :: .ref mpA :: .ref mxA :: .ref myA :: .ref mmA :: .ref mqA :: .ref mzA :: .ref mwy :: .ref mfd :: .int msz :: .int mcz :: .int mch :: .int mft :: .int mpt :: .int mdp :: .int mvd :: .long mnw :: .int mmk :: []))), (myA, .inl (cI, 600, .inl (tI (updN yd 0 1)))), (mzA, .inl (cI, 600, .inl (tI zd))), (mqA, .inl (cI, 600, .inl (tI qd))), (mrA, .inl (cI, 600, .inl (tI rd))), (mbA, .inl (cI, 2176, .inl bl)), (mwA, .inl (cI, 64, .inl g)), (mhA, .inl (cI, 8, .inl f)), (mfA, .inl (cI, 8, .inl fif)), (mpA, .inl (cI, 64, .inl pmf)), (mmA, .inl (cI, 600, .inl (tI m38))), (mxA, .inl (cI, 600, .inl (tI m56)))] H90 := hP
      have hD : va_D A [(mo, .inr (12, (.int mer :: .int mfed :: .int mwr :: .int mct :: .int mls :: .ref moc :: .ref msT :: .ref mrV :: .ref msP :: .int mqs :: .ref mrA :: .ref mbA :: .ref mwA :: .ref mhA :: .ref mfA :: .ref mpA :: .ref mxA :: .ref myA :: .ref mmA :: .ref mqA :: .ref mzA :: .ref mwy :: .ref mfd :: .int msz :: .int mcz :: .int mch :: .int mft :: .int mpt :: .int mdp :: .int mvd :: .long mnw :: .int mmk :: []))), (myA, .inl (cI, 600, .inl (tI (updN yd 0 1)))), (mzA, .inl (cI, 600, .inl (tI zd))), (mqA, .inl (cI, 600, .inl (tI qd))), (mrA, .inl (cI, 600, .inl (tI rd))), (mbA, .inl (cI, 2176, .inl bl)), (mwA, .inl (cI, 64, .inl g)), (mhA, .inl (cI, 8, .inl f)), (mfA, .inl (cI, 8, .inl fif)), (mpA, .inl (cI, 64, .inl pmf)), (mmA, .inl (cI, 600, .inl (tI m38))), (mxA, .inl (cI, 600, .inl (tI m56)))] := hD
      refine lv_bipush (v := 31) hx hb d_Model_isSigned_91 (by decide) ?_
      refine lv_aload_n hx hb d_Model_isSigned_93 rfl (lv_at hl 6 rfl) ?_
      refine va_get (v := .int (x2.I 20)) hx hb htb i_Text hown hK (mf_keep hF0 hFA0 hS) 2 rfl rfl 20 (by decide) (htb _ q6_213) (fun _ h9 => h9) rfl d_Model_isSigned_94 ?_
      refine lv_topi (fun x97 e97 => ?_)
      obtain rfl : x97 = nI ex := e97.trans g20
      refine vp_callSi (pu_callS (As := [.int (nI ex)]) (rest := [.int 31]) ⟨hx, hb, hml, hown, hts⟩ tbin (x_nlz l dC dI sb ex he1 he2) q9_109 q9_110 q1_32 q9_111 (n := 1) (by decide +kernel) rfl ⟨rfl, rfl⟩ ⟨Nat.le_of_ble_eq_true rfl, Nat.le_of_ble_eq_true rfl⟩ ⟨Nat.le_of_ble_eq_true rfl, Nat.le_of_ble_eq_true rfl⟩ hN (hT0.keep hS hAs) hK hP [] rfl [] rfl hl.1 rfl (Nat.le_of_ble_eq_true rfl) d_Model_isSigned_97) (fun r97 hr97 => ?_)
      obtain ⟨b9, hb91, hb9e, hb9l, hb92⟩ := hr97
      rw [show (r97 : Int32) = nI (31 - b9) from hb9e]
      refine lv_isub hx hb d_Model_isSigned_100 ?_
      rw [show (31 - (nI (31 - b9)) : Int32) = nI (31 - (31 - b9)) from pk_sub (a := 31) (b := (31 - b9)) (by omega)]
      rw [show (nI (31 - (31 - b9)) : Int32) = nI b9 from congrArg nI (by omega)]
      refine lv_istore (lv' := [(7, .int (nI b9)), (6, .int 1), (5, .int (nI k56)), (4, .int (nI k38)), (3, .int (nI (me - mm))), (0, .ref mo), (1, .ref t), (2, .ref t2)]) hx hb d_Model_isSigned_101 hl (by decide) rfl (fun ls hl => ?_)
      have hX9 : (vB 256 os (se - sg)) < (vB 256 om (me - mm)) := by
        have h9 := hr76.1 p79
        rw [hw56.2.2.2.1, hw38.2.2.2.1] at h9
        exact h9
      refine w_loopW (α := Nat × Nat × (Nat → Nat) × (Nat → Nat) × (Nat → Nat) × (Nat → Nat) × Int32) (fun k => k.1 ≤ b9 + 1 ∧ k.2.1 ≤ k38 ∧ (∀ j, k.2.2.1 j < 65536) ∧ (∀ j, k.2.2.2.1 j < 65536) ∧ (∀ j, k.2.2.2.2.1 j < 131072) ∧ (∀ j, k.2.2.2.2.2.1 j < 65536) ∧ vB 65536 k.2.2.1 k.2.1 = (vB 256 os (se - sg)) ^ (ex / 2 ^ k.1) % (vB 256 om (me - mm))) (fun k => k.1) (fun k => [(0, .ref mo), (1, .ref t), (2, .ref t2), (3, .int (nI (me - mm))), (4, .int (nI k38)), (5, .int (nI k56)), (6, .int (nI k.2.1)), (7, .int (jD k.1))]) (fun _ => []) (fun k => [(mo, .inr (12, (.int mer :: .int mfed :: .int mwr :: .int mct :: .int mls :: .ref moc :: .ref msT :: .ref mrV :: .ref msP :: .int k.2.2.2.2.2.2 :: .ref mrA :: .ref mbA :: .ref mwA :: .ref mhA :: .ref mfA :: .ref mpA :: .ref mxA :: .ref myA :: .ref mmA :: .ref mqA :: .ref mzA :: .ref mwy :: .ref mfd :: .int msz :: .int mcz :: .int mch :: .int mft :: .int mpt :: .int mdp :: .int mvd :: .long mnw :: .int mmk :: []))), (mxA, .inl (cI, 600, .inl (tI m56))), (myA, .inl (cI, 600, .inl (tI k.2.2.1))), (mmA, .inl (cI, 600, .inl (tI m38))), (mzA, .inl (cI, 600, .inl (tI k.2.2.2.1))), (mqA, .inl (cI, 600, .inl (tI k.2.2.2.2.1))), (mrA, .inl (cI, 600, .inl (tI k.2.2.2.2.2.1))), (mbA, .inl (cI, 2176, .inl bl)), (mwA, .inl (cI, 64, .inl g)), (mhA, .inl (cI, 8, .inl f)), (mfA, .inl (cI, 8, .inl fif)), (mpA, .inl (cI, 64, .inl pmf))]) 14 103 (fun k HL103 locs ls hJ103 hP hD hS hl ih103 => ?_) (b9 + 1, 1, updN yd 0 1, zd, qd, rd, mqs) _ _ ls (⟨Nat.le_refl _, by show 1 ≤ k38; omega, upN_lt hyd (by decide), hzd, hqd, hrd, by show vB 65536 (updN yd 0 1) 1 = (vB 256 os (se - sg)) ^ (ex / 2 ^ (b9 + 1)) % (vB 256 om (me - mm)); rw [Nat.div_eq_of_lt hb92, Nat.pow_zero, vB_up, Nat.mod_eq_of_lt (show 1 < (vB 256 om (me - mm)) by omega)]; rfl⟩) (hP.sub [0, 11, 1, 10, 2, 3, 4, 5, 6, 7, 8, 9] rfl) (hD.sub [0, 11, 1, 10, 2, 3, 4, 5, 6, 7, 8, 9] (by decide) rfl) hS (lv_sub hl [5, 6, 7, 4, 3, 2, 1, 0] rfl)
      obtain ⟨_ | j, n, y, z, q, r, w⟩ := k
      · have hJ103 : 0 ≤ b9 + 1 ∧ n ≤ k38 ∧ (∀ j, y j < 65536) ∧ (∀ j, z j < 65536) ∧ (∀ j, q j < 131072) ∧ (∀ j, r j < 65536) ∧ vB 65536 y n = (vB 256 os (se - sg)) ^ (ex / 2 ^ 0) % (vB 256 om (me - mm)) := hJ103
        obtain ⟨hj9, hn9, hy9, hz9, hq9, hr9, hv9⟩ := hJ103
        have hl : lv_has ls 14 [(0, .ref mo), (1, .ref t), (2, .ref t2), (3, .int (nI (me - mm))), (4, .int (nI k38)), (5, .int (nI k56)), (6, .int (nI n)), (7, .int (-1))] := hl
        have hP : va_P (dC, dI) classes [(mo, .inr (12, (.int mer :: .int mfed :: .int mwr :: .int mct :: .int mls :: .ref moc :: .ref msT :: .ref mrV :: .ref msP :: .int w :: .ref mrA :: .ref mbA :: .ref mwA :: .ref mhA :: .ref mfA :: .ref mpA :: .ref mxA :: .ref myA :: .ref mmA :: .ref mqA :: .ref mzA :: .ref mwy :: .ref mfd :: .int msz :: .int mcz :: .int mch :: .int mft :: .int mpt :: .int mdp :: .int mvd :: .long mnw :: .int mmk :: []))), (mxA, .inl (cI, 600, .inl (tI m56))), (myA, .inl (cI, 600, .inl (tI y))), (mmA, .inl (cI, 600, .inl (tI m38))), (mzA, .inl (cI, 600, .inl (tI z))), (mqA, .inl (cI, 600, .inl (tI q))), (mrA, .inl (cI, 600, .inl (tI r))), (mbA, .inl (cI, 2176, .inl bl)), (mwA, .inl (cI, 64, .inl g)), (mhA, .inl (cI, 8, .inl f)), (mfA, .inl (cI, 8, .inl fif)), (mpA, .inl (cI, 64, .inl pmf))] HL103 := hP
        have hD : va_D A [(mo, .inr (12, (.int mer :: .int mfed :: .int mwr :: .int mct :: .int mls :: .ref moc :: .ref msT :: .ref mrV :: .ref msP :: .int w :: .ref mrA :: .ref mbA :: .ref mwA :: .ref mhA :: .ref mfA :: .ref mpA :: .ref mxA :: .ref myA :: .ref mmA :: .ref mqA :: .ref mzA :: .ref mwy :: .ref mfd :: .int msz :: .int mcz :: .int mch :: .int mft :: .int mpt :: .int mdp :: .int mvd :: .long mnw :: .int mmk :: []))), (mxA, .inl (cI, 600, .inl (tI m56))), (myA, .inl (cI, 600, .inl (tI y))), (mmA, .inl (cI, 600, .inl (tI m38))), (mzA, .inl (cI, 600, .inl (tI z))), (mqA, .inl (cI, 600, .inl (tI q))), (mrA, .inl (cI, 600, .inl (tI r))), (mbA, .inl (cI, 2176, .inl bl)), (mwA, .inl (cI, 64, .inl g)), (mhA, .inl (cI, 8, .inl f)), (mfA, .inl (cI, 8, .inl fif)), (mpA, .inl (cI, 64, .inl pmf))] := hD
        refine lv_iload hx hb d_Model_isSigned_103 (lv_at hl 7 rfl) ?_
        refine lv_if_lt (tgt := 166) hx hb d_Model_isSigned_105 (by decide) (fun c105 => ?_) (fun c105 => ?_)
        rotate_left
        · exact absurd (by decide) c105
        have hY9 : vB 65536 y n = (vB 256 os (se - sg)) ^ ex % (vB 256 om (me - mm)) := by rw [hv9, Nat.pow_zero, Nat.div_one]
        refine lv_aload_n hx hb d_Model_isSigned_166 rfl (lv_at hl 0 rfl) ?_
        refine lv_aload_n hx hb d_Model_isSigned_167 rfl (lv_at hl 1 rfl) ?_
        have hFc := va_free (wc := [(mo, .inr (12, (.int mer :: .int mfed :: .int mwr :: .int mct :: .int mls :: .ref moc :: .ref msT :: .ref mrV :: .ref msP :: .int w :: .ref mrA :: .ref mbA :: .ref mwA :: .ref mhA :: .ref mfA :: .ref mpA :: .ref mxA :: .ref myA :: .ref mmA :: .ref mqA :: .ref mzA :: .ref mwy :: .ref mfd :: .int msz :: .int mcz :: .int mch :: .int mft :: .int mpt :: .int mdp :: .int mvd :: .long mnw :: .int mmk :: []))), (mbA, .inl (cI, 2176, .inl bl)), (mwA, .inl (cI, 64, .inl g)), (mhA, .inl (cI, 8, .inl f)), (mfA, .inl (cI, 8, .inl fif)), (mpA, .inl (cI, 64, .inl pmf))]) hD hS hA [0, 7, 8, 9, 10, 11] rfl
        refine va_callv (mf_runV (As := [.ref t]) (rest := []) ⟨hx, hb, hml, hown, hts⟩ tbin (x_Model_digestF l dC dI sb mo t moc msT mrV msP mrA mbA mwA mhA mfA mpA mxA myA mmA mqA mzA mwy mfd mer mfed mwr mct mls w msz mcz mch mft mpt mdp mvd mmk mnw x a b cI u bl g f fif pmf HL103.size h21 h22 hab hb9 hfi hpm) ((mf_keep hF0 hFA0 hS).sub [0, 1] rfl) (mf_fr [0, 1] rfl hFA0 hFc) q9_81 q9_83 qp_40 q1_9 q9_84 (n := 1) (by decide +kernel) rfl ⟨rfl, rfl⟩ ⟨Nat.le_of_ble_eq_true rfl, Nat.le_of_ble_eq_true rfl⟩ ⟨Nat.le_of_ble_eq_true rfl, Nat.le_of_ble_eq_true rfl⟩ hN (hT0.keep hS hAs) hAs (Nat.le_trans hB0 hS.1) hK hP hD [0, 7, 8, 9, 10, 11] (by decide) rfl [0] rfl 0 12 rfl rfl rfl hl.1 rfl (Nat.le_of_ble_eq_true rfl) d_Model_isSigned_168) hS (fun q _ h => hFc q h) hFc (fun u168 tS H168 locs ht hvm hw168 hB hz1 hk1 hS => ?_)
        obtain ⟨_, rfl⟩ : ∃ z, z = u168 := ⟨_, rfl⟩
        obtain ⟨hP1, hK1, hD1⟩ := hB
        rw [ht] at hP1
        obtain ⟨hP, hD⟩ := va_join (wr := [(mxA, .inl (cI, 600, .inl (tI m56))), (myA, .inl (cI, 600, .inl (tI y))), (mmA, .inl (cI, 600, .inl (tI m38))), (mzA, .inl (cI, 600, .inl (tI z))), (mqA, .inl (cI, 600, .inl (tI q))), (mrA, .inl (cI, 600, .inl (tI r)))]) (w1 := [(mo, .inr (12, (.int mer :: .int mfed :: .int mwr :: .int mct :: .int mls :: .ref moc :: .ref msT :: .ref mrV :: .ref msP :: .int w :: .ref mrA :: .ref mbA :: .ref mwA :: .ref mhA :: .ref mfA :: .ref mpA :: .ref mxA :: .ref myA :: .ref mmA :: .ref mqA :: .ref mzA :: .ref mwy :: .ref mfd :: .int msz :: .int mcz :: .int mch :: .int mft :: .int mpt :: .int mdp :: .int mvd :: .long mnw :: .int mmk :: []))), (mbA, .inl (cI, 2176, .inl (stG (pdV u a b) bl (64 * hs_b (b - a))))), (mwA, .inl (cI, 64, .inl ((hs_n u a b (64 * hs_b (b - a)) (g, stG s0G f 8) (hs_b (b - a))).1))), (mhA, .inl (cI, 8, .inl ((hs_n u a b (64 * hs_b (b - a)) (g, stG s0G f 8) (hs_b (b - a))).2))), (mfA, .inl (cI, 8, .inl fif)), (mpA, .inl (cI, 64, .inl pmf))]) hP hD [0, 7, 8, 9, 10, 11] [1, 2, 3, 4, 5, 6] rfl rfl (by decide) (by decide) hk1 hFc hP1 hD1
        have hP : va_P (dC, dI) classes [(mxA, .inl (cI, 600, .inl (tI m56))), (myA, .inl (cI, 600, .inl (tI y))), (mmA, .inl (cI, 600, .inl (tI m38))), (mzA, .inl (cI, 600, .inl (tI z))), (mqA, .inl (cI, 600, .inl (tI q))), (mrA, .inl (cI, 600, .inl (tI r))), (mo, .inr (12, (.int mer :: .int mfed :: .int mwr :: .int mct :: .int mls :: .ref moc :: .ref msT :: .ref mrV :: .ref msP :: .int w :: .ref mrA :: .ref mbA :: .ref mwA :: .ref mhA :: .ref mfA :: .ref mpA :: .ref mxA :: .ref myA :: .ref mmA :: .ref mqA :: .ref mzA :: .ref mwy :: .ref mfd :: .int msz :: .int mcz :: .int mch :: .int mft :: .int mpt :: .int mdp :: .int mvd :: .long mnw :: .int mmk :: []))), (mbA, .inl (cI, 2176, .inl (stG (pdV u a b) bl (64 * hs_b (b - a))))), (mwA, .inl (cI, 64, .inl ((hs_n u a b (64 * hs_b (b - a)) (g, stG s0G f 8) (hs_b (b - a))).1))), (mhA, .inl (cI, 8, .inl ((hs_n u a b (64 * hs_b (b - a)) (g, stG s0G f 8) (hs_b (b - a))).2))), (mfA, .inl (cI, 8, .inl fif)), (mpA, .inl (cI, 64, .inl pmf))] H168 := hP
        have hD : va_D A [(mxA, .inl (cI, 600, .inl (tI m56))), (myA, .inl (cI, 600, .inl (tI y))), (mmA, .inl (cI, 600, .inl (tI m38))), (mzA, .inl (cI, 600, .inl (tI z))), (mqA, .inl (cI, 600, .inl (tI q))), (mrA, .inl (cI, 600, .inl (tI r))), (mo, .inr (12, (.int mer :: .int mfed :: .int mwr :: .int mct :: .int mls :: .ref moc :: .ref msT :: .ref mrV :: .ref msP :: .int w :: .ref mrA :: .ref mbA :: .ref mwA :: .ref mhA :: .ref mfA :: .ref mpA :: .ref mxA :: .ref myA :: .ref mmA :: .ref mqA :: .ref mzA :: .ref mwy :: .ref mfd :: .int msz :: .int mcz :: .int mch :: .int mft :: .int mpt :: .int mdp :: .int mvd :: .long mnw :: .int mmk :: []))), (mbA, .inl (cI, 2176, .inl (stG (pdV u a b) bl (64 * hs_b (b - a))))), (mwA, .inl (cI, 64, .inl ((hs_n u a b (64 * hs_b (b - a)) (g, stG s0G f 8) (hs_b (b - a))).1))), (mhA, .inl (cI, 8, .inl ((hs_n u a b (64 * hs_b (b - a)) (g, stG s0G f 8) (hs_b (b - a))).2))), (mfA, .inl (cI, 8, .inl fif)), (mpA, .inl (cI, 64, .inl pmf))] := hD
        refine my_ldcwS hx hb hown (hN.2.1 3 _ rfl) d_Model_isSigned_171 ?_
        refine lv_astore (lv' := [(7, .ref (sb.2 (10 + 3))), (0, .ref mo), (1, .ref t), (2, .ref t2), (3, .int (nI (me - mm))), (4, .int (nI k38)), (5, .int (nI k56)), (6, .int (nI n))]) hx hb d_Model_isSigned_174 hl (by decide) rfl (fun ls hl => ?_)
        refine lv_iload_n hx hb d_Model_isSigned_176 rfl (lv_at hl 4 rfl) ?_
        refine lv_iconst (v := 3) hx hb d_Model_isSigned_177 (by decide) ?_
        refine lv_isub hx hb d_Model_isSigned_178 ?_
        rw [show ((nI (me - mm)) - 3 : Int32) = nI ((me - mm) - 3) from pk_sub (a := (me - mm)) (b := 3) (by omega)]
        refine lv_bipush (v := 19) hx hb d_Model_isSigned_179 (by decide) ?_
        refine lv_isub hx hb d_Model_isSigned_181 ?_
        rw [show ((nI ((me - mm) - 3)) - 19 : Int32) = nI (((me - mm) - 3) - 19) from pk_sub (a := ((me - mm) - 3)) (b := 19) (by omega)]
        refine lv_bipush (v := 32) hx hb d_Model_isSigned_182 (by decide) ?_
        refine lv_isub hx hb d_Model_isSigned_184 ?_
        rw [show ((nI (((me - mm) - 3) - 19)) - 32 : Int32) = nI ((((me - mm) - 3) - 19) - 32) from pk_sub (a := (((me - mm) - 3) - 19)) (b := 32) (by omega)]
        refine lv_istore (lv' := [(8, .int (nI ((((me - mm) - 3) - 19) - 32))), (7, .ref (sb.2 (10 + 3))), (0, .ref mo), (1, .ref t), (2, .ref t2), (3, .int (nI (me - mm))), (4, .int (nI k38)), (5, .int (nI k56)), (6, .int (nI n))]) hx hb d_Model_isSigned_185 hl (by decide) rfl (fun ls hl => ?_)
        refine lv_iload hx hb d_Model_isSigned_187 (lv_at hl 0 rfl) ?_
        refine lv_bipush (v := 8) hx hb d_Model_isSigned_189 (by decide) ?_
        refine lv_icmp_ge (tgt := 196) hx hb d_Model_isSigned_191 (by decide) (fun c191 => ?_) (fun c191 => ?_)
        rotate_left
        · exact absurd ((nI_leI (a := 8) (b := me - mm - 3 - 19 - 32) (by omega) (by omega)).mpr (by omega)) c191
        refine lv_iconst (v := 0) hx hb d_Model_isSigned_196 (by decide) ?_
        refine lv_istore (lv' := [(9, .int 0), (8, .int (nI ((((me - mm) - 3) - 19) - 32))), (7, .ref (sb.2 (10 + 3))), (0, .ref mo), (1, .ref t), (2, .ref t2), (3, .int (nI (me - mm))), (4, .int (nI k38)), (5, .int (nI k56)), (6, .int (nI n))]) hx hb d_Model_isSigned_197 hl (by decide) rfl (fun ls hl => ?_)
        refine w_loop (α := Nat) (fun k => k ≤ (me - mm) ∧ ∀ i, i < k → vB 65536 y n / 256 ^ ((me - mm) - 1 - i) % 256 = dueN (hsV u a b) (me - mm) ((me - mm) - 1 - i)) (fun k => (me - mm) - k) (fun k => [(0, .ref mo), (1, .ref t), (2, .ref t2), (3, .int (nI (me - mm))), (4, .int (nI k38)), (5, .int (nI k56)), (6, .int (nI n)), (7, .ref (sb.2 (10 + 3))), (8, .int (nI (me - mm - 3 - 19 - 32))), (9, .int (nI k))]) (fun _ => []) 14 199 (fun k ls hJ hl ih => ?_) 0 ls (⟨Nat.zero_le _, fun i hi => absurd hi (Nat.not_lt_zero _)⟩) (lv_sub hl [3, 4, 5, 6, 7, 8, 9, 2, 1, 0] rfl)
        refine lv_iload hx hb d_Model_isSigned_199 (lv_at hl 9 rfl) ?_
        refine lv_iload_n hx hb d_Model_isSigned_201 rfl (lv_at hl 3 rfl) ?_
        refine lv_icmp_ge (tgt := 411) hx hb d_Model_isSigned_202 (by decide) (fun c202 => ?_) (fun c202 => ?_)
        · have p202 : (me - mm) ≤ k := ((nI_leI (a := (me - mm)) (b := k) (by omega) (by omega)).mp c202)
          refine lv_iconst (v := 1) hx hb d_Model_isSigned_411 (by decide) ?_
          exact W.zret (v := 1) hx hb hr (bz_n (bz_t trivial)) (fun t ht hW => ⟨⟨_, ((m56, y, m38, z, q, r), w, (stG (pdV u a b) bl (64 * hs_b (b - a)), (hs_n u a b (64 * hs_b (b - a)) (g, stG s0G f 8) (hs_b (b - a))).1, (hs_n u a b (64 * hs_b (b - a)) (g, stG s0G f 8) (hs_b (b - a))).2)), rfl, ⟨bz_t ⟨p20, hX9, fun i hi => by have h9 := hJ.2 ((me - mm) - 1 - i) (by omega); rw [show (me - mm) - 1 - ((me - mm) - 1 - i) = i by omega, hY9] at h9; exact h9⟩, hx56, hy9, hm38, hz9, hq9, hr9⟩, by rw [ht]; exact hP.sub [6, 0, 1, 2, 3, 4, 5, 7, 8, 9, 10, 11] rfl, va_K.moved hW.alike hK, hD.sub [6, 0, 1, 2, 3, 4, 5, 7, 8, 9, 10, 11] (by decide) rfl⟩, hS.F ht⟩) hS.2.2 d_Model_isSigned_412
        · have p202 : ¬ ((me - mm) ≤ k) := (fun q9 => c202 ((nI_leI (a := (me - mm)) (b := k) (by omega) (by omega)).mpr q9))
          refine lv_iload_n hx hb d_Model_isSigned_205 rfl (lv_at hl 3 rfl) ?_
          refine lv_iconst (v := 1) hx hb d_Model_isSigned_206 (by decide) ?_
          refine lv_isub hx hb d_Model_isSigned_207 ?_
          rw [show ((nI (me - mm)) - 1 : Int32) = nI ((me - mm) - 1) from pk_sub (a := (me - mm)) (b := 1) (by omega)]
          refine lv_iload hx hb d_Model_isSigned_208 (lv_at hl 9 rfl) ?_
          refine lv_isub hx hb d_Model_isSigned_210 ?_
          rw [show ((nI ((me - mm) - 1)) - (nI k) : Int32) = nI (((me - mm) - 1) - k) from pk_sub (a := ((me - mm) - 1)) (b := k) (by omega)]
          refine lv_istore (lv' := [(10, .int (nI (((me - mm) - 1) - k))), (0, .ref mo), (1, .ref t), (2, .ref t2), (3, .int (nI (me - mm))), (4, .int (nI k38)), (5, .int (nI k56)), (6, .int (nI n)), (7, .ref (sb.2 (10 + 3))), (8, .int (nI (me - mm - 3 - 19 - 32))), (9, .int (nI k))]) hx hb d_Model_isSigned_211 hl (by decide) rfl (fun ls hl => ?_)
          refine lv_iload hx hb d_Model_isSigned_213 (lv_at hl 0 rfl) ?_
          refine lv_iconst (v := 1) hx hb d_Model_isSigned_215 (by decide) ?_
          refine lv_ishr hx hb d_Model_isSigned_216 ?_
          rw [show ((nI (((me - mm) - 1) - k)) >>> (1 &&& 31) : Int32) = nI (((me - mm) - 1 - k) / 2) from shr1_t (by omega)]
          refine lv_iload hx hb d_Model_isSigned_217 (lv_at hl 7 rfl) ?_
          refine lv_icmp_ge (tgt := 246) hx hb d_Model_isSigned_219 (by decide) (fun c219 => ?_) (fun c219 => ?_)
          · have p219 : n ≤ (((me - mm) - 1 - k) / 2) := ((nI_leI (a := n) (b := (((me - mm) - 1 - k) / 2)) (by omega) (by omega)).mp c219)
            refine lv_iconst (v := 0) hx hb d_Model_isSigned_246 (by decide) ?_
            rw [show (0 : Int32) = nI (vB 65536 y n / 256 ^ ((me - mm) - 1 - k) % 256) from congrArg nI (show 0 = _ from by rw [oct16 hy9, if_neg (by omega)])]
            refine lv_istore (lv' := [(11, .int (nI (vB 65536 y n / 256 ^ ((me - mm) - 1 - k) % 256))), (10, .int (nI (((me - mm) - 1) - k))), (0, .ref mo), (1, .ref t), (2, .ref t2), (3, .int (nI (me - mm))), (4, .int (nI k38)), (5, .int (nI k56)), (6, .int (nI n)), (7, .ref (sb.2 (10 + 3))), (8, .int (nI (me - mm - 3 - 19 - 32))), (9, .int (nI k))]) hx hb d_Model_isSigned_247 hl (by decide) rfl (fun ls hl => ?_)
            refine lv_iload hx hb d_Model_isSigned_249 (lv_at hl 11 rfl) ?_
            refine lv_if_ne (tgt := 260) hx hb d_Model_isSigned_251 (by decide) (fun c251 => ?_) (fun c251 => ?_)
            · have p251 : ¬ (k = 0) := (fun q9 => c251 ((nI_eq (a := k) (b := 0) (by omega) (by omega)).mpr q9))
              refine lv_iload hx hb d_Model_isSigned_260 (lv_at hl 11 rfl) ?_
              refine lv_iconst (v := 1) hx hb d_Model_isSigned_262 (by decide) ?_
              refine lv_icmp_ne (tgt := 272) hx hb d_Model_isSigned_263 (by decide) (fun c263 => ?_) (fun c263 => ?_)
              · have p263 : ¬ (k = 1) := (fun q9 => c263 ((nI_eq (a := k) (b := 1) (by omega) (by omega)).mpr q9))
                refine lv_iload hx hb d_Model_isSigned_272 (lv_at hl 11 rfl) ?_
                refine lv_iconst (v := 2) hx hb d_Model_isSigned_274 (by decide) ?_
                refine lv_iload hx hb d_Model_isSigned_275 (lv_at hl 10 rfl) ?_
                refine lv_iadd hx hb d_Model_isSigned_277 ?_
                rw [show (2 + (nI (me - mm - 3 - 19 - 32)) : Int32) = nI (2 + (me - mm - 3 - 19 - 32)) from nI_add 2 (me - mm - 3 - 19 - 32)]
                refine lv_icmp_ge (tgt := 289) hx hb d_Model_isSigned_278 (by decide) (fun c278 => ?_) (fun c278 => ?_)
                · have p278 : (2 + (me - mm - 3 - 19 - 32)) ≤ k := ((nI_leI (a := (2 + (me - mm - 3 - 19 - 32))) (b := k) (by omega) (by omega)).mp c278)
                  refine lv_iload hx hb d_Model_isSigned_289 (lv_at hl 11 rfl) ?_
                  refine lv_iconst (v := 2) hx hb d_Model_isSigned_291 (by decide) ?_
                  refine lv_iload hx hb d_Model_isSigned_292 (lv_at hl 10 rfl) ?_
                  refine lv_iadd hx hb d_Model_isSigned_294 ?_
                  rw [show (2 + (nI (me - mm - 3 - 19 - 32)) : Int32) = nI (2 + (me - mm - 3 - 19 - 32)) from nI_add 2 (me - mm - 3 - 19 - 32)]
                  refine lv_icmp_ne (tgt := 304) hx hb d_Model_isSigned_295 (by decide) (fun c295 => ?_) (fun c295 => ?_)
                  · have p295 : ¬ (k = (2 + (me - mm - 3 - 19 - 32))) := (fun q9 => c295 ((nI_eq (a := k) (b := (2 + (me - mm - 3 - 19 - 32))) (by omega) (by omega)).mpr q9))
                    refine lv_iload hx hb d_Model_isSigned_304 (lv_at hl 11 rfl) ?_
                    refine lv_iconst (v := 3) hx hb d_Model_isSigned_306 (by decide) ?_
                    refine lv_iload hx hb d_Model_isSigned_307 (lv_at hl 10 rfl) ?_
                    refine lv_iadd hx hb d_Model_isSigned_309 ?_
                    rw [show (3 + (nI (me - mm - 3 - 19 - 32)) : Int32) = nI (3 + (me - mm - 3 - 19 - 32)) from nI_add 3 (me - mm - 3 - 19 - 32)]
                    refine lv_bipush (v := 19) hx hb d_Model_isSigned_310 (by decide) ?_
                    refine lv_iadd hx hb d_Model_isSigned_312 ?_
                    rw [show ((nI (3 + (me - mm - 3 - 19 - 32))) + 19 : Int32) = nI ((3 + (me - mm - 3 - 19 - 32)) + 19) from nI_add (3 + (me - mm - 3 - 19 - 32)) 19]
                    refine lv_icmp_ge (tgt := 360) hx hb d_Model_isSigned_313 (by decide) (fun c313 => ?_) (fun c313 => ?_)
                    · have p313 : ((3 + (me - mm - 3 - 19 - 32)) + 19) ≤ k := ((nI_leI (a := ((3 + (me - mm - 3 - 19 - 32)) + 19)) (b := k) (by omega) (by omega)).mp c313)
                      refine lv_iload hx hb d_Model_isSigned_360 (lv_at hl 11 rfl) ?_
                      refine lv_bipush (v := 22) hx hb d_Model_isSigned_362 (by decide) ?_
                      refine lv_isub hx hb d_Model_isSigned_364 ?_
                      rw [show ((nI k) - 22 : Int32) = nI (k - 22) from pk_sub (a := k) (b := 22) (by omega)]
                      refine lv_iload hx hb d_Model_isSigned_365 (lv_at hl 10 rfl) ?_
                      refine lv_isub hx hb d_Model_isSigned_367 ?_
                      rw [show ((nI (k - 22)) - (nI (me - mm - 3 - 19 - 32)) : Int32) = nI ((k - 22) - (me - mm - 3 - 19 - 32)) from pk_sub (a := (k - 22)) (b := (me - mm - 3 - 19 - 32)) (by omega)]
                      refine lv_istore (lv' := [(13, .int (nI ((k - 22) - (me - mm - 3 - 19 - 32)))), (11, .int (nI (vB 65536 y n / 256 ^ ((me - mm) - 1 - k) % 256))), (10, .int (nI (((me - mm) - 1) - k))), (0, .ref mo), (1, .ref t), (2, .ref t2), (3, .int (nI (me - mm))), (4, .int (nI k38)), (5, .int (nI k56)), (6, .int (nI n)), (7, .ref (sb.2 (10 + 3))), (8, .int (nI (me - mm - 3 - 19 - 32))), (9, .int (nI k))]) hx hb d_Model_isSigned_368 hl (by decide) rfl (fun ls hl => ?_)
                      refine lv_aload_n hx hb d_Model_isSigned_370 rfl (lv_at hl 3 rfl) ?_
                      refine va_get (v := .ref mhA) hx hb htb i_Model hown hK hP 6 rfl rfl 13 (by decide) (htb _ q7_227) (fun _ h9 => h9) rfl d_Model_isSigned_371 ?_
                      refine lv_iload hx hb d_Model_isSigned_374 (lv_at hl 0 rfl) ?_
                      refine lv_iconst (v := 2) hx hb d_Model_isSigned_376 (by decide) ?_
                      refine lv_ishr hx hb d_Model_isSigned_377 ?_
                      rw [show ((nI ((k - 22) - (me - mm - 3 - 19 - 32))) >>> (2 &&& 31) : Int32) = nI (((k - 22) - (me - mm - 3 - 19 - 32)) / 4) from shr2_t (by omega)]
                      have h378 : vp_in (nI (((k - 22) - (me - mm - 3 - 19 - 32)) / 4)) 8 := vp_in_nI (by omega) (by decide)
                      refine va_iald hx hb hK hP 9 0 rfl rfl h378 d_Model_isSigned_378 ?_
                      rw [show (((hs_n u a b (64 * hs_b (b - a)) (g, stG s0G f 8) (hs_b (b - a))).2) (nI (((k - 22) - (me - mm - 3 - 19 - 32)) / 4)).toNatClampNeg : Int32) = (hsV u a b) (((k - 22) - (me - mm - 3 - 19 - 32)) / 4) from by rw [nI_clamp (by omega)]; exact hsV_r (by omega)]
                      refine lv_bipush (v := 24) hx hb d_Model_isSigned_379 (by decide) ?_
                      refine lv_bipush (v := 8) hx hb d_Model_isSigned_381 (by decide) ?_
                      refine lv_iload hx hb d_Model_isSigned_383 (lv_at hl 0 rfl) ?_
                      refine lv_iconst (v := 3) hx hb d_Model_isSigned_385 (by decide) ?_
                      refine lv_iand hx hb d_Model_isSigned_386 ?_
                      rw [show ((nI ((k - 22) - (me - mm - 3 - 19 - 32))) &&& 3 : Int32) = nI (((k - 22) - (me - mm - 3 - 19 - 32)) % 4) from and3_n (nI_t (by omega))]
                      refine lv_imul hx hb d_Model_isSigned_387 ?_
                      rw [show (8 * (nI (((k - 22) - (me - mm - 3 - 19 - 32)) % 4)) : Int32) = nI (8 * (((k - 22) - (me - mm - 3 - 19 - 32)) % 4)) from nI_mul 8 (((k - 22) - (me - mm - 3 - 19 - 32)) % 4)]
                      refine lv_isub hx hb d_Model_isSigned_388 ?_
                      rw [show (24 - (nI (8 * (((k - 22) - (me - mm - 3 - 19 - 32)) % 4))) : Int32) = nI (24 - (8 * (((k - 22) - (me - mm - 3 - 19 - 32)) % 4))) from pk_sub (a := 24) (b := (8 * (((k - 22) - (me - mm - 3 - 19 - 32)) % 4))) (by omega)]
                      refine lv_ishr hx hb d_Model_isSigned_389 ?_
                      refine lv_sipush (v := 255) hx hb d_Model_isSigned_390 (by decide) ?_
                      refine lv_iand hx hb d_Model_isSigned_393 ?_
                      rw [show ((((hsV u a b) (((k - 22) - (me - mm - 3 - 19 - 32)) / 4)) >>> ((nI (24 - (8 * (((k - 22) - (me - mm - 3 - 19 - 32)) % 4)))) &&& 31)) &&& 255 : Int32) = nI (dueN (hsV u a b) (me - mm) ((me - mm) - 1 - k)) from (hs_oct (by omega)).trans (congrArg nI (due_h (by omega)))]
                      refine lv_istore (lv' := [(12, .int (nI (dueN (hsV u a b) (me - mm) ((me - mm) - 1 - k)))), (13, .int (nI ((k - 22) - (me - mm - 3 - 19 - 32)))), (11, .int (nI (vB 65536 y n / 256 ^ ((me - mm) - 1 - k) % 256))), (10, .int (nI (((me - mm) - 1) - k))), (0, .ref mo), (1, .ref t), (2, .ref t2), (3, .int (nI (me - mm))), (4, .int (nI k38)), (5, .int (nI k56)), (6, .int (nI n)), (7, .ref (sb.2 (10 + 3))), (8, .int (nI (me - mm - 3 - 19 - 32))), (9, .int (nI k))]) hx hb d_Model_isSigned_394 hl (by decide) rfl (fun ls hl => ?_)
                      have hdu9 := dueN_lt (hsV u a b) (me - mm) ((me - mm) - 1 - k)
                      refine lv_iload hx hb d_Model_isSigned_396 (lv_at hl 2 rfl) ?_
                      refine lv_iload hx hb d_Model_isSigned_398 (lv_at hl 0 rfl) ?_
                      refine lv_icmp_eq (tgt := 405) hx hb d_Model_isSigned_400 (by decide) (fun c400 => ?_) (fun c400 => ?_)
                      · have p400 : (vB 65536 y n / 256 ^ ((me - mm) - 1 - k) % 256) = (dueN (hsV u a b) (me - mm) ((me - mm) - 1 - k)) := ((nI_eq (a := (vB 65536 y n / 256 ^ ((me - mm) - 1 - k) % 256)) (b := (dueN (hsV u a b) (me - mm) ((me - mm) - 1 - k))) (by omega) (by omega)).mp c400)
                        refine lv_iinc (v := nI (k + 1)) (lv' := [(9, .int (nI (k + 1))), (12, .int (nI (dueN (hsV u a b) (me - mm) ((me - mm) - 1 - k)))), (13, .int (nI ((k - 22) - (me - mm - 3 - 19 - 32)))), (11, .int (nI (vB 65536 y n / 256 ^ ((me - mm) - 1 - k) % 256))), (10, .int (nI (((me - mm) - 1) - k))), (0, .ref mo), (1, .ref t), (2, .ref t2), (3, .int (nI (me - mm))), (4, .int (nI k38)), (5, .int (nI k56)), (6, .int (nI n)), (7, .ref (sb.2 (10 + 3))), (8, .int (nI (me - mm - 3 - 19 - 32)))]) hx hb d_Model_isSigned_405 hl (k := 13) rfl (nI_1 _) (by decide) rfl (fun ls hl => ?_)
                        refine lv_goto (tgt := 199) hx hb d_Model_isSigned_408 (by decide) ?_
                        exact ih (k + 1) ls (by omega) (⟨by omega, fg_next hJ.2 p400⟩) (lv_sub hl [5, 6, 7, 8, 9, 10, 11, 12, 13, 0] rfl)
                      · have p400 : ¬ ((vB 65536 y n / 256 ^ ((me - mm) - 1 - k) % 256) = (dueN (hsV u a b) (me - mm) ((me - mm) - 1 - k))) := (fun q9 => c400 ((nI_eq (a := (vB 65536 y n / 256 ^ ((me - mm) - 1 - k) % 256)) (b := (dueN (hsV u a b) (me - mm) ((me - mm) - 1 - k))) (by omega) (by omega)).mpr q9))
                        refine lv_iconst (v := 0) hx hb d_Model_isSigned_403 (by decide) ?_
                        exact W.zret (v := 0) hx hb hr (bz_n (bz_f not_false)) (fun t ht hW => ⟨⟨_, ((m56, y, m38, z, q, r), w, (stG (pdV u a b) bl (64 * hs_b (b - a)), (hs_n u a b (64 * hs_b (b - a)) (g, stG s0G f 8) (hs_b (b - a))).1, (hs_n u a b (64 * hs_b (b - a)) (g, stG s0G f 8) (hs_b (b - a))).2)), rfl, ⟨bz_f (fun q9 => p400 (by have h9 := q9.2.2 ((me - mm) - 1 - k) (by omega); rw [hY9]; exact h9)), hx56, hy9, hm38, hz9, hq9, hr9⟩, by rw [ht]; exact hP.sub [6, 0, 1, 2, 3, 4, 5, 7, 8, 9, 10, 11] rfl, va_K.moved hW.alike hK, hD.sub [6, 0, 1, 2, 3, 4, 5, 7, 8, 9, 10, 11] (by decide) rfl⟩, hS.F ht⟩) hS.2.2 d_Model_isSigned_404
                    · have p313 : ¬ (((3 + (me - mm - 3 - 19 - 32)) + 19) ≤ k) := (fun q9 => c313 ((nI_leI (a := ((3 + (me - mm - 3 - 19 - 32)) + 19)) (b := k) (by omega) (by omega)).mpr q9))
                      refine lv_iload hx hb d_Model_isSigned_316 (lv_at hl 11 rfl) ?_
                      refine lv_iconst (v := 3) hx hb d_Model_isSigned_318 (by decide) ?_
                      refine lv_isub hx hb d_Model_isSigned_319 ?_
                      rw [show ((nI k) - 3 : Int32) = nI (k - 3) from pk_sub (a := k) (b := 3) (by omega)]
                      refine lv_iload hx hb d_Model_isSigned_320 (lv_at hl 10 rfl) ?_
                      refine lv_isub hx hb d_Model_isSigned_322 ?_
                      rw [show ((nI (k - 3)) - (nI (me - mm - 3 - 19 - 32)) : Int32) = nI ((k - 3) - (me - mm - 3 - 19 - 32)) from pk_sub (a := (k - 3)) (b := (me - mm - 3 - 19 - 32)) (by omega)]
                      refine lv_istore (lv' := [(13, .int (nI ((k - 3) - (me - mm - 3 - 19 - 32)))), (11, .int (nI (vB 65536 y n / 256 ^ ((me - mm) - 1 - k) % 256))), (10, .int (nI (((me - mm) - 1) - k))), (0, .ref mo), (1, .ref t), (2, .ref t2), (3, .int (nI (me - mm))), (4, .int (nI k38)), (5, .int (nI k56)), (6, .int (nI n)), (7, .ref (sb.2 (10 + 3))), (8, .int (nI (me - mm - 3 - 19 - 32))), (9, .int (nI k))]) hx hb d_Model_isSigned_323 hl (by decide) rfl (fun ls hl => ?_)
                      refine lv_bipush (v := 16) hx hb d_Model_isSigned_325 (by decide) ?_
                      refine lv_aload hx hb d_Model_isSigned_327 (lv_at hl 10 rfl) ?_
                      refine lv_iconst (v := 2) hx hb d_Model_isSigned_329 (by decide) ?_
                      refine lv_iload hx hb d_Model_isSigned_330 (lv_at hl 0 rfl) ?_
                      refine lv_imul hx hb d_Model_isSigned_332 ?_
                      rw [show (2 * (nI ((k - 3) - (me - mm - 3 - 19 - 32))) : Int32) = nI (2 * ((k - 3) - (me - mm - 3 - 19 - 32))) from nI_mul 2 ((k - 3) - (me - mm - 3 - 19 - 32))]
                      refine vp_callSi (pu_callK (As := [.int (nI (2 * ((k - 3) - (me - mm - 3 - 19 - 32))))]) (rest := [.int 16]) ⟨hx, hb, hml, hown, hts⟩ tbin (c_Str_charAt l dC dI sb 3 kz3 (2 * ((k - 3) - (me - mm - 3 - 19 - 32))) kz3_at (by rw [kz3_len]; omega)) q8_209 q8_142 q8_143 q1_28 q8_144 (n := 1) (by decide +kernel) rfl ⟨rfl, rfl⟩ ⟨Nat.le_of_ble_eq_true rfl, Nat.le_of_ble_eq_true rfl⟩ ⟨Nat.le_of_ble_eq_true rfl, Nat.le_of_ble_eq_true rfl⟩ hN (hT0.keep hS hAs) hK hP [] rfl [] rfl (sk_recv ((hT0.keep hS hAs).2.2.2.2.2.2.1 3 kz3 kz3_at)) hl.1 rfl (Nat.le_of_ble_eq_true rfl) d_Model_isSigned_333) (fun r333 hr333 => ?_)
                      refine vp_callSi (pu_callS (As := [.int r333]) (rest := [.int 16]) ⟨hx, hb, hml, hown, hts⟩ tbin (c_Model_hexOf l dC dI sb r333) q9_128 q8_178 q1_9 q8_179 (n := 1) (by decide +kernel) rfl ⟨rfl, rfl⟩ ⟨Nat.le_of_ble_eq_true rfl, Nat.le_of_ble_eq_true rfl⟩ ⟨Nat.le_of_ble_eq_true rfl, Nat.le_of_ble_eq_true rfl⟩ hN (hT0.keep hS hAs) hK hP [] rfl [] rfl hl.1 rfl (Nat.le_of_ble_eq_true rfl) d_Model_isSigned_336) (fun r336 hr336 => ?_)
                      refine lv_imul hx hb d_Model_isSigned_339 ?_
                      refine lv_aload hx hb d_Model_isSigned_340 (lv_at hl 10 rfl) ?_
                      refine lv_iconst (v := 2) hx hb d_Model_isSigned_342 (by decide) ?_
                      refine lv_iload hx hb d_Model_isSigned_343 (lv_at hl 0 rfl) ?_
                      refine lv_imul hx hb d_Model_isSigned_345 ?_
                      rw [show (2 * (nI ((k - 3) - (me - mm - 3 - 19 - 32))) : Int32) = nI (2 * ((k - 3) - (me - mm - 3 - 19 - 32))) from nI_mul 2 ((k - 3) - (me - mm - 3 - 19 - 32))]
                      refine lv_iconst (v := 1) hx hb d_Model_isSigned_346 (by decide) ?_
                      refine lv_iadd hx hb d_Model_isSigned_347 ?_
                      rw [show ((nI (2 * ((k - 3) - (me - mm - 3 - 19 - 32)))) + 1 : Int32) = nI ((2 * ((k - 3) - (me - mm - 3 - 19 - 32))) + 1) from nI_add (2 * ((k - 3) - (me - mm - 3 - 19 - 32))) 1]
                      refine vp_callSi (pu_callK (As := [.int (nI ((2 * ((k - 3) - (me - mm - 3 - 19 - 32))) + 1))]) (rest := [.int (16 * r336)]) ⟨hx, hb, hml, hown, hts⟩ tbin (c_Str_charAt l dC dI sb 3 kz3 ((2 * ((k - 3) - (me - mm - 3 - 19 - 32))) + 1) kz3_at (by rw [kz3_len]; omega)) q8_209 q8_142 q8_143 q1_28 q8_144 (n := 1) (by decide +kernel) rfl ⟨rfl, rfl⟩ ⟨Nat.le_of_ble_eq_true rfl, Nat.le_of_ble_eq_true rfl⟩ ⟨Nat.le_of_ble_eq_true rfl, Nat.le_of_ble_eq_true rfl⟩ hN (hT0.keep hS hAs) hK hP [] rfl [] rfl (sk_recv ((hT0.keep hS hAs).2.2.2.2.2.2.1 3 kz3 kz3_at)) hl.1 rfl (Nat.le_of_ble_eq_true rfl) d_Model_isSigned_348) (fun r348 hr348 => ?_)
                      refine vp_callSi (pu_callS (As := [.int r348]) (rest := [.int (16 * r336)]) ⟨hx, hb, hml, hown, hts⟩ tbin (c_Model_hexOf l dC dI sb r348) q9_128 q8_178 q1_9 q8_179 (n := 1) (by decide +kernel) rfl ⟨rfl, rfl⟩ ⟨Nat.le_of_ble_eq_true rfl, Nat.le_of_ble_eq_true rfl⟩ ⟨Nat.le_of_ble_eq_true rfl, Nat.le_of_ble_eq_true rfl⟩ hN (hT0.keep hS hAs) hK hP [] rfl [] rfl hl.1 rfl (Nat.le_of_ble_eq_true rfl) d_Model_isSigned_351) (fun r351 hr351 => ?_)
                      refine lv_iadd hx hb d_Model_isSigned_354 ?_
                      rw [show ((16 * r336) + r351 : Int32) = nI (dueN (hsV u a b) (me - mm) ((me - mm) - 1 - k)) from by rw [hr336, hr333, hr351, hr348]; exact (pfx_hex _ (by omega)).trans (congrArg nI (due_p (by omega) (by omega) (by omega)))]
                      refine lv_istore (lv' := [(12, .int (nI (dueN (hsV u a b) (me - mm) ((me - mm) - 1 - k)))), (13, .int (nI ((k - 3) - (me - mm - 3 - 19 - 32)))), (11, .int (nI (vB 65536 y n / 256 ^ ((me - mm) - 1 - k) % 256))), (10, .int (nI (((me - mm) - 1) - k))), (0, .ref mo), (1, .ref t), (2, .ref t2), (3, .int (nI (me - mm))), (4, .int (nI k38)), (5, .int (nI k56)), (6, .int (nI n)), (7, .ref (sb.2 (10 + 3))), (8, .int (nI (me - mm - 3 - 19 - 32))), (9, .int (nI k))]) hx hb d_Model_isSigned_355 hl (by decide) rfl (fun ls hl => ?_)
                      refine lv_goto (tgt := 396) hx hb d_Model_isSigned_357 (by decide) ?_
                      have hdu9 := dueN_lt (hsV u a b) (me - mm) ((me - mm) - 1 - k)
                      refine lv_iload hx hb d_Model_isSigned_396 (lv_at hl 2 rfl) ?_
                      refine lv_iload hx hb d_Model_isSigned_398 (lv_at hl 0 rfl) ?_
                      refine lv_icmp_eq (tgt := 405) hx hb d_Model_isSigned_400 (by decide) (fun c400 => ?_) (fun c400 => ?_)
                      · have p400 : (vB 65536 y n / 256 ^ ((me - mm) - 1 - k) % 256) = (dueN (hsV u a b) (me - mm) ((me - mm) - 1 - k)) := ((nI_eq (a := (vB 65536 y n / 256 ^ ((me - mm) - 1 - k) % 256)) (b := (dueN (hsV u a b) (me - mm) ((me - mm) - 1 - k))) (by omega) (by omega)).mp c400)
                        refine lv_iinc (v := nI (k + 1)) (lv' := [(9, .int (nI (k + 1))), (12, .int (nI (dueN (hsV u a b) (me - mm) ((me - mm) - 1 - k)))), (13, .int (nI ((k - 3) - (me - mm - 3 - 19 - 32)))), (11, .int (nI (vB 65536 y n / 256 ^ ((me - mm) - 1 - k) % 256))), (10, .int (nI (((me - mm) - 1) - k))), (0, .ref mo), (1, .ref t), (2, .ref t2), (3, .int (nI (me - mm))), (4, .int (nI k38)), (5, .int (nI k56)), (6, .int (nI n)), (7, .ref (sb.2 (10 + 3))), (8, .int (nI (me - mm - 3 - 19 - 32)))]) hx hb d_Model_isSigned_405 hl (k := 13) rfl (nI_1 _) (by decide) rfl (fun ls hl => ?_)
                        refine lv_goto (tgt := 199) hx hb d_Model_isSigned_408 (by decide) ?_
                        exact ih (k + 1) ls (by omega) (⟨by omega, fg_next hJ.2 p400⟩) (lv_sub hl [5, 6, 7, 8, 9, 10, 11, 12, 13, 0] rfl)
                      · have p400 : ¬ ((vB 65536 y n / 256 ^ ((me - mm) - 1 - k) % 256) = (dueN (hsV u a b) (me - mm) ((me - mm) - 1 - k))) := (fun q9 => c400 ((nI_eq (a := (vB 65536 y n / 256 ^ ((me - mm) - 1 - k) % 256)) (b := (dueN (hsV u a b) (me - mm) ((me - mm) - 1 - k))) (by omega) (by omega)).mpr q9))
                        refine lv_iconst (v := 0) hx hb d_Model_isSigned_403 (by decide) ?_
                        exact W.zret (v := 0) hx hb hr (bz_n (bz_f not_false)) (fun t ht hW => ⟨⟨_, ((m56, y, m38, z, q, r), w, (stG (pdV u a b) bl (64 * hs_b (b - a)), (hs_n u a b (64 * hs_b (b - a)) (g, stG s0G f 8) (hs_b (b - a))).1, (hs_n u a b (64 * hs_b (b - a)) (g, stG s0G f 8) (hs_b (b - a))).2)), rfl, ⟨bz_f (fun q9 => p400 (by have h9 := q9.2.2 ((me - mm) - 1 - k) (by omega); rw [hY9]; exact h9)), hx56, hy9, hm38, hz9, hq9, hr9⟩, by rw [ht]; exact hP.sub [6, 0, 1, 2, 3, 4, 5, 7, 8, 9, 10, 11] rfl, va_K.moved hW.alike hK, hD.sub [6, 0, 1, 2, 3, 4, 5, 7, 8, 9, 10, 11] (by decide) rfl⟩, hS.F ht⟩) hS.2.2 d_Model_isSigned_404
                  · have p295 : k = (2 + (me - mm - 3 - 19 - 32)) := ((nI_eq (a := k) (b := (2 + (me - mm - 3 - 19 - 32))) (by omega) (by omega)).mp c295)
                    refine lv_iconst (v := 0) hx hb d_Model_isSigned_298 (by decide) ?_
                    rw [show (0 : Int32) = nI (dueN (hsV u a b) (me - mm) ((me - mm) - 1 - k)) from congrArg nI (due_51 (by omega))]
                    refine lv_istore (lv' := [(12, .int (nI (dueN (hsV u a b) (me - mm) ((me - mm) - 1 - k)))), (11, .int (nI (vB 65536 y n / 256 ^ ((me - mm) - 1 - k) % 256))), (10, .int (nI (((me - mm) - 1) - k))), (0, .ref mo), (1, .ref t), (2, .ref t2), (3, .int (nI (me - mm))), (4, .int (nI k38)), (5, .int (nI k56)), (6, .int (nI n)), (7, .ref (sb.2 (10 + 3))), (8, .int (nI (me - mm - 3 - 19 - 32))), (9, .int (nI k))]) hx hb d_Model_isSigned_299 hl (by decide) rfl (fun ls hl => ?_)
                    refine lv_goto (tgt := 396) hx hb d_Model_isSigned_301 (by decide) ?_
                    have hdu9 := dueN_lt (hsV u a b) (me - mm) ((me - mm) - 1 - k)
                    refine lv_iload hx hb d_Model_isSigned_396 (lv_at hl 1 rfl) ?_
                    refine lv_iload hx hb d_Model_isSigned_398 (lv_at hl 0 rfl) ?_
                    refine lv_icmp_eq (tgt := 405) hx hb d_Model_isSigned_400 (by decide) (fun c400 => ?_) (fun c400 => ?_)
                    · have p400 : (vB 65536 y n / 256 ^ ((me - mm) - 1 - k) % 256) = (dueN (hsV u a b) (me - mm) ((me - mm) - 1 - k)) := ((nI_eq (a := (vB 65536 y n / 256 ^ ((me - mm) - 1 - k) % 256)) (b := (dueN (hsV u a b) (me - mm) ((me - mm) - 1 - k))) (by omega) (by omega)).mp c400)
                      refine lv_iinc (v := nI (k + 1)) (lv' := [(9, .int (nI (k + 1))), (12, .int (nI (dueN (hsV u a b) (me - mm) ((me - mm) - 1 - k)))), (11, .int (nI (vB 65536 y n / 256 ^ ((me - mm) - 1 - k) % 256))), (10, .int (nI (((me - mm) - 1) - k))), (0, .ref mo), (1, .ref t), (2, .ref t2), (3, .int (nI (me - mm))), (4, .int (nI k38)), (5, .int (nI k56)), (6, .int (nI n)), (7, .ref (sb.2 (10 + 3))), (8, .int (nI (me - mm - 3 - 19 - 32)))]) hx hb d_Model_isSigned_405 hl (k := 12) rfl (nI_1 _) (by decide) rfl (fun ls hl => ?_)
                      refine lv_goto (tgt := 199) hx hb d_Model_isSigned_408 (by decide) ?_
                      exact ih (k + 1) ls (by omega) (⟨by omega, fg_next hJ.2 p400⟩) (lv_sub hl [4, 5, 6, 7, 8, 9, 10, 11, 12, 0] rfl)
                    · have p400 : ¬ ((vB 65536 y n / 256 ^ ((me - mm) - 1 - k) % 256) = (dueN (hsV u a b) (me - mm) ((me - mm) - 1 - k))) := (fun q9 => c400 ((nI_eq (a := (vB 65536 y n / 256 ^ ((me - mm) - 1 - k) % 256)) (b := (dueN (hsV u a b) (me - mm) ((me - mm) - 1 - k))) (by omega) (by omega)).mpr q9))
                      refine lv_iconst (v := 0) hx hb d_Model_isSigned_403 (by decide) ?_
                      exact W.zret (v := 0) hx hb hr (bz_n (bz_f not_false)) (fun t ht hW => ⟨⟨_, ((m56, y, m38, z, q, r), w, (stG (pdV u a b) bl (64 * hs_b (b - a)), (hs_n u a b (64 * hs_b (b - a)) (g, stG s0G f 8) (hs_b (b - a))).1, (hs_n u a b (64 * hs_b (b - a)) (g, stG s0G f 8) (hs_b (b - a))).2)), rfl, ⟨bz_f (fun q9 => p400 (by have h9 := q9.2.2 ((me - mm) - 1 - k) (by omega); rw [hY9]; exact h9)), hx56, hy9, hm38, hz9, hq9, hr9⟩, by rw [ht]; exact hP.sub [6, 0, 1, 2, 3, 4, 5, 7, 8, 9, 10, 11] rfl, va_K.moved hW.alike hK, hD.sub [6, 0, 1, 2, 3, 4, 5, 7, 8, 9, 10, 11] (by decide) rfl⟩, hS.F ht⟩) hS.2.2 d_Model_isSigned_404
                · have p278 : ¬ ((2 + (me - mm - 3 - 19 - 32)) ≤ k) := (fun q9 => c278 ((nI_leI (a := (2 + (me - mm - 3 - 19 - 32))) (b := k) (by omega) (by omega)).mpr q9))
                  refine lv_sipush (v := 255) hx hb d_Model_isSigned_281 (by decide) ?_
                  rw [show (255 : Int32) = nI (dueN (hsV u a b) (me - mm) ((me - mm) - 1 - k)) from congrArg nI (due_f (by omega) (by omega))]
                  refine lv_istore (lv' := [(12, .int (nI (dueN (hsV u a b) (me - mm) ((me - mm) - 1 - k)))), (11, .int (nI (vB 65536 y n / 256 ^ ((me - mm) - 1 - k) % 256))), (10, .int (nI (((me - mm) - 1) - k))), (0, .ref mo), (1, .ref t), (2, .ref t2), (3, .int (nI (me - mm))), (4, .int (nI k38)), (5, .int (nI k56)), (6, .int (nI n)), (7, .ref (sb.2 (10 + 3))), (8, .int (nI (me - mm - 3 - 19 - 32))), (9, .int (nI k))]) hx hb d_Model_isSigned_284 hl (by decide) rfl (fun ls hl => ?_)
                  refine lv_goto (tgt := 396) hx hb d_Model_isSigned_286 (by decide) ?_
                  have hdu9 := dueN_lt (hsV u a b) (me - mm) ((me - mm) - 1 - k)
                  refine lv_iload hx hb d_Model_isSigned_396 (lv_at hl 1 rfl) ?_
                  refine lv_iload hx hb d_Model_isSigned_398 (lv_at hl 0 rfl) ?_
                  refine lv_icmp_eq (tgt := 405) hx hb d_Model_isSigned_400 (by decide) (fun c400 => ?_) (fun c400 => ?_)
                  · have p400 : (vB 65536 y n / 256 ^ ((me - mm) - 1 - k) % 256) = (dueN (hsV u a b) (me - mm) ((me - mm) - 1 - k)) := ((nI_eq (a := (vB 65536 y n / 256 ^ ((me - mm) - 1 - k) % 256)) (b := (dueN (hsV u a b) (me - mm) ((me - mm) - 1 - k))) (by omega) (by omega)).mp c400)
                    refine lv_iinc (v := nI (k + 1)) (lv' := [(9, .int (nI (k + 1))), (12, .int (nI (dueN (hsV u a b) (me - mm) ((me - mm) - 1 - k)))), (11, .int (nI (vB 65536 y n / 256 ^ ((me - mm) - 1 - k) % 256))), (10, .int (nI (((me - mm) - 1) - k))), (0, .ref mo), (1, .ref t), (2, .ref t2), (3, .int (nI (me - mm))), (4, .int (nI k38)), (5, .int (nI k56)), (6, .int (nI n)), (7, .ref (sb.2 (10 + 3))), (8, .int (nI (me - mm - 3 - 19 - 32)))]) hx hb d_Model_isSigned_405 hl (k := 12) rfl (nI_1 _) (by decide) rfl (fun ls hl => ?_)
                    refine lv_goto (tgt := 199) hx hb d_Model_isSigned_408 (by decide) ?_
                    exact ih (k + 1) ls (by omega) (⟨by omega, fg_next hJ.2 p400⟩) (lv_sub hl [4, 5, 6, 7, 8, 9, 10, 11, 12, 0] rfl)
                  · have p400 : ¬ ((vB 65536 y n / 256 ^ ((me - mm) - 1 - k) % 256) = (dueN (hsV u a b) (me - mm) ((me - mm) - 1 - k))) := (fun q9 => c400 ((nI_eq (a := (vB 65536 y n / 256 ^ ((me - mm) - 1 - k) % 256)) (b := (dueN (hsV u a b) (me - mm) ((me - mm) - 1 - k))) (by omega) (by omega)).mpr q9))
                    refine lv_iconst (v := 0) hx hb d_Model_isSigned_403 (by decide) ?_
                    exact W.zret (v := 0) hx hb hr (bz_n (bz_f not_false)) (fun t ht hW => ⟨⟨_, ((m56, y, m38, z, q, r), w, (stG (pdV u a b) bl (64 * hs_b (b - a)), (hs_n u a b (64 * hs_b (b - a)) (g, stG s0G f 8) (hs_b (b - a))).1, (hs_n u a b (64 * hs_b (b - a)) (g, stG s0G f 8) (hs_b (b - a))).2)), rfl, ⟨bz_f (fun q9 => p400 (by have h9 := q9.2.2 ((me - mm) - 1 - k) (by omega); rw [hY9]; exact h9)), hx56, hy9, hm38, hz9, hq9, hr9⟩, by rw [ht]; exact hP.sub [6, 0, 1, 2, 3, 4, 5, 7, 8, 9, 10, 11] rfl, va_K.moved hW.alike hK, hD.sub [6, 0, 1, 2, 3, 4, 5, 7, 8, 9, 10, 11] (by decide) rfl⟩, hS.F ht⟩) hS.2.2 d_Model_isSigned_404
              · have p263 : k = 1 := ((nI_eq (a := k) (b := 1) (by omega) (by omega)).mp c263)
                refine lv_iconst (v := 1) hx hb d_Model_isSigned_266 (by decide) ?_
                rw [show (1 : Int32) = nI (dueN (hsV u a b) (me - mm) ((me - mm) - 1 - k)) from congrArg nI (due_1 hc62 (by omega))]
                refine lv_istore (lv' := [(12, .int (nI (dueN (hsV u a b) (me - mm) ((me - mm) - 1 - k)))), (11, .int (nI (vB 65536 y n / 256 ^ ((me - mm) - 1 - k) % 256))), (10, .int (nI (((me - mm) - 1) - k))), (0, .ref mo), (1, .ref t), (2, .ref t2), (3, .int (nI (me - mm))), (4, .int (nI k38)), (5, .int (nI k56)), (6, .int (nI n)), (7, .ref (sb.2 (10 + 3))), (8, .int (nI (me - mm - 3 - 19 - 32))), (9, .int (nI k))]) hx hb d_Model_isSigned_267 hl (by decide) rfl (fun ls hl => ?_)
                refine lv_goto (tgt := 396) hx hb d_Model_isSigned_269 (by decide) ?_
                have hdu9 := dueN_lt (hsV u a b) (me - mm) ((me - mm) - 1 - k)
                refine lv_iload hx hb d_Model_isSigned_396 (lv_at hl 1 rfl) ?_
                refine lv_iload hx hb d_Model_isSigned_398 (lv_at hl 0 rfl) ?_
                refine lv_icmp_eq (tgt := 405) hx hb d_Model_isSigned_400 (by decide) (fun c400 => ?_) (fun c400 => ?_)
                · have p400 : (vB 65536 y n / 256 ^ ((me - mm) - 1 - k) % 256) = (dueN (hsV u a b) (me - mm) ((me - mm) - 1 - k)) := ((nI_eq (a := (vB 65536 y n / 256 ^ ((me - mm) - 1 - k) % 256)) (b := (dueN (hsV u a b) (me - mm) ((me - mm) - 1 - k))) (by omega) (by omega)).mp c400)
                  refine lv_iinc (v := nI (k + 1)) (lv' := [(9, .int (nI (k + 1))), (12, .int (nI (dueN (hsV u a b) (me - mm) ((me - mm) - 1 - k)))), (11, .int (nI (vB 65536 y n / 256 ^ ((me - mm) - 1 - k) % 256))), (10, .int (nI (((me - mm) - 1) - k))), (0, .ref mo), (1, .ref t), (2, .ref t2), (3, .int (nI (me - mm))), (4, .int (nI k38)), (5, .int (nI k56)), (6, .int (nI n)), (7, .ref (sb.2 (10 + 3))), (8, .int (nI (me - mm - 3 - 19 - 32)))]) hx hb d_Model_isSigned_405 hl (k := 12) rfl (nI_1 _) (by decide) rfl (fun ls hl => ?_)
                  refine lv_goto (tgt := 199) hx hb d_Model_isSigned_408 (by decide) ?_
                  exact ih (k + 1) ls (by omega) (⟨by omega, fg_next hJ.2 p400⟩) (lv_sub hl [4, 5, 6, 7, 8, 9, 10, 11, 12, 0] rfl)
                · have p400 : ¬ ((vB 65536 y n / 256 ^ ((me - mm) - 1 - k) % 256) = (dueN (hsV u a b) (me - mm) ((me - mm) - 1 - k))) := (fun q9 => c400 ((nI_eq (a := (vB 65536 y n / 256 ^ ((me - mm) - 1 - k) % 256)) (b := (dueN (hsV u a b) (me - mm) ((me - mm) - 1 - k))) (by omega) (by omega)).mpr q9))
                  refine lv_iconst (v := 0) hx hb d_Model_isSigned_403 (by decide) ?_
                  exact W.zret (v := 0) hx hb hr (bz_n (bz_f not_false)) (fun t ht hW => ⟨⟨_, ((m56, y, m38, z, q, r), w, (stG (pdV u a b) bl (64 * hs_b (b - a)), (hs_n u a b (64 * hs_b (b - a)) (g, stG s0G f 8) (hs_b (b - a))).1, (hs_n u a b (64 * hs_b (b - a)) (g, stG s0G f 8) (hs_b (b - a))).2)), rfl, ⟨bz_f (fun q9 => p400 (by have h9 := q9.2.2 ((me - mm) - 1 - k) (by omega); rw [hY9]; exact h9)), hx56, hy9, hm38, hz9, hq9, hr9⟩, by rw [ht]; exact hP.sub [6, 0, 1, 2, 3, 4, 5, 7, 8, 9, 10, 11] rfl, va_K.moved hW.alike hK, hD.sub [6, 0, 1, 2, 3, 4, 5, 7, 8, 9, 10, 11] (by decide) rfl⟩, hS.F ht⟩) hS.2.2 d_Model_isSigned_404
            · have p251 : k = 0 := ((nI_eq (a := k) (b := 0) (by omega) (by omega)).mp c251)
              refine lv_iconst (v := 0) hx hb d_Model_isSigned_254 (by decide) ?_
              rw [show (0 : Int32) = nI (dueN (hsV u a b) (me - mm) ((me - mm) - 1 - k)) from congrArg nI (due_0 hc62 (by omega))]
              refine lv_istore (lv' := [(12, .int (nI (dueN (hsV u a b) (me - mm) ((me - mm) - 1 - k)))), (11, .int (nI (vB 65536 y n / 256 ^ ((me - mm) - 1 - k) % 256))), (10, .int (nI (((me - mm) - 1) - k))), (0, .ref mo), (1, .ref t), (2, .ref t2), (3, .int (nI (me - mm))), (4, .int (nI k38)), (5, .int (nI k56)), (6, .int (nI n)), (7, .ref (sb.2 (10 + 3))), (8, .int (nI (me - mm - 3 - 19 - 32))), (9, .int (nI k))]) hx hb d_Model_isSigned_255 hl (by decide) rfl (fun ls hl => ?_)
              refine lv_goto (tgt := 396) hx hb d_Model_isSigned_257 (by decide) ?_
              have hdu9 := dueN_lt (hsV u a b) (me - mm) ((me - mm) - 1 - k)
              refine lv_iload hx hb d_Model_isSigned_396 (lv_at hl 1 rfl) ?_
              refine lv_iload hx hb d_Model_isSigned_398 (lv_at hl 0 rfl) ?_
              refine lv_icmp_eq (tgt := 405) hx hb d_Model_isSigned_400 (by decide) (fun c400 => ?_) (fun c400 => ?_)
              · have p400 : (vB 65536 y n / 256 ^ ((me - mm) - 1 - k) % 256) = (dueN (hsV u a b) (me - mm) ((me - mm) - 1 - k)) := ((nI_eq (a := (vB 65536 y n / 256 ^ ((me - mm) - 1 - k) % 256)) (b := (dueN (hsV u a b) (me - mm) ((me - mm) - 1 - k))) (by omega) (by omega)).mp c400)
                refine lv_iinc (v := nI (k + 1)) (lv' := [(9, .int (nI (k + 1))), (12, .int (nI (dueN (hsV u a b) (me - mm) ((me - mm) - 1 - k)))), (11, .int (nI (vB 65536 y n / 256 ^ ((me - mm) - 1 - k) % 256))), (10, .int (nI (((me - mm) - 1) - k))), (0, .ref mo), (1, .ref t), (2, .ref t2), (3, .int (nI (me - mm))), (4, .int (nI k38)), (5, .int (nI k56)), (6, .int (nI n)), (7, .ref (sb.2 (10 + 3))), (8, .int (nI (me - mm - 3 - 19 - 32)))]) hx hb d_Model_isSigned_405 hl (k := 12) rfl (nI_1 _) (by decide) rfl (fun ls hl => ?_)
                refine lv_goto (tgt := 199) hx hb d_Model_isSigned_408 (by decide) ?_
                exact ih (k + 1) ls (by omega) (⟨by omega, fg_next hJ.2 p400⟩) (lv_sub hl [4, 5, 6, 7, 8, 9, 10, 11, 12, 0] rfl)
              · have p400 : ¬ ((vB 65536 y n / 256 ^ ((me - mm) - 1 - k) % 256) = (dueN (hsV u a b) (me - mm) ((me - mm) - 1 - k))) := (fun q9 => c400 ((nI_eq (a := (vB 65536 y n / 256 ^ ((me - mm) - 1 - k) % 256)) (b := (dueN (hsV u a b) (me - mm) ((me - mm) - 1 - k))) (by omega) (by omega)).mpr q9))
                refine lv_iconst (v := 0) hx hb d_Model_isSigned_403 (by decide) ?_
                exact W.zret (v := 0) hx hb hr (bz_n (bz_f not_false)) (fun t ht hW => ⟨⟨_, ((m56, y, m38, z, q, r), w, (stG (pdV u a b) bl (64 * hs_b (b - a)), (hs_n u a b (64 * hs_b (b - a)) (g, stG s0G f 8) (hs_b (b - a))).1, (hs_n u a b (64 * hs_b (b - a)) (g, stG s0G f 8) (hs_b (b - a))).2)), rfl, ⟨bz_f (fun q9 => p400 (by have h9 := q9.2.2 ((me - mm) - 1 - k) (by omega); rw [hY9]; exact h9)), hx56, hy9, hm38, hz9, hq9, hr9⟩, by rw [ht]; exact hP.sub [6, 0, 1, 2, 3, 4, 5, 7, 8, 9, 10, 11] rfl, va_K.moved hW.alike hK, hD.sub [6, 0, 1, 2, 3, 4, 5, 7, 8, 9, 10, 11] (by decide) rfl⟩, hS.F ht⟩) hS.2.2 d_Model_isSigned_404
          · have p219 : ¬ (n ≤ (((me - mm) - 1 - k) / 2)) := (fun q9 => c219 ((nI_leI (a := n) (b := (((me - mm) - 1 - k) / 2)) (by omega) (by omega)).mpr q9))
            refine lv_aload_n hx hb d_Model_isSigned_222 rfl (lv_at hl 1 rfl) ?_
            refine va_get (v := .ref myA) hx hb htb i_Model hown hK hP 6 rfl rfl 17 (by decide) (htb _ q7_231) (fun _ h9 => h9) rfl d_Model_isSigned_223 ?_
            refine lv_iload hx hb d_Model_isSigned_226 (lv_at hl 0 rfl) ?_
            refine lv_iconst (v := 1) hx hb d_Model_isSigned_228 (by decide) ?_
            refine lv_ishr hx hb d_Model_isSigned_229 ?_
            rw [show ((nI (((me - mm) - 1) - k)) >>> (1 &&& 31) : Int32) = nI (((me - mm) - 1 - k) / 2) from shr1_t (by omega)]
            have h230 : vp_in (nI (((me - mm) - 1 - k) / 2)) 600 := vp_in_nI (by omega) (by omega)
            refine va_iald hx hb hK hP 1 0 rfl rfl h230 d_Model_isSigned_230 ?_
            rw [show tI y (nI (((me - mm) - 1 - k) / 2)).toNatClampNeg = nI (y (((me - mm) - 1 - k) / 2)) from tI_at (by omega)]
            have hu230 := hy9 (((me - mm) - 1 - k) / 2)
            refine lv_bipush (v := 8) hx hb d_Model_isSigned_231 (by decide) ?_
            refine lv_iload hx hb d_Model_isSigned_233 (lv_at hl 0 rfl) ?_
            refine lv_iconst (v := 1) hx hb d_Model_isSigned_235 (by decide) ?_
            refine lv_iand hx hb d_Model_isSigned_236 ?_
            rw [show ((nI (((me - mm) - 1) - k)) &&& 1 : Int32) = nI (((me - mm) - 1 - k) % 2) from and1_n (nI_t (by omega))]
            refine lv_imul hx hb d_Model_isSigned_237 ?_
            rw [show (8 * (nI (((me - mm) - 1 - k) % 2)) : Int32) = nI (8 * (((me - mm) - 1 - k) % 2)) from nI_mul 8 (((me - mm) - 1 - k) % 2)]
            refine lv_ishr hx hb d_Model_isSigned_238 ?_
            refine lv_sipush (v := 255) hx hb d_Model_isSigned_239 (by decide) ?_
            refine lv_iand hx hb d_Model_isSigned_242 ?_
            rw [show (((nI (y (((me - mm) - 1 - k) / 2))) >>> ((nI (8 * (((me - mm) - 1 - k) % 2))) &&& 31)) &&& 255 : Int32) = nI (y (((me - mm) - 1 - k) / 2) / 256 ^ (((me - mm) - 1 - k) % 2) % 256) from oct_n (hy9 _) (by omega)]
            refine lv_goto (tgt := 247) hx hb d_Model_isSigned_243 (by decide) ?_
            rw [show (nI (y (((me - mm) - 1 - k) / 2) / 256 ^ (((me - mm) - 1 - k) % 2) % 256) : Int32) = nI (vB 65536 y n / 256 ^ ((me - mm) - 1 - k) % 256) from congrArg nI (by rw [oct16 hy9, if_pos (by omega)])]
            refine lv_istore (lv' := [(11, .int (nI (vB 65536 y n / 256 ^ ((me - mm) - 1 - k) % 256))), (10, .int (nI (((me - mm) - 1) - k))), (0, .ref mo), (1, .ref t), (2, .ref t2), (3, .int (nI (me - mm))), (4, .int (nI k38)), (5, .int (nI k56)), (6, .int (nI n)), (7, .ref (sb.2 (10 + 3))), (8, .int (nI (me - mm - 3 - 19 - 32))), (9, .int (nI k))]) hx hb d_Model_isSigned_247 hl (by decide) rfl (fun ls hl => ?_)
            refine lv_iload hx hb d_Model_isSigned_249 (lv_at hl 11 rfl) ?_
            refine lv_if_ne (tgt := 260) hx hb d_Model_isSigned_251 (by decide) (fun c251 => ?_) (fun c251 => ?_)
            · have p251 : ¬ (k = 0) := (fun q9 => c251 ((nI_eq (a := k) (b := 0) (by omega) (by omega)).mpr q9))
              refine lv_iload hx hb d_Model_isSigned_260 (lv_at hl 11 rfl) ?_
              refine lv_iconst (v := 1) hx hb d_Model_isSigned_262 (by decide) ?_
              refine lv_icmp_ne (tgt := 272) hx hb d_Model_isSigned_263 (by decide) (fun c263 => ?_) (fun c263 => ?_)
              · have p263 : ¬ (k = 1) := (fun q9 => c263 ((nI_eq (a := k) (b := 1) (by omega) (by omega)).mpr q9))
                refine lv_iload hx hb d_Model_isSigned_272 (lv_at hl 11 rfl) ?_
                refine lv_iconst (v := 2) hx hb d_Model_isSigned_274 (by decide) ?_
                refine lv_iload hx hb d_Model_isSigned_275 (lv_at hl 10 rfl) ?_
                refine lv_iadd hx hb d_Model_isSigned_277 ?_
                rw [show (2 + (nI (me - mm - 3 - 19 - 32)) : Int32) = nI (2 + (me - mm - 3 - 19 - 32)) from nI_add 2 (me - mm - 3 - 19 - 32)]
                refine lv_icmp_ge (tgt := 289) hx hb d_Model_isSigned_278 (by decide) (fun c278 => ?_) (fun c278 => ?_)
                · have p278 : (2 + (me - mm - 3 - 19 - 32)) ≤ k := ((nI_leI (a := (2 + (me - mm - 3 - 19 - 32))) (b := k) (by omega) (by omega)).mp c278)
                  refine lv_iload hx hb d_Model_isSigned_289 (lv_at hl 11 rfl) ?_
                  refine lv_iconst (v := 2) hx hb d_Model_isSigned_291 (by decide) ?_
                  refine lv_iload hx hb d_Model_isSigned_292 (lv_at hl 10 rfl) ?_
                  refine lv_iadd hx hb d_Model_isSigned_294 ?_
                  rw [show (2 + (nI (me - mm - 3 - 19 - 32)) : Int32) = nI (2 + (me - mm - 3 - 19 - 32)) from nI_add 2 (me - mm - 3 - 19 - 32)]
                  refine lv_icmp_ne (tgt := 304) hx hb d_Model_isSigned_295 (by decide) (fun c295 => ?_) (fun c295 => ?_)
                  · have p295 : ¬ (k = (2 + (me - mm - 3 - 19 - 32))) := (fun q9 => c295 ((nI_eq (a := k) (b := (2 + (me - mm - 3 - 19 - 32))) (by omega) (by omega)).mpr q9))
                    refine lv_iload hx hb d_Model_isSigned_304 (lv_at hl 11 rfl) ?_
                    refine lv_iconst (v := 3) hx hb d_Model_isSigned_306 (by decide) ?_
                    refine lv_iload hx hb d_Model_isSigned_307 (lv_at hl 10 rfl) ?_
                    refine lv_iadd hx hb d_Model_isSigned_309 ?_
                    rw [show (3 + (nI (me - mm - 3 - 19 - 32)) : Int32) = nI (3 + (me - mm - 3 - 19 - 32)) from nI_add 3 (me - mm - 3 - 19 - 32)]
                    refine lv_bipush (v := 19) hx hb d_Model_isSigned_310 (by decide) ?_
                    refine lv_iadd hx hb d_Model_isSigned_312 ?_
                    rw [show ((nI (3 + (me - mm - 3 - 19 - 32))) + 19 : Int32) = nI ((3 + (me - mm - 3 - 19 - 32)) + 19) from nI_add (3 + (me - mm - 3 - 19 - 32)) 19]
                    refine lv_icmp_ge (tgt := 360) hx hb d_Model_isSigned_313 (by decide) (fun c313 => ?_) (fun c313 => ?_)
                    · have p313 : ((3 + (me - mm - 3 - 19 - 32)) + 19) ≤ k := ((nI_leI (a := ((3 + (me - mm - 3 - 19 - 32)) + 19)) (b := k) (by omega) (by omega)).mp c313)
                      refine lv_iload hx hb d_Model_isSigned_360 (lv_at hl 11 rfl) ?_
                      refine lv_bipush (v := 22) hx hb d_Model_isSigned_362 (by decide) ?_
                      refine lv_isub hx hb d_Model_isSigned_364 ?_
                      rw [show ((nI k) - 22 : Int32) = nI (k - 22) from pk_sub (a := k) (b := 22) (by omega)]
                      refine lv_iload hx hb d_Model_isSigned_365 (lv_at hl 10 rfl) ?_
                      refine lv_isub hx hb d_Model_isSigned_367 ?_
                      rw [show ((nI (k - 22)) - (nI (me - mm - 3 - 19 - 32)) : Int32) = nI ((k - 22) - (me - mm - 3 - 19 - 32)) from pk_sub (a := (k - 22)) (b := (me - mm - 3 - 19 - 32)) (by omega)]
                      refine lv_istore (lv' := [(13, .int (nI ((k - 22) - (me - mm - 3 - 19 - 32)))), (11, .int (nI (vB 65536 y n / 256 ^ ((me - mm) - 1 - k) % 256))), (10, .int (nI (((me - mm) - 1) - k))), (0, .ref mo), (1, .ref t), (2, .ref t2), (3, .int (nI (me - mm))), (4, .int (nI k38)), (5, .int (nI k56)), (6, .int (nI n)), (7, .ref (sb.2 (10 + 3))), (8, .int (nI (me - mm - 3 - 19 - 32))), (9, .int (nI k))]) hx hb d_Model_isSigned_368 hl (by decide) rfl (fun ls hl => ?_)
                      refine lv_aload_n hx hb d_Model_isSigned_370 rfl (lv_at hl 3 rfl) ?_
                      refine va_get (v := .ref mhA) hx hb htb i_Model hown hK hP 6 rfl rfl 13 (by decide) (htb _ q7_227) (fun _ h9 => h9) rfl d_Model_isSigned_371 ?_
                      refine lv_iload hx hb d_Model_isSigned_374 (lv_at hl 0 rfl) ?_
                      refine lv_iconst (v := 2) hx hb d_Model_isSigned_376 (by decide) ?_
                      refine lv_ishr hx hb d_Model_isSigned_377 ?_
                      rw [show ((nI ((k - 22) - (me - mm - 3 - 19 - 32))) >>> (2 &&& 31) : Int32) = nI (((k - 22) - (me - mm - 3 - 19 - 32)) / 4) from shr2_t (by omega)]
                      have h378 : vp_in (nI (((k - 22) - (me - mm - 3 - 19 - 32)) / 4)) 8 := vp_in_nI (by omega) (by decide)
                      refine va_iald hx hb hK hP 9 0 rfl rfl h378 d_Model_isSigned_378 ?_
                      rw [show (((hs_n u a b (64 * hs_b (b - a)) (g, stG s0G f 8) (hs_b (b - a))).2) (nI (((k - 22) - (me - mm - 3 - 19 - 32)) / 4)).toNatClampNeg : Int32) = (hsV u a b) (((k - 22) - (me - mm - 3 - 19 - 32)) / 4) from by rw [nI_clamp (by omega)]; exact hsV_r (by omega)]
                      refine lv_bipush (v := 24) hx hb d_Model_isSigned_379 (by decide) ?_
                      refine lv_bipush (v := 8) hx hb d_Model_isSigned_381 (by decide) ?_
                      refine lv_iload hx hb d_Model_isSigned_383 (lv_at hl 0 rfl) ?_
                      refine lv_iconst (v := 3) hx hb d_Model_isSigned_385 (by decide) ?_
                      refine lv_iand hx hb d_Model_isSigned_386 ?_
                      rw [show ((nI ((k - 22) - (me - mm - 3 - 19 - 32))) &&& 3 : Int32) = nI (((k - 22) - (me - mm - 3 - 19 - 32)) % 4) from and3_n (nI_t (by omega))]
                      refine lv_imul hx hb d_Model_isSigned_387 ?_
                      rw [show (8 * (nI (((k - 22) - (me - mm - 3 - 19 - 32)) % 4)) : Int32) = nI (8 * (((k - 22) - (me - mm - 3 - 19 - 32)) % 4)) from nI_mul 8 (((k - 22) - (me - mm - 3 - 19 - 32)) % 4)]
                      refine lv_isub hx hb d_Model_isSigned_388 ?_
                      rw [show (24 - (nI (8 * (((k - 22) - (me - mm - 3 - 19 - 32)) % 4))) : Int32) = nI (24 - (8 * (((k - 22) - (me - mm - 3 - 19 - 32)) % 4))) from pk_sub (a := 24) (b := (8 * (((k - 22) - (me - mm - 3 - 19 - 32)) % 4))) (by omega)]
                      refine lv_ishr hx hb d_Model_isSigned_389 ?_
                      refine lv_sipush (v := 255) hx hb d_Model_isSigned_390 (by decide) ?_
                      refine lv_iand hx hb d_Model_isSigned_393 ?_
                      rw [show ((((hsV u a b) (((k - 22) - (me - mm - 3 - 19 - 32)) / 4)) >>> ((nI (24 - (8 * (((k - 22) - (me - mm - 3 - 19 - 32)) % 4)))) &&& 31)) &&& 255 : Int32) = nI (dueN (hsV u a b) (me - mm) ((me - mm) - 1 - k)) from (hs_oct (by omega)).trans (congrArg nI (due_h (by omega)))]
                      refine lv_istore (lv' := [(12, .int (nI (dueN (hsV u a b) (me - mm) ((me - mm) - 1 - k)))), (13, .int (nI ((k - 22) - (me - mm - 3 - 19 - 32)))), (11, .int (nI (vB 65536 y n / 256 ^ ((me - mm) - 1 - k) % 256))), (10, .int (nI (((me - mm) - 1) - k))), (0, .ref mo), (1, .ref t), (2, .ref t2), (3, .int (nI (me - mm))), (4, .int (nI k38)), (5, .int (nI k56)), (6, .int (nI n)), (7, .ref (sb.2 (10 + 3))), (8, .int (nI (me - mm - 3 - 19 - 32))), (9, .int (nI k))]) hx hb d_Model_isSigned_394 hl (by decide) rfl (fun ls hl => ?_)
                      have hdu9 := dueN_lt (hsV u a b) (me - mm) ((me - mm) - 1 - k)
                      refine lv_iload hx hb d_Model_isSigned_396 (lv_at hl 2 rfl) ?_
                      refine lv_iload hx hb d_Model_isSigned_398 (lv_at hl 0 rfl) ?_
                      refine lv_icmp_eq (tgt := 405) hx hb d_Model_isSigned_400 (by decide) (fun c400 => ?_) (fun c400 => ?_)
                      · have p400 : (vB 65536 y n / 256 ^ ((me - mm) - 1 - k) % 256) = (dueN (hsV u a b) (me - mm) ((me - mm) - 1 - k)) := ((nI_eq (a := (vB 65536 y n / 256 ^ ((me - mm) - 1 - k) % 256)) (b := (dueN (hsV u a b) (me - mm) ((me - mm) - 1 - k))) (by omega) (by omega)).mp c400)
                        refine lv_iinc (v := nI (k + 1)) (lv' := [(9, .int (nI (k + 1))), (12, .int (nI (dueN (hsV u a b) (me - mm) ((me - mm) - 1 - k)))), (13, .int (nI ((k - 22) - (me - mm - 3 - 19 - 32)))), (11, .int (nI (vB 65536 y n / 256 ^ ((me - mm) - 1 - k) % 256))), (10, .int (nI (((me - mm) - 1) - k))), (0, .ref mo), (1, .ref t), (2, .ref t2), (3, .int (nI (me - mm))), (4, .int (nI k38)), (5, .int (nI k56)), (6, .int (nI n)), (7, .ref (sb.2 (10 + 3))), (8, .int (nI (me - mm - 3 - 19 - 32)))]) hx hb d_Model_isSigned_405 hl (k := 13) rfl (nI_1 _) (by decide) rfl (fun ls hl => ?_)
                        refine lv_goto (tgt := 199) hx hb d_Model_isSigned_408 (by decide) ?_
                        exact ih (k + 1) ls (by omega) (⟨by omega, fg_next hJ.2 p400⟩) (lv_sub hl [5, 6, 7, 8, 9, 10, 11, 12, 13, 0] rfl)
                      · have p400 : ¬ ((vB 65536 y n / 256 ^ ((me - mm) - 1 - k) % 256) = (dueN (hsV u a b) (me - mm) ((me - mm) - 1 - k))) := (fun q9 => c400 ((nI_eq (a := (vB 65536 y n / 256 ^ ((me - mm) - 1 - k) % 256)) (b := (dueN (hsV u a b) (me - mm) ((me - mm) - 1 - k))) (by omega) (by omega)).mpr q9))
                        refine lv_iconst (v := 0) hx hb d_Model_isSigned_403 (by decide) ?_
                        exact W.zret (v := 0) hx hb hr (bz_n (bz_f not_false)) (fun t ht hW => ⟨⟨_, ((m56, y, m38, z, q, r), w, (stG (pdV u a b) bl (64 * hs_b (b - a)), (hs_n u a b (64 * hs_b (b - a)) (g, stG s0G f 8) (hs_b (b - a))).1, (hs_n u a b (64 * hs_b (b - a)) (g, stG s0G f 8) (hs_b (b - a))).2)), rfl, ⟨bz_f (fun q9 => p400 (by have h9 := q9.2.2 ((me - mm) - 1 - k) (by omega); rw [hY9]; exact h9)), hx56, hy9, hm38, hz9, hq9, hr9⟩, by rw [ht]; exact hP.sub [6, 0, 1, 2, 3, 4, 5, 7, 8, 9, 10, 11] rfl, va_K.moved hW.alike hK, hD.sub [6, 0, 1, 2, 3, 4, 5, 7, 8, 9, 10, 11] (by decide) rfl⟩, hS.F ht⟩) hS.2.2 d_Model_isSigned_404
                    · have p313 : ¬ (((3 + (me - mm - 3 - 19 - 32)) + 19) ≤ k) := (fun q9 => c313 ((nI_leI (a := ((3 + (me - mm - 3 - 19 - 32)) + 19)) (b := k) (by omega) (by omega)).mpr q9))
                      refine lv_iload hx hb d_Model_isSigned_316 (lv_at hl 11 rfl) ?_
                      refine lv_iconst (v := 3) hx hb d_Model_isSigned_318 (by decide) ?_
                      refine lv_isub hx hb d_Model_isSigned_319 ?_
                      rw [show ((nI k) - 3 : Int32) = nI (k - 3) from pk_sub (a := k) (b := 3) (by omega)]
                      refine lv_iload hx hb d_Model_isSigned_320 (lv_at hl 10 rfl) ?_
                      refine lv_isub hx hb d_Model_isSigned_322 ?_
                      rw [show ((nI (k - 3)) - (nI (me - mm - 3 - 19 - 32)) : Int32) = nI ((k - 3) - (me - mm - 3 - 19 - 32)) from pk_sub (a := (k - 3)) (b := (me - mm - 3 - 19 - 32)) (by omega)]
                      refine lv_istore (lv' := [(13, .int (nI ((k - 3) - (me - mm - 3 - 19 - 32)))), (11, .int (nI (vB 65536 y n / 256 ^ ((me - mm) - 1 - k) % 256))), (10, .int (nI (((me - mm) - 1) - k))), (0, .ref mo), (1, .ref t), (2, .ref t2), (3, .int (nI (me - mm))), (4, .int (nI k38)), (5, .int (nI k56)), (6, .int (nI n)), (7, .ref (sb.2 (10 + 3))), (8, .int (nI (me - mm - 3 - 19 - 32))), (9, .int (nI k))]) hx hb d_Model_isSigned_323 hl (by decide) rfl (fun ls hl => ?_)
                      refine lv_bipush (v := 16) hx hb d_Model_isSigned_325 (by decide) ?_
                      refine lv_aload hx hb d_Model_isSigned_327 (lv_at hl 10 rfl) ?_
                      refine lv_iconst (v := 2) hx hb d_Model_isSigned_329 (by decide) ?_
                      refine lv_iload hx hb d_Model_isSigned_330 (lv_at hl 0 rfl) ?_
                      refine lv_imul hx hb d_Model_isSigned_332 ?_
                      rw [show (2 * (nI ((k - 3) - (me - mm - 3 - 19 - 32))) : Int32) = nI (2 * ((k - 3) - (me - mm - 3 - 19 - 32))) from nI_mul 2 ((k - 3) - (me - mm - 3 - 19 - 32))]
                      refine vp_callSi (pu_callK (As := [.int (nI (2 * ((k - 3) - (me - mm - 3 - 19 - 32))))]) (rest := [.int 16]) ⟨hx, hb, hml, hown, hts⟩ tbin (c_Str_charAt l dC dI sb 3 kz3 (2 * ((k - 3) - (me - mm - 3 - 19 - 32))) kz3_at (by rw [kz3_len]; omega)) q8_209 q8_142 q8_143 q1_28 q8_144 (n := 1) (by decide +kernel) rfl ⟨rfl, rfl⟩ ⟨Nat.le_of_ble_eq_true rfl, Nat.le_of_ble_eq_true rfl⟩ ⟨Nat.le_of_ble_eq_true rfl, Nat.le_of_ble_eq_true rfl⟩ hN (hT0.keep hS hAs) hK hP [] rfl [] rfl (sk_recv ((hT0.keep hS hAs).2.2.2.2.2.2.1 3 kz3 kz3_at)) hl.1 rfl (Nat.le_of_ble_eq_true rfl) d_Model_isSigned_333) (fun r333 hr333 => ?_)
                      refine vp_callSi (pu_callS (As := [.int r333]) (rest := [.int 16]) ⟨hx, hb, hml, hown, hts⟩ tbin (c_Model_hexOf l dC dI sb r333) q9_128 q8_178 q1_9 q8_179 (n := 1) (by decide +kernel) rfl ⟨rfl, rfl⟩ ⟨Nat.le_of_ble_eq_true rfl, Nat.le_of_ble_eq_true rfl⟩ ⟨Nat.le_of_ble_eq_true rfl, Nat.le_of_ble_eq_true rfl⟩ hN (hT0.keep hS hAs) hK hP [] rfl [] rfl hl.1 rfl (Nat.le_of_ble_eq_true rfl) d_Model_isSigned_336) (fun r336 hr336 => ?_)
                      refine lv_imul hx hb d_Model_isSigned_339 ?_
                      refine lv_aload hx hb d_Model_isSigned_340 (lv_at hl 10 rfl) ?_
                      refine lv_iconst (v := 2) hx hb d_Model_isSigned_342 (by decide) ?_
                      refine lv_iload hx hb d_Model_isSigned_343 (lv_at hl 0 rfl) ?_
                      refine lv_imul hx hb d_Model_isSigned_345 ?_
                      rw [show (2 * (nI ((k - 3) - (me - mm - 3 - 19 - 32))) : Int32) = nI (2 * ((k - 3) - (me - mm - 3 - 19 - 32))) from nI_mul 2 ((k - 3) - (me - mm - 3 - 19 - 32))]
                      refine lv_iconst (v := 1) hx hb d_Model_isSigned_346 (by decide) ?_
                      refine lv_iadd hx hb d_Model_isSigned_347 ?_
                      rw [show ((nI (2 * ((k - 3) - (me - mm - 3 - 19 - 32)))) + 1 : Int32) = nI ((2 * ((k - 3) - (me - mm - 3 - 19 - 32))) + 1) from nI_add (2 * ((k - 3) - (me - mm - 3 - 19 - 32))) 1]
                      refine vp_callSi (pu_callK (As := [.int (nI ((2 * ((k - 3) - (me - mm - 3 - 19 - 32))) + 1))]) (rest := [.int (16 * r336)]) ⟨hx, hb, hml, hown, hts⟩ tbin (c_Str_charAt l dC dI sb 3 kz3 ((2 * ((k - 3) - (me - mm - 3 - 19 - 32))) + 1) kz3_at (by rw [kz3_len]; omega)) q8_209 q8_142 q8_143 q1_28 q8_144 (n := 1) (by decide +kernel) rfl ⟨rfl, rfl⟩ ⟨Nat.le_of_ble_eq_true rfl, Nat.le_of_ble_eq_true rfl⟩ ⟨Nat.le_of_ble_eq_true rfl, Nat.le_of_ble_eq_true rfl⟩ hN (hT0.keep hS hAs) hK hP [] rfl [] rfl (sk_recv ((hT0.keep hS hAs).2.2.2.2.2.2.1 3 kz3 kz3_at)) hl.1 rfl (Nat.le_of_ble_eq_true rfl) d_Model_isSigned_348) (fun r348 hr348 => ?_)
                      refine vp_callSi (pu_callS (As := [.int r348]) (rest := [.int (16 * r336)]) ⟨hx, hb, hml, hown, hts⟩ tbin (c_Model_hexOf l dC dI sb r348) q9_128 q8_178 q1_9 q8_179 (n := 1) (by decide +kernel) rfl ⟨rfl, rfl⟩ ⟨Nat.le_of_ble_eq_true rfl, Nat.le_of_ble_eq_true rfl⟩ ⟨Nat.le_of_ble_eq_true rfl, Nat.le_of_ble_eq_true rfl⟩ hN (hT0.keep hS hAs) hK hP [] rfl [] rfl hl.1 rfl (Nat.le_of_ble_eq_true rfl) d_Model_isSigned_351) (fun r351 hr351 => ?_)
                      refine lv_iadd hx hb d_Model_isSigned_354 ?_
                      rw [show ((16 * r336) + r351 : Int32) = nI (dueN (hsV u a b) (me - mm) ((me - mm) - 1 - k)) from by rw [hr336, hr333, hr351, hr348]; exact (pfx_hex _ (by omega)).trans (congrArg nI (due_p (by omega) (by omega) (by omega)))]
                      refine lv_istore (lv' := [(12, .int (nI (dueN (hsV u a b) (me - mm) ((me - mm) - 1 - k)))), (13, .int (nI ((k - 3) - (me - mm - 3 - 19 - 32)))), (11, .int (nI (vB 65536 y n / 256 ^ ((me - mm) - 1 - k) % 256))), (10, .int (nI (((me - mm) - 1) - k))), (0, .ref mo), (1, .ref t), (2, .ref t2), (3, .int (nI (me - mm))), (4, .int (nI k38)), (5, .int (nI k56)), (6, .int (nI n)), (7, .ref (sb.2 (10 + 3))), (8, .int (nI (me - mm - 3 - 19 - 32))), (9, .int (nI k))]) hx hb d_Model_isSigned_355 hl (by decide) rfl (fun ls hl => ?_)
                      refine lv_goto (tgt := 396) hx hb d_Model_isSigned_357 (by decide) ?_
                      have hdu9 := dueN_lt (hsV u a b) (me - mm) ((me - mm) - 1 - k)
                      refine lv_iload hx hb d_Model_isSigned_396 (lv_at hl 2 rfl) ?_
                      refine lv_iload hx hb d_Model_isSigned_398 (lv_at hl 0 rfl) ?_
                      refine lv_icmp_eq (tgt := 405) hx hb d_Model_isSigned_400 (by decide) (fun c400 => ?_) (fun c400 => ?_)
                      · have p400 : (vB 65536 y n / 256 ^ ((me - mm) - 1 - k) % 256) = (dueN (hsV u a b) (me - mm) ((me - mm) - 1 - k)) := ((nI_eq (a := (vB 65536 y n / 256 ^ ((me - mm) - 1 - k) % 256)) (b := (dueN (hsV u a b) (me - mm) ((me - mm) - 1 - k))) (by omega) (by omega)).mp c400)
                        refine lv_iinc (v := nI (k + 1)) (lv' := [(9, .int (nI (k + 1))), (12, .int (nI (dueN (hsV u a b) (me - mm) ((me - mm) - 1 - k)))), (13, .int (nI ((k - 3) - (me - mm - 3 - 19 - 32)))), (11, .int (nI (vB 65536 y n / 256 ^ ((me - mm) - 1 - k) % 256))), (10, .int (nI (((me - mm) - 1) - k))), (0, .ref mo), (1, .ref t), (2, .ref t2), (3, .int (nI (me - mm))), (4, .int (nI k38)), (5, .int (nI k56)), (6, .int (nI n)), (7, .ref (sb.2 (10 + 3))), (8, .int (nI (me - mm - 3 - 19 - 32)))]) hx hb d_Model_isSigned_405 hl (k := 13) rfl (nI_1 _) (by decide) rfl (fun ls hl => ?_)
                        refine lv_goto (tgt := 199) hx hb d_Model_isSigned_408 (by decide) ?_
                        exact ih (k + 1) ls (by omega) (⟨by omega, fg_next hJ.2 p400⟩) (lv_sub hl [5, 6, 7, 8, 9, 10, 11, 12, 13, 0] rfl)
                      · have p400 : ¬ ((vB 65536 y n / 256 ^ ((me - mm) - 1 - k) % 256) = (dueN (hsV u a b) (me - mm) ((me - mm) - 1 - k))) := (fun q9 => c400 ((nI_eq (a := (vB 65536 y n / 256 ^ ((me - mm) - 1 - k) % 256)) (b := (dueN (hsV u a b) (me - mm) ((me - mm) - 1 - k))) (by omega) (by omega)).mpr q9))
                        refine lv_iconst (v := 0) hx hb d_Model_isSigned_403 (by decide) ?_
                        exact W.zret (v := 0) hx hb hr (bz_n (bz_f not_false)) (fun t ht hW => ⟨⟨_, ((m56, y, m38, z, q, r), w, (stG (pdV u a b) bl (64 * hs_b (b - a)), (hs_n u a b (64 * hs_b (b - a)) (g, stG s0G f 8) (hs_b (b - a))).1, (hs_n u a b (64 * hs_b (b - a)) (g, stG s0G f 8) (hs_b (b - a))).2)), rfl, ⟨bz_f (fun q9 => p400 (by have h9 := q9.2.2 ((me - mm) - 1 - k) (by omega); rw [hY9]; exact h9)), hx56, hy9, hm38, hz9, hq9, hr9⟩, by rw [ht]; exact hP.sub [6, 0, 1, 2, 3, 4, 5, 7, 8, 9, 10, 11] rfl, va_K.moved hW.alike hK, hD.sub [6, 0, 1, 2, 3, 4, 5, 7, 8, 9, 10, 11] (by decide) rfl⟩, hS.F ht⟩) hS.2.2 d_Model_isSigned_404
                  · have p295 : k = (2 + (me - mm - 3 - 19 - 32)) := ((nI_eq (a := k) (b := (2 + (me - mm - 3 - 19 - 32))) (by omega) (by omega)).mp c295)
                    refine lv_iconst (v := 0) hx hb d_Model_isSigned_298 (by decide) ?_
                    rw [show (0 : Int32) = nI (dueN (hsV u a b) (me - mm) ((me - mm) - 1 - k)) from congrArg nI (due_51 (by omega))]
                    refine lv_istore (lv' := [(12, .int (nI (dueN (hsV u a b) (me - mm) ((me - mm) - 1 - k)))), (11, .int (nI (vB 65536 y n / 256 ^ ((me - mm) - 1 - k) % 256))), (10, .int (nI (((me - mm) - 1) - k))), (0, .ref mo), (1, .ref t), (2, .ref t2), (3, .int (nI (me - mm))), (4, .int (nI k38)), (5, .int (nI k56)), (6, .int (nI n)), (7, .ref (sb.2 (10 + 3))), (8, .int (nI (me - mm - 3 - 19 - 32))), (9, .int (nI k))]) hx hb d_Model_isSigned_299 hl (by decide) rfl (fun ls hl => ?_)
                    refine lv_goto (tgt := 396) hx hb d_Model_isSigned_301 (by decide) ?_
                    have hdu9 := dueN_lt (hsV u a b) (me - mm) ((me - mm) - 1 - k)
                    refine lv_iload hx hb d_Model_isSigned_396 (lv_at hl 1 rfl) ?_
                    refine lv_iload hx hb d_Model_isSigned_398 (lv_at hl 0 rfl) ?_
                    refine lv_icmp_eq (tgt := 405) hx hb d_Model_isSigned_400 (by decide) (fun c400 => ?_) (fun c400 => ?_)
                    · have p400 : (vB 65536 y n / 256 ^ ((me - mm) - 1 - k) % 256) = (dueN (hsV u a b) (me - mm) ((me - mm) - 1 - k)) := ((nI_eq (a := (vB 65536 y n / 256 ^ ((me - mm) - 1 - k) % 256)) (b := (dueN (hsV u a b) (me - mm) ((me - mm) - 1 - k))) (by omega) (by omega)).mp c400)
                      refine lv_iinc (v := nI (k + 1)) (lv' := [(9, .int (nI (k + 1))), (12, .int (nI (dueN (hsV u a b) (me - mm) ((me - mm) - 1 - k)))), (11, .int (nI (vB 65536 y n / 256 ^ ((me - mm) - 1 - k) % 256))), (10, .int (nI (((me - mm) - 1) - k))), (0, .ref mo), (1, .ref t), (2, .ref t2), (3, .int (nI (me - mm))), (4, .int (nI k38)), (5, .int (nI k56)), (6, .int (nI n)), (7, .ref (sb.2 (10 + 3))), (8, .int (nI (me - mm - 3 - 19 - 32)))]) hx hb d_Model_isSigned_405 hl (k := 12) rfl (nI_1 _) (by decide) rfl (fun ls hl => ?_)
                      refine lv_goto (tgt := 199) hx hb d_Model_isSigned_408 (by decide) ?_
                      exact ih (k + 1) ls (by omega) (⟨by omega, fg_next hJ.2 p400⟩) (lv_sub hl [4, 5, 6, 7, 8, 9, 10, 11, 12, 0] rfl)
                    · have p400 : ¬ ((vB 65536 y n / 256 ^ ((me - mm) - 1 - k) % 256) = (dueN (hsV u a b) (me - mm) ((me - mm) - 1 - k))) := (fun q9 => c400 ((nI_eq (a := (vB 65536 y n / 256 ^ ((me - mm) - 1 - k) % 256)) (b := (dueN (hsV u a b) (me - mm) ((me - mm) - 1 - k))) (by omega) (by omega)).mpr q9))
                      refine lv_iconst (v := 0) hx hb d_Model_isSigned_403 (by decide) ?_
                      exact W.zret (v := 0) hx hb hr (bz_n (bz_f not_false)) (fun t ht hW => ⟨⟨_, ((m56, y, m38, z, q, r), w, (stG (pdV u a b) bl (64 * hs_b (b - a)), (hs_n u a b (64 * hs_b (b - a)) (g, stG s0G f 8) (hs_b (b - a))).1, (hs_n u a b (64 * hs_b (b - a)) (g, stG s0G f 8) (hs_b (b - a))).2)), rfl, ⟨bz_f (fun q9 => p400 (by have h9 := q9.2.2 ((me - mm) - 1 - k) (by omega); rw [hY9]; exact h9)), hx56, hy9, hm38, hz9, hq9, hr9⟩, by rw [ht]; exact hP.sub [6, 0, 1, 2, 3, 4, 5, 7, 8, 9, 10, 11] rfl, va_K.moved hW.alike hK, hD.sub [6, 0, 1, 2, 3, 4, 5, 7, 8, 9, 10, 11] (by decide) rfl⟩, hS.F ht⟩) hS.2.2 d_Model_isSigned_404
                · have p278 : ¬ ((2 + (me - mm - 3 - 19 - 32)) ≤ k) := (fun q9 => c278 ((nI_leI (a := (2 + (me - mm - 3 - 19 - 32))) (b := k) (by omega) (by omega)).mpr q9))
                  refine lv_sipush (v := 255) hx hb d_Model_isSigned_281 (by decide) ?_
                  rw [show (255 : Int32) = nI (dueN (hsV u a b) (me - mm) ((me - mm) - 1 - k)) from congrArg nI (due_f (by omega) (by omega))]
                  refine lv_istore (lv' := [(12, .int (nI (dueN (hsV u a b) (me - mm) ((me - mm) - 1 - k)))), (11, .int (nI (vB 65536 y n / 256 ^ ((me - mm) - 1 - k) % 256))), (10, .int (nI (((me - mm) - 1) - k))), (0, .ref mo), (1, .ref t), (2, .ref t2), (3, .int (nI (me - mm))), (4, .int (nI k38)), (5, .int (nI k56)), (6, .int (nI n)), (7, .ref (sb.2 (10 + 3))), (8, .int (nI (me - mm - 3 - 19 - 32))), (9, .int (nI k))]) hx hb d_Model_isSigned_284 hl (by decide) rfl (fun ls hl => ?_)
                  refine lv_goto (tgt := 396) hx hb d_Model_isSigned_286 (by decide) ?_
                  have hdu9 := dueN_lt (hsV u a b) (me - mm) ((me - mm) - 1 - k)
                  refine lv_iload hx hb d_Model_isSigned_396 (lv_at hl 1 rfl) ?_
                  refine lv_iload hx hb d_Model_isSigned_398 (lv_at hl 0 rfl) ?_
                  refine lv_icmp_eq (tgt := 405) hx hb d_Model_isSigned_400 (by decide) (fun c400 => ?_) (fun c400 => ?_)
                  · have p400 : (vB 65536 y n / 256 ^ ((me - mm) - 1 - k) % 256) = (dueN (hsV u a b) (me - mm) ((me - mm) - 1 - k)) := ((nI_eq (a := (vB 65536 y n / 256 ^ ((me - mm) - 1 - k) % 256)) (b := (dueN (hsV u a b) (me - mm) ((me - mm) - 1 - k))) (by omega) (by omega)).mp c400)
                    refine lv_iinc (v := nI (k + 1)) (lv' := [(9, .int (nI (k + 1))), (12, .int (nI (dueN (hsV u a b) (me - mm) ((me - mm) - 1 - k)))), (11, .int (nI (vB 65536 y n / 256 ^ ((me - mm) - 1 - k) % 256))), (10, .int (nI (((me - mm) - 1) - k))), (0, .ref mo), (1, .ref t), (2, .ref t2), (3, .int (nI (me - mm))), (4, .int (nI k38)), (5, .int (nI k56)), (6, .int (nI n)), (7, .ref (sb.2 (10 + 3))), (8, .int (nI (me - mm - 3 - 19 - 32)))]) hx hb d_Model_isSigned_405 hl (k := 12) rfl (nI_1 _) (by decide) rfl (fun ls hl => ?_)
                    refine lv_goto (tgt := 199) hx hb d_Model_isSigned_408 (by decide) ?_
                    exact ih (k + 1) ls (by omega) (⟨by omega, fg_next hJ.2 p400⟩) (lv_sub hl [4, 5, 6, 7, 8, 9, 10, 11, 12, 0] rfl)
                  · have p400 : ¬ ((vB 65536 y n / 256 ^ ((me - mm) - 1 - k) % 256) = (dueN (hsV u a b) (me - mm) ((me - mm) - 1 - k))) := (fun q9 => c400 ((nI_eq (a := (vB 65536 y n / 256 ^ ((me - mm) - 1 - k) % 256)) (b := (dueN (hsV u a b) (me - mm) ((me - mm) - 1 - k))) (by omega) (by omega)).mpr q9))
                    refine lv_iconst (v := 0) hx hb d_Model_isSigned_403 (by decide) ?_
                    exact W.zret (v := 0) hx hb hr (bz_n (bz_f not_false)) (fun t ht hW => ⟨⟨_, ((m56, y, m38, z, q, r), w, (stG (pdV u a b) bl (64 * hs_b (b - a)), (hs_n u a b (64 * hs_b (b - a)) (g, stG s0G f 8) (hs_b (b - a))).1, (hs_n u a b (64 * hs_b (b - a)) (g, stG s0G f 8) (hs_b (b - a))).2)), rfl, ⟨bz_f (fun q9 => p400 (by have h9 := q9.2.2 ((me - mm) - 1 - k) (by omega); rw [hY9]; exact h9)), hx56, hy9, hm38, hz9, hq9, hr9⟩, by rw [ht]; exact hP.sub [6, 0, 1, 2, 3, 4, 5, 7, 8, 9, 10, 11] rfl, va_K.moved hW.alike hK, hD.sub [6, 0, 1, 2, 3, 4, 5, 7, 8, 9, 10, 11] (by decide) rfl⟩, hS.F ht⟩) hS.2.2 d_Model_isSigned_404
              · have p263 : k = 1 := ((nI_eq (a := k) (b := 1) (by omega) (by omega)).mp c263)
                refine lv_iconst (v := 1) hx hb d_Model_isSigned_266 (by decide) ?_
                rw [show (1 : Int32) = nI (dueN (hsV u a b) (me - mm) ((me - mm) - 1 - k)) from congrArg nI (due_1 hc62 (by omega))]
                refine lv_istore (lv' := [(12, .int (nI (dueN (hsV u a b) (me - mm) ((me - mm) - 1 - k)))), (11, .int (nI (vB 65536 y n / 256 ^ ((me - mm) - 1 - k) % 256))), (10, .int (nI (((me - mm) - 1) - k))), (0, .ref mo), (1, .ref t), (2, .ref t2), (3, .int (nI (me - mm))), (4, .int (nI k38)), (5, .int (nI k56)), (6, .int (nI n)), (7, .ref (sb.2 (10 + 3))), (8, .int (nI (me - mm - 3 - 19 - 32))), (9, .int (nI k))]) hx hb d_Model_isSigned_267 hl (by decide) rfl (fun ls hl => ?_)
                refine lv_goto (tgt := 396) hx hb d_Model_isSigned_269 (by decide) ?_
                have hdu9 := dueN_lt (hsV u a b) (me - mm) ((me - mm) - 1 - k)
                refine lv_iload hx hb d_Model_isSigned_396 (lv_at hl 1 rfl) ?_
                refine lv_iload hx hb d_Model_isSigned_398 (lv_at hl 0 rfl) ?_
                refine lv_icmp_eq (tgt := 405) hx hb d_Model_isSigned_400 (by decide) (fun c400 => ?_) (fun c400 => ?_)
                · have p400 : (vB 65536 y n / 256 ^ ((me - mm) - 1 - k) % 256) = (dueN (hsV u a b) (me - mm) ((me - mm) - 1 - k)) := ((nI_eq (a := (vB 65536 y n / 256 ^ ((me - mm) - 1 - k) % 256)) (b := (dueN (hsV u a b) (me - mm) ((me - mm) - 1 - k))) (by omega) (by omega)).mp c400)
                  refine lv_iinc (v := nI (k + 1)) (lv' := [(9, .int (nI (k + 1))), (12, .int (nI (dueN (hsV u a b) (me - mm) ((me - mm) - 1 - k)))), (11, .int (nI (vB 65536 y n / 256 ^ ((me - mm) - 1 - k) % 256))), (10, .int (nI (((me - mm) - 1) - k))), (0, .ref mo), (1, .ref t), (2, .ref t2), (3, .int (nI (me - mm))), (4, .int (nI k38)), (5, .int (nI k56)), (6, .int (nI n)), (7, .ref (sb.2 (10 + 3))), (8, .int (nI (me - mm - 3 - 19 - 32)))]) hx hb d_Model_isSigned_405 hl (k := 12) rfl (nI_1 _) (by decide) rfl (fun ls hl => ?_)
                  refine lv_goto (tgt := 199) hx hb d_Model_isSigned_408 (by decide) ?_
                  exact ih (k + 1) ls (by omega) (⟨by omega, fg_next hJ.2 p400⟩) (lv_sub hl [4, 5, 6, 7, 8, 9, 10, 11, 12, 0] rfl)
                · have p400 : ¬ ((vB 65536 y n / 256 ^ ((me - mm) - 1 - k) % 256) = (dueN (hsV u a b) (me - mm) ((me - mm) - 1 - k))) := (fun q9 => c400 ((nI_eq (a := (vB 65536 y n / 256 ^ ((me - mm) - 1 - k) % 256)) (b := (dueN (hsV u a b) (me - mm) ((me - mm) - 1 - k))) (by omega) (by omega)).mpr q9))
                  refine lv_iconst (v := 0) hx hb d_Model_isSigned_403 (by decide) ?_
                  exact W.zret (v := 0) hx hb hr (bz_n (bz_f not_false)) (fun t ht hW => ⟨⟨_, ((m56, y, m38, z, q, r), w, (stG (pdV u a b) bl (64 * hs_b (b - a)), (hs_n u a b (64 * hs_b (b - a)) (g, stG s0G f 8) (hs_b (b - a))).1, (hs_n u a b (64 * hs_b (b - a)) (g, stG s0G f 8) (hs_b (b - a))).2)), rfl, ⟨bz_f (fun q9 => p400 (by have h9 := q9.2.2 ((me - mm) - 1 - k) (by omega); rw [hY9]; exact h9)), hx56, hy9, hm38, hz9, hq9, hr9⟩, by rw [ht]; exact hP.sub [6, 0, 1, 2, 3, 4, 5, 7, 8, 9, 10, 11] rfl, va_K.moved hW.alike hK, hD.sub [6, 0, 1, 2, 3, 4, 5, 7, 8, 9, 10, 11] (by decide) rfl⟩, hS.F ht⟩) hS.2.2 d_Model_isSigned_404
            · have p251 : k = 0 := ((nI_eq (a := k) (b := 0) (by omega) (by omega)).mp c251)
              refine lv_iconst (v := 0) hx hb d_Model_isSigned_254 (by decide) ?_
              rw [show (0 : Int32) = nI (dueN (hsV u a b) (me - mm) ((me - mm) - 1 - k)) from congrArg nI (due_0 hc62 (by omega))]
              refine lv_istore (lv' := [(12, .int (nI (dueN (hsV u a b) (me - mm) ((me - mm) - 1 - k)))), (11, .int (nI (vB 65536 y n / 256 ^ ((me - mm) - 1 - k) % 256))), (10, .int (nI (((me - mm) - 1) - k))), (0, .ref mo), (1, .ref t), (2, .ref t2), (3, .int (nI (me - mm))), (4, .int (nI k38)), (5, .int (nI k56)), (6, .int (nI n)), (7, .ref (sb.2 (10 + 3))), (8, .int (nI (me - mm - 3 - 19 - 32))), (9, .int (nI k))]) hx hb d_Model_isSigned_255 hl (by decide) rfl (fun ls hl => ?_)
              refine lv_goto (tgt := 396) hx hb d_Model_isSigned_257 (by decide) ?_
              have hdu9 := dueN_lt (hsV u a b) (me - mm) ((me - mm) - 1 - k)
              refine lv_iload hx hb d_Model_isSigned_396 (lv_at hl 1 rfl) ?_
              refine lv_iload hx hb d_Model_isSigned_398 (lv_at hl 0 rfl) ?_
              refine lv_icmp_eq (tgt := 405) hx hb d_Model_isSigned_400 (by decide) (fun c400 => ?_) (fun c400 => ?_)
              · have p400 : (vB 65536 y n / 256 ^ ((me - mm) - 1 - k) % 256) = (dueN (hsV u a b) (me - mm) ((me - mm) - 1 - k)) := ((nI_eq (a := (vB 65536 y n / 256 ^ ((me - mm) - 1 - k) % 256)) (b := (dueN (hsV u a b) (me - mm) ((me - mm) - 1 - k))) (by omega) (by omega)).mp c400)
                refine lv_iinc (v := nI (k + 1)) (lv' := [(9, .int (nI (k + 1))), (12, .int (nI (dueN (hsV u a b) (me - mm) ((me - mm) - 1 - k)))), (11, .int (nI (vB 65536 y n / 256 ^ ((me - mm) - 1 - k) % 256))), (10, .int (nI (((me - mm) - 1) - k))), (0, .ref mo), (1, .ref t), (2, .ref t2), (3, .int (nI (me - mm))), (4, .int (nI k38)), (5, .int (nI k56)), (6, .int (nI n)), (7, .ref (sb.2 (10 + 3))), (8, .int (nI (me - mm - 3 - 19 - 32)))]) hx hb d_Model_isSigned_405 hl (k := 12) rfl (nI_1 _) (by decide) rfl (fun ls hl => ?_)
                refine lv_goto (tgt := 199) hx hb d_Model_isSigned_408 (by decide) ?_
                exact ih (k + 1) ls (by omega) (⟨by omega, fg_next hJ.2 p400⟩) (lv_sub hl [4, 5, 6, 7, 8, 9, 10, 11, 12, 0] rfl)
              · have p400 : ¬ ((vB 65536 y n / 256 ^ ((me - mm) - 1 - k) % 256) = (dueN (hsV u a b) (me - mm) ((me - mm) - 1 - k))) := (fun q9 => c400 ((nI_eq (a := (vB 65536 y n / 256 ^ ((me - mm) - 1 - k) % 256)) (b := (dueN (hsV u a b) (me - mm) ((me - mm) - 1 - k))) (by omega) (by omega)).mpr q9))
                refine lv_iconst (v := 0) hx hb d_Model_isSigned_403 (by decide) ?_
                exact W.zret (v := 0) hx hb hr (bz_n (bz_f not_false)) (fun t ht hW => ⟨⟨_, ((m56, y, m38, z, q, r), w, (stG (pdV u a b) bl (64 * hs_b (b - a)), (hs_n u a b (64 * hs_b (b - a)) (g, stG s0G f 8) (hs_b (b - a))).1, (hs_n u a b (64 * hs_b (b - a)) (g, stG s0G f 8) (hs_b (b - a))).2)), rfl, ⟨bz_f (fun q9 => p400 (by have h9 := q9.2.2 ((me - mm) - 1 - k) (by omega); rw [hY9]; exact h9)), hx56, hy9, hm38, hz9, hq9, hr9⟩, by rw [ht]; exact hP.sub [6, 0, 1, 2, 3, 4, 5, 7, 8, 9, 10, 11] rfl, va_K.moved hW.alike hK, hD.sub [6, 0, 1, 2, 3, 4, 5, 7, 8, 9, 10, 11] (by decide) rfl⟩, hS.F ht⟩) hS.2.2 d_Model_isSigned_404
      · have hJ103 : (j + 1) ≤ b9 + 1 ∧ n ≤ k38 ∧ (∀ j, y j < 65536) ∧ (∀ j, z j < 65536) ∧ (∀ j, q j < 131072) ∧ (∀ j, r j < 65536) ∧ vB 65536 y n = (vB 256 os (se - sg)) ^ (ex / 2 ^ (j + 1)) % (vB 256 om (me - mm)) := hJ103
        obtain ⟨hj9, hn9, hy9, hz9, hq9, hr9, hv9⟩ := hJ103
        have hl : lv_has ls 14 [(0, .ref mo), (1, .ref t), (2, .ref t2), (3, .int (nI (me - mm))), (4, .int (nI k38)), (5, .int (nI k56)), (6, .int (nI n)), (7, .int (nI j))] := hl
        have hP : va_P (dC, dI) classes [(mo, .inr (12, (.int mer :: .int mfed :: .int mwr :: .int mct :: .int mls :: .ref moc :: .ref msT :: .ref mrV :: .ref msP :: .int w :: .ref mrA :: .ref mbA :: .ref mwA :: .ref mhA :: .ref mfA :: .ref mpA :: .ref mxA :: .ref myA :: .ref mmA :: .ref mqA :: .ref mzA :: .ref mwy :: .ref mfd :: .int msz :: .int mcz :: .int mch :: .int mft :: .int mpt :: .int mdp :: .int mvd :: .long mnw :: .int mmk :: []))), (mxA, .inl (cI, 600, .inl (tI m56))), (myA, .inl (cI, 600, .inl (tI y))), (mmA, .inl (cI, 600, .inl (tI m38))), (mzA, .inl (cI, 600, .inl (tI z))), (mqA, .inl (cI, 600, .inl (tI q))), (mrA, .inl (cI, 600, .inl (tI r))), (mbA, .inl (cI, 2176, .inl bl)), (mwA, .inl (cI, 64, .inl g)), (mhA, .inl (cI, 8, .inl f)), (mfA, .inl (cI, 8, .inl fif)), (mpA, .inl (cI, 64, .inl pmf))] HL103 := hP
        have hD : va_D A [(mo, .inr (12, (.int mer :: .int mfed :: .int mwr :: .int mct :: .int mls :: .ref moc :: .ref msT :: .ref mrV :: .ref msP :: .int w :: .ref mrA :: .ref mbA :: .ref mwA :: .ref mhA :: .ref mfA :: .ref mpA :: .ref mxA :: .ref myA :: .ref mmA :: .ref mqA :: .ref mzA :: .ref mwy :: .ref mfd :: .int msz :: .int mcz :: .int mch :: .int mft :: .int mpt :: .int mdp :: .int mvd :: .long mnw :: .int mmk :: []))), (mxA, .inl (cI, 600, .inl (tI m56))), (myA, .inl (cI, 600, .inl (tI y))), (mmA, .inl (cI, 600, .inl (tI m38))), (mzA, .inl (cI, 600, .inl (tI z))), (mqA, .inl (cI, 600, .inl (tI q))), (mrA, .inl (cI, 600, .inl (tI r))), (mbA, .inl (cI, 2176, .inl bl)), (mwA, .inl (cI, 64, .inl g)), (mhA, .inl (cI, 8, .inl f)), (mfA, .inl (cI, 8, .inl fif)), (mpA, .inl (cI, 64, .inl pmf))] := hD
        refine lv_iload hx hb d_Model_isSigned_103 (lv_at hl 7 rfl) ?_
        refine lv_if_lt (tgt := 166) hx hb d_Model_isSigned_105 (by decide) (fun c105 => ?_) (fun c105 => ?_)
        · exact absurd c105 (nI_nn (by omega))
        refine lv_aload_n hx hb d_Model_isSigned_108 rfl (lv_at hl 0 rfl) ?_
        refine lv_aload_n hx hb d_Model_isSigned_109 rfl (lv_at hl 0 rfl) ?_
        refine va_get (v := .ref myA) hx hb htb i_Model hown hK hP 0 rfl rfl 17 (by decide) (htb _ q7_231) (fun _ h9 => h9) rfl d_Model_isSigned_110 ?_
        refine lv_iload hx hb d_Model_isSigned_113 (lv_at hl 6 rfl) ?_
        refine lv_aload_n hx hb d_Model_isSigned_115 rfl (lv_at hl 0 rfl) ?_
        refine va_get (v := .ref myA) hx hb htb i_Model hown hK hP 0 rfl rfl 17 (by decide) (htb _ q7_231) (fun _ h9 => h9) rfl d_Model_isSigned_116 ?_
        refine lv_iload hx hb d_Model_isSigned_119 (lv_at hl 6 rfl) ?_
        refine lv_iload hx hb d_Model_isSigned_121 (lv_at hl 4 rfl) ?_
        have hFc := va_free (wc := [(mo, .inr (12, (.int mer :: .int mfed :: .int mwr :: .int mct :: .int mls :: .ref moc :: .ref msT :: .ref mrV :: .ref msP :: .int w :: .ref mrA :: .ref mbA :: .ref mwA :: .ref mhA :: .ref mfA :: .ref mpA :: .ref mxA :: .ref myA :: .ref mmA :: .ref mqA :: .ref mzA :: .ref mwy :: .ref mfd :: .int msz :: .int mcz :: .int mch :: .int mft :: .int mpt :: .int mdp :: .int mvd :: .long mnw :: .int mmk :: []))), (myA, .inl (cI, 600, .inl (tI y))), (mzA, .inl (cI, 600, .inl (tI z))), (mmA, .inl (cI, 600, .inl (tI m38))), (mqA, .inl (cI, 600, .inl (tI q))), (mrA, .inl (cI, 600, .inl (tI r)))]) hD hS hA [0, 2, 4, 3, 5, 6] rfl
        refine va_calli (mu_runV (As := [.ref myA, .int (nI n), .ref myA, .int (nI n), .int (nI k38)]) (rest := []) ⟨hx, hb, hml, hown, hts⟩ tbin (x_Model_red1 l dC dI sb mo moc msT mrV msP mrA mbA mwA mhA mfA mpA mxA myA mmA mqA mzA mwy mfd mer mfed mwr mct mls w msz mcz mch mft mpt mdp mvd mmk mnw n k38 cI y z m38 q r HL103.size (by omega) hk38 (by omega) hy9 hz9 hm38 hq9 hr9 hb38) q9_113 q9_115 qp_43 q1_9 q9_116 (n := 5) (by decide +kernel) rfl ⟨rfl, rfl⟩ ⟨Nat.le_of_ble_eq_true rfl, Nat.le_of_ble_eq_true rfl⟩ ⟨Nat.le_of_ble_eq_true rfl, Nat.le_of_ble_eq_true rfl⟩ hN (hT0.keep hS hAs) hAs (Nat.le_trans hB0 hS.1) hK hP hD [0, 2, 4, 3, 5, 6] (by decide) rfl [0] rfl 0 12 rfl rfl rfl hl.1 rfl (Nat.le_of_ble_eq_true rfl) d_Model_isSigned_123) hS (fun q _ h => hFc q h) hFc (fun r123 u123 tS H123 locs ht hvm hw123 hB hz1 hk1 hS => ?_)
        obtain ⟨n123, y123, z123, q123, s123, w123⟩ := u123
        obtain ⟨hP1, hK1, hD1⟩ := hB
        rw [ht] at hP1
        obtain ⟨hP, hD⟩ := va_join (wr := [(mxA, .inl (cI, 600, .inl (tI m56))), (mbA, .inl (cI, 2176, .inl bl)), (mwA, .inl (cI, 64, .inl g)), (mhA, .inl (cI, 8, .inl f)), (mfA, .inl (cI, 8, .inl fif)), (mpA, .inl (cI, 64, .inl pmf))]) (w1 := [(mo, .inr (12, (.int mer :: .int mfed :: .int mwr :: .int mct :: .int mls :: .ref moc :: .ref msT :: .ref mrV :: .ref msP :: .int w123 :: .ref mrA :: .ref mbA :: .ref mwA :: .ref mhA :: .ref mfA :: .ref mpA :: .ref mxA :: .ref myA :: .ref mmA :: .ref mqA :: .ref mzA :: .ref mwy :: .ref mfd :: .int msz :: .int mcz :: .int mch :: .int mft :: .int mpt :: .int mdp :: .int mvd :: .long mnw :: .int mmk :: []))), (myA, .inl (cI, 600, .inl (tI y123))), (mzA, .inl (cI, 600, .inl (tI z123))), (mmA, .inl (cI, 600, .inl (tI m38))), (mqA, .inl (cI, 600, .inl (tI q123))), (mrA, .inl (cI, 600, .inl (tI s123)))]) hP hD [0, 2, 4, 3, 5, 6] [1, 7, 8, 9, 10, 11] rfl rfl (by decide) (by decide) hk1 hFc hP1 hD1
        have hP : va_P (dC, dI) classes [(mxA, .inl (cI, 600, .inl (tI m56))), (mbA, .inl (cI, 2176, .inl bl)), (mwA, .inl (cI, 64, .inl g)), (mhA, .inl (cI, 8, .inl f)), (mfA, .inl (cI, 8, .inl fif)), (mpA, .inl (cI, 64, .inl pmf)), (mo, .inr (12, (.int mer :: .int mfed :: .int mwr :: .int mct :: .int mls :: .ref moc :: .ref msT :: .ref mrV :: .ref msP :: .int w123 :: .ref mrA :: .ref mbA :: .ref mwA :: .ref mhA :: .ref mfA :: .ref mpA :: .ref mxA :: .ref myA :: .ref mmA :: .ref mqA :: .ref mzA :: .ref mwy :: .ref mfd :: .int msz :: .int mcz :: .int mch :: .int mft :: .int mpt :: .int mdp :: .int mvd :: .long mnw :: .int mmk :: []))), (myA, .inl (cI, 600, .inl (tI y123))), (mzA, .inl (cI, 600, .inl (tI z123))), (mmA, .inl (cI, 600, .inl (tI m38))), (mqA, .inl (cI, 600, .inl (tI q123))), (mrA, .inl (cI, 600, .inl (tI s123)))] H123 := hP
        have hD : va_D A [(mxA, .inl (cI, 600, .inl (tI m56))), (mbA, .inl (cI, 2176, .inl bl)), (mwA, .inl (cI, 64, .inl g)), (mhA, .inl (cI, 8, .inl f)), (mfA, .inl (cI, 8, .inl fif)), (mpA, .inl (cI, 64, .inl pmf)), (mo, .inr (12, (.int mer :: .int mfed :: .int mwr :: .int mct :: .int mls :: .ref moc :: .ref msT :: .ref mrV :: .ref msP :: .int w123 :: .ref mrA :: .ref mbA :: .ref mwA :: .ref mhA :: .ref mfA :: .ref mpA :: .ref mxA :: .ref myA :: .ref mmA :: .ref mqA :: .ref mzA :: .ref mwy :: .ref mfd :: .int msz :: .int mcz :: .int mch :: .int mft :: .int mpt :: .int mdp :: .int mvd :: .long mnw :: .int mmk :: []))), (myA, .inl (cI, 600, .inl (tI y123))), (mzA, .inl (cI, 600, .inl (tI z123))), (mmA, .inl (cI, 600, .inl (tI m38))), (mqA, .inl (cI, 600, .inl (tI q123))), (mrA, .inl (cI, 600, .inl (tI s123)))] := hD
        rw [show (r123 : Int32) = nI n123 from hw123.1]
        refine lv_istore (lv' := [(6, .int (nI n123)), (0, .ref mo), (1, .ref t), (2, .ref t2), (3, .int (nI (me - mm))), (4, .int (nI k38)), (5, .int (nI k56)), (7, .int (nI j))]) hx hb d_Model_isSigned_126 hl (by decide) rfl (fun ls hl => ?_)
        have hn123 := hw123.2.1
        refine lv_aload_n hx hb d_Model_isSigned_128 rfl (lv_at hl 3 rfl) ?_
        refine va_get (v := .int (x2.I 20)) hx hb htb i_Text hown hK (mf_keep hF0 hFA0 hS) 2 rfl rfl 20 (by decide) (htb _ q6_213) (fun _ h9 => h9) rfl d_Model_isSigned_129 ?_
        refine lv_topi (fun x132 e132 => ?_)
        obtain rfl : x132 = nI ex := e132.trans g20
        refine lv_iload hx hb d_Model_isSigned_132 (lv_at hl 7 rfl) ?_
        refine lv_ishr hx hb d_Model_isSigned_134 ?_
        refine lv_iconst (v := 1) hx hb d_Model_isSigned_135 (by decide) ?_
        refine lv_iand hx hb d_Model_isSigned_136 ?_
        rw [show (((nI ex) >>> ((nI j) &&& 31)) &&& 1 : Int32) = nI (ex / 2 ^ j % 2) from bit_i he2 (by omega)]
        refine lv_if_eq (tgt := 160) hx hb d_Model_isSigned_137 (by decide) (fun c137 => ?_) (fun c137 => ?_)
        · have p137 : (ex / 2 ^ j % 2) = 0 := ((nI_eq (a := (ex / 2 ^ j % 2)) (b := 0) (by omega) (by omega)).mp c137)
          skip
          refine lv_iinc (v := jD j) (lv' := [(7, .int (jD j)), (6, .int (nI n123)), (0, .ref mo), (1, .ref t), (2, .ref t2), (3, .int (nI (me - mm))), (4, .int (nI k38)), (5, .int (nI k56))]) hx hb d_Model_isSigned_160 hl (k := 7) rfl (jD_dec j) (by decide) rfl (fun ls hl => ?_)
          refine lv_goto (tgt := 103) hx hb d_Model_isSigned_163 (by decide) ?_
          have hq8 : vB 65536 y123 n123 = (vB 256 os (se - sg)) ^ (2 * (ex / 2 ^ (j + 1))) % (vB 256 om (me - mm)) := by rw [hw123.2.2.2.1, hw38.2.2.2.1]; exact pw_sq hv9
          have hq7 : vB 65536 y123 n123 = (vB 256 os (se - sg)) ^ (ex / 2 ^ j) % (vB 256 om (me - mm)) := by rw [hq8, bit_s ex j, p137, Nat.add_zero (2 * (ex / 2 ^ (j + 1)))]
          exact ih103 (j, n123, y123, z123, q123, s123, w123) _ _ ls (Nat.lt_succ_self _) ⟨by show j ≤ b9 + 1; omega, hw123.2.1, hw123.2.2.2.2.1, hw123.2.2.2.2.2.1, hw123.2.2.2.2.2.2.1, hw123.2.2.2.2.2.2.2, hq7⟩ (hP.sub [6, 0, 7, 9, 8, 10, 11, 1, 2, 3, 4, 5] rfl) (hD.sub [6, 0, 7, 9, 8, 10, 11, 1, 2, 3, 4, 5] (by decide) rfl) hS (lv_sub hl [2, 3, 4, 5, 6, 7, 1, 0] rfl)
        · have p137 : ¬ ((ex / 2 ^ j % 2) = 0) := (fun q9 => c137 ((nI_eq (a := (ex / 2 ^ j % 2)) (b := 0) (by omega) (by omega)).mpr q9))
          refine lv_aload_n hx hb d_Model_isSigned_140 rfl (lv_at hl 1 rfl) ?_
          refine lv_aload_n hx hb d_Model_isSigned_141 rfl (lv_at hl 1 rfl) ?_
          refine va_get (v := .ref myA) hx hb htb i_Model hown hK hP 6 rfl rfl 17 (by decide) (htb _ q7_231) (fun _ h9 => h9) rfl d_Model_isSigned_142 ?_
          refine lv_iload hx hb d_Model_isSigned_145 (lv_at hl 0 rfl) ?_
          refine lv_aload_n hx hb d_Model_isSigned_147 rfl (lv_at hl 1 rfl) ?_
          refine va_get (v := .ref mxA) hx hb htb i_Model hown hK hP 6 rfl rfl 16 (by decide) (htb _ q7_230) (fun _ h9 => h9) rfl d_Model_isSigned_148 ?_
          refine lv_iload hx hb d_Model_isSigned_151 (lv_at hl 6 rfl) ?_
          refine lv_iload hx hb d_Model_isSigned_153 (lv_at hl 5 rfl) ?_
          have hFc := va_free (wc := [(mo, .inr (12, (.int mer :: .int mfed :: .int mwr :: .int mct :: .int mls :: .ref moc :: .ref msT :: .ref mrV :: .ref msP :: .int w123 :: .ref mrA :: .ref mbA :: .ref mwA :: .ref mhA :: .ref mfA :: .ref mpA :: .ref mxA :: .ref myA :: .ref mmA :: .ref mqA :: .ref mzA :: .ref mwy :: .ref mfd :: .int msz :: .int mcz :: .int mch :: .int mft :: .int mpt :: .int mdp :: .int mvd :: .long mnw :: .int mmk :: []))), (myA, .inl (cI, 600, .inl (tI y123))), (mxA, .inl (cI, 600, .inl (tI m56))), (mzA, .inl (cI, 600, .inl (tI z123))), (mmA, .inl (cI, 600, .inl (tI m38))), (mqA, .inl (cI, 600, .inl (tI q123))), (mrA, .inl (cI, 600, .inl (tI s123)))]) hD hS hA [6, 7, 0, 8, 9, 10, 11] rfl
          refine va_calli (mu_runV (As := [.ref myA, .int (nI n123), .ref mxA, .int (nI k56), .int (nI k38)]) (rest := []) ⟨hx, hb, hml, hown, hts⟩ tbin (x_Model_red2 l dC dI sb mo moc msT mrV msP mrA mbA mwA mhA mfA mpA mxA myA mmA mqA mzA mwy mfd mer mfed mwr mct mls w123 msz mcz mch mft mpt mdp mvd mmk mnw n123 k56 k38 cI y123 m56 z123 m38 q123 s123 H123.size (by omega) hk38 (by omega) hw123.2.2.2.2.1 hx56 hw123.2.2.2.2.2.1 hm38 hw123.2.2.2.2.2.2.1 hw123.2.2.2.2.2.2.2 hb38) q9_113 q9_115 qp_43 q1_9 q9_116 (n := 5) (by decide +kernel) rfl ⟨rfl, rfl⟩ ⟨Nat.le_of_ble_eq_true rfl, Nat.le_of_ble_eq_true rfl⟩ ⟨Nat.le_of_ble_eq_true rfl, Nat.le_of_ble_eq_true rfl⟩ hN (hT0.keep hS hAs) hAs (Nat.le_trans hB0 hS.1) hK hP hD [6, 7, 0, 8, 9, 10, 11] (by decide) rfl [0] rfl 6 12 rfl rfl rfl hl.1 rfl (Nat.le_of_ble_eq_true rfl) d_Model_isSigned_155) hS (fun q _ h => hFc q h) hFc (fun r155 u155 tS H155 locs ht hvm hw155 hB hz1 hk1 hS => ?_)
          obtain ⟨n155, y155, z155, q155, s155, w155⟩ := u155
          obtain ⟨hP1, hK1, hD1⟩ := hB
          rw [ht] at hP1
          obtain ⟨hP, hD⟩ := va_join (wr := [(mbA, .inl (cI, 2176, .inl bl)), (mwA, .inl (cI, 64, .inl g)), (mhA, .inl (cI, 8, .inl f)), (mfA, .inl (cI, 8, .inl fif)), (mpA, .inl (cI, 64, .inl pmf))]) (w1 := [(mo, .inr (12, (.int mer :: .int mfed :: .int mwr :: .int mct :: .int mls :: .ref moc :: .ref msT :: .ref mrV :: .ref msP :: .int w155 :: .ref mrA :: .ref mbA :: .ref mwA :: .ref mhA :: .ref mfA :: .ref mpA :: .ref mxA :: .ref myA :: .ref mmA :: .ref mqA :: .ref mzA :: .ref mwy :: .ref mfd :: .int msz :: .int mcz :: .int mch :: .int mft :: .int mpt :: .int mdp :: .int mvd :: .long mnw :: .int mmk :: []))), (myA, .inl (cI, 600, .inl (tI y155))), (mxA, .inl (cI, 600, .inl (tI m56))), (mzA, .inl (cI, 600, .inl (tI z155))), (mmA, .inl (cI, 600, .inl (tI m38))), (mqA, .inl (cI, 600, .inl (tI q155))), (mrA, .inl (cI, 600, .inl (tI s155)))]) hP hD [6, 7, 0, 8, 9, 10, 11] [1, 2, 3, 4, 5] rfl rfl (by decide) (by decide) hk1 hFc hP1 hD1
          have hP : va_P (dC, dI) classes [(mbA, .inl (cI, 2176, .inl bl)), (mwA, .inl (cI, 64, .inl g)), (mhA, .inl (cI, 8, .inl f)), (mfA, .inl (cI, 8, .inl fif)), (mpA, .inl (cI, 64, .inl pmf)), (mo, .inr (12, (.int mer :: .int mfed :: .int mwr :: .int mct :: .int mls :: .ref moc :: .ref msT :: .ref mrV :: .ref msP :: .int w155 :: .ref mrA :: .ref mbA :: .ref mwA :: .ref mhA :: .ref mfA :: .ref mpA :: .ref mxA :: .ref myA :: .ref mmA :: .ref mqA :: .ref mzA :: .ref mwy :: .ref mfd :: .int msz :: .int mcz :: .int mch :: .int mft :: .int mpt :: .int mdp :: .int mvd :: .long mnw :: .int mmk :: []))), (myA, .inl (cI, 600, .inl (tI y155))), (mxA, .inl (cI, 600, .inl (tI m56))), (mzA, .inl (cI, 600, .inl (tI z155))), (mmA, .inl (cI, 600, .inl (tI m38))), (mqA, .inl (cI, 600, .inl (tI q155))), (mrA, .inl (cI, 600, .inl (tI s155)))] H155 := hP
          have hD : va_D A [(mbA, .inl (cI, 2176, .inl bl)), (mwA, .inl (cI, 64, .inl g)), (mhA, .inl (cI, 8, .inl f)), (mfA, .inl (cI, 8, .inl fif)), (mpA, .inl (cI, 64, .inl pmf)), (mo, .inr (12, (.int mer :: .int mfed :: .int mwr :: .int mct :: .int mls :: .ref moc :: .ref msT :: .ref mrV :: .ref msP :: .int w155 :: .ref mrA :: .ref mbA :: .ref mwA :: .ref mhA :: .ref mfA :: .ref mpA :: .ref mxA :: .ref myA :: .ref mmA :: .ref mqA :: .ref mzA :: .ref mwy :: .ref mfd :: .int msz :: .int mcz :: .int mch :: .int mft :: .int mpt :: .int mdp :: .int mvd :: .long mnw :: .int mmk :: []))), (myA, .inl (cI, 600, .inl (tI y155))), (mxA, .inl (cI, 600, .inl (tI m56))), (mzA, .inl (cI, 600, .inl (tI z155))), (mmA, .inl (cI, 600, .inl (tI m38))), (mqA, .inl (cI, 600, .inl (tI q155))), (mrA, .inl (cI, 600, .inl (tI s155)))] := hD
          rw [show (r155 : Int32) = nI n155 from hw155.1]
          refine lv_istore (lv' := [(6, .int (nI n155)), (0, .ref mo), (1, .ref t), (2, .ref t2), (3, .int (nI (me - mm))), (4, .int (nI k38)), (5, .int (nI k56)), (7, .int (nI j))]) hx hb d_Model_isSigned_158 hl (by decide) rfl (fun ls hl => ?_)
          skip
          refine lv_iinc (v := jD j) (lv' := [(7, .int (jD j)), (6, .int (nI n155)), (0, .ref mo), (1, .ref t), (2, .ref t2), (3, .int (nI (me - mm))), (4, .int (nI k38)), (5, .int (nI k56))]) hx hb d_Model_isSigned_160 hl (k := 7) rfl (jD_dec j) (by decide) rfl (fun ls hl => ?_)
          refine lv_goto (tgt := 103) hx hb d_Model_isSigned_163 (by decide) ?_
          have hq8 : vB 65536 y123 n123 = (vB 256 os (se - sg)) ^ (2 * (ex / 2 ^ (j + 1))) % (vB 256 om (me - mm)) := by rw [hw123.2.2.2.1, hw38.2.2.2.1]; exact pw_sq hv9
          have hq7 : vB 65536 y155 n155 = (vB 256 os (se - sg)) ^ (ex / 2 ^ j) % (vB 256 om (me - mm)) := by rw [hw155.2.2.2.1, hw38.2.2.2.1, hw56.2.2.2.1, pw_mul hq8, bit_s ex j, show ex / 2 ^ j % 2 = 1 by omega]
          exact ih103 (j, n155, y155, z155, q155, s155, w155) _ _ ls (Nat.lt_succ_self _) ⟨by show j ≤ b9 + 1; omega, hw155.2.1, hw155.2.2.2.2.1, hw155.2.2.2.2.2.1, hw155.2.2.2.2.2.2.1, hw155.2.2.2.2.2.2.2, hq7⟩ (hP.sub [5, 7, 6, 9, 8, 10, 11, 0, 1, 2, 3, 4] rfl) (hD.sub [5, 7, 6, 9, 8, 10, 11, 0, 1, 2, 3, 4] (by decide) rfl) hS (lv_sub hl [2, 3, 4, 5, 6, 7, 1, 0] rfl)
    · have p79 : ¬ (r76 < (0 : Int32)) := c79
      refine lv_iconst (v := 0) hx hb d_Model_isSigned_82 (by decide) ?_
      exact W.zret (v := 0) hx hb hr (bz_n (bz_f not_false)) (fun t ht hW => ⟨⟨_, ((m56, yd, m38, zd, qd, rd), mqs, (bl, g, f)), rfl, ⟨bz_f (fun q9 => by have h9 := hr76.2 (fun q8 => p79 q8); rw [hw56.2.2.2.1, hw38.2.2.2.1] at h9; exact absurd q9.2.1 (Nat.not_lt.mpr h9)), hx56, hyd, hm38, hzd, hqd, hrd⟩, by rw [ht]; exact hP.sub [0, 11, 1, 10, 2, 3, 4, 5, 6, 7, 8, 9] rfl, va_K.moved hW.alike hK, hD.sub [0, 11, 1, 10, 2, 3, 4, 5, 6, 7, 8, 9] (by decide) rfl⟩, hS.F ht⟩) hS.2.2 d_Model_isSigned_83
  · have p20 : ¬ ((se - sg) = (me - mm)) := (fun q9 => c20 ((nI_eq (a := (se - sg)) (b := (me - mm)) (by omega) (by omega)).mpr q9))
    refine lv_iconst (v := 0) hx hb d_Model_isSigned_23 (by decide) ?_
    exact W.zret (v := 0) hx hb hr (bz_n (bz_f not_false)) (fun t ht hW => ⟨⟨_, ((xd, yd, md, zd, qd, rd), mqs, (bl, g, f)), rfl, ⟨bz_f (fun q9 => p20 q9.1), hxd, hyd, hmd, hzd, hqd, hrd⟩, by rw [ht]; exact hP, va_K.moved hW.alike hK, hD⟩, hS.F ht⟩) hS.2.2 d_Model_isSigned_24
