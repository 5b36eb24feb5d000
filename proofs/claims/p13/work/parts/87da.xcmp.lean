/-! The reference's compress, exactly. -/
set_option maxHeartbeats 4000000 in
set_option maxRecDepth 100000 in
theorem x_Model_compress (l : Launch) (dC : Nat → ClassId) (dI : Nat → Nat → Nat) (sb : sB) (mo : Nat) (moc msT mrV msP mrA mbA mwA mhA mfA mpA mxA myA mmA mqA mzA mwy mfd : Nat) (mer mfed mwr mct mls mqs msz mcz mch mft mpt mdp mvd mmk : Int32) (mnw : Int64) (a b tt fr : Nat) (cI : ClassId) (u : Nat → Nat) (bl g f pmf : Nat → Int32) (sz : Nat) (hfr : fr + 64 ≤ 2176) (hbl : ∀ p, fr ≤ p → p < fr + 64 → bl p = padI u a b (nI p) (nI tt)) (hpm : ∀ j, j < 64 → pmf j = r0G j) : Met l y_Model_compress w_Model_compress ({ frames := 1, cells := 0, slots := 0, locals := 21 }) (mu_P [.ref mo, .int (nI fr)] (dC, dI) sb [(mo, .inr (12, (.int mer :: .int mfed :: .int mwr :: .int mct :: .int mls :: .ref moc :: .ref msT :: .ref mrV :: .ref msP :: .int mqs :: .ref mrA :: .ref mbA :: .ref mwA :: .ref mhA :: .ref mfA :: .ref mpA :: .ref mxA :: .ref myA :: .ref mmA :: .ref mqA :: .ref mzA :: .ref mwy :: .ref mfd :: .int msz :: .int mcz :: .int mch :: .int mft :: .int mpt :: .int mdp :: .int mvd :: .long mnw :: .int mmk :: []))), (mbA, .inl (cI, 2176, .inl bl)), (mwA, .inl (cI, 64, .inl g)), (mhA, .inl (cI, 8, .inl f)), (mpA, .inl (cI, 64, .inl pmf))] [(cI, .int)] sz) (va_Qv (fun (u' : shaT) => u' = shG (scG (fsG u a b tt fr g 16) 48) (sh0 f) 64) (mu_B (dC, dI) [(cI, .int)] (va_A [(mo, .inr (12, (.int mer :: .int mfed :: .int mwr :: .int mct :: .int mls :: .ref moc :: .ref msT :: .ref mrV :: .ref msP :: .int mqs :: .ref mrA :: .ref mbA :: .ref mwA :: .ref mhA :: .ref mfA :: .ref mpA :: .ref mxA :: .ref myA :: .ref mmA :: .ref mqA :: .ref mzA :: .ref mwy :: .ref mfd :: .int msz :: .int mcz :: .int mch :: .int mft :: .int mpt :: .int mdp :: .int mvd :: .long mnw :: .int mmk :: []))), (mbA, .inl (cI, 2176, .inl bl)), (mwA, .inl (cI, 64, .inl g)), (mhA, .inl (cI, 8, .inl f)), (mpA, .inl (cI, 64, .inl pmf))] sz) (fun u' : shaT => [(mo, .inr (12, (.int mer :: .int mfed :: .int mwr :: .int mct :: .int mls :: .ref moc :: .ref msT :: .ref mrV :: .ref msP :: .int mqs :: .ref mrA :: .ref mbA :: .ref mwA :: .ref mhA :: .ref mfA :: .ref mpA :: .ref mxA :: .ref myA :: .ref mmA :: .ref mqA :: .ref mzA :: .ref mwy :: .ref mfd :: .int msz :: .int mcz :: .int mch :: .int mft :: .int mpt :: .int mdp :: .int mvd :: .long mnw :: .int mmk :: []))), (mbA, .inl (cI, 2176, .inl bl)), (mwA, .inl (cI, 64, .inl (scG (fsG u a b tt fr g 16) 48))), (mhA, .inl (cI, 8, .inl (shAdd f u'))), (mpA, .inl (cI, 64, .inl pmf))])) (va_A [(mo, .inr (12, (.int mer :: .int mfed :: .int mwr :: .int mct :: .int mls :: .ref moc :: .ref msT :: .ref mrV :: .ref msP :: .int mqs :: .ref mrA :: .ref mbA :: .ref mwA :: .ref mhA :: .ref mfA :: .ref mpA :: .ref mxA :: .ref myA :: .ref mmA :: .ref mqA :: .ref mzA :: .ref mwy :: .ref mfd :: .int msz :: .int mcz :: .int mch :: .int mft :: .int mpt :: .int mdp :: .int mvd :: .long mnw :: .int mmk :: []))), (mbA, .inl (cI, 2176, .inl bl)), (mwA, .inl (cI, 64, .inl g)), (mhA, .inl (cI, 8, .inl f)), (mpA, .inl (cI, 64, .inl pmf))] sz)) 0 0 (va_A [(mo, .inr (12, (.int mer :: .int mfed :: .int mwr :: .int mct :: .int mls :: .ref moc :: .ref msT :: .ref mrV :: .ref msP :: .int mqs :: .ref mrA :: .ref mbA :: .ref mwA :: .ref mhA :: .ref mfA :: .ref mpA :: .ref mxA :: .ref myA :: .ref mmA :: .ref mqA :: .ref mzA :: .ref mwy :: .ref mfd :: .int msz :: .int mcz :: .int mch :: .int mft :: .int mpt :: .int mdp :: .int mvd :: .long mnw :: .int mmk :: []))), (mbA, .inl (cI, 2176, .inl bl)), (mwA, .inl (cI, 64, .inl g)), (mhA, .inl (cI, 8, .inl f)), (mpA, .inl (cI, 64, .inl pmf))] sz) := by
  refine Met.ofW (cc := b_Model_compress) (maxL := 13) (ret := none) (by decide) rfl ?_
  intro p e s m args below meth c s₁ B hml hv
  obtain ⟨rfl, hsz, hB0, hP, hK, hD0, hN, hT0⟩ := hv
  have hx := B.exec
  have hb := B.bytes
  have hr := B.returns
  have hts := atoms_spec (ws := w_Model_compress) B.pre
  have tbin : ∀ w ∈ tb, w ∈ w_Model_compress := fun w h => List.mem_cons_of_mem _ h
  have htb : ∀ w ∈ tb, w.before _ s = true := fun w h => hts w (tbin w h)
  have hown : s.vm.findClass "TrustChainModel" = some m.cls := findClass_of_methodNamed B.named
  have hlocks := B.notSynchronized
  subst hsz
  have hD := hD0.self (sz := s.heap.size)
  generalize hAe : va_A [(mo, .inr (12, (.int mer :: .int mfed :: .int mwr :: .int mct :: .int mls :: .ref moc :: .ref msT :: .ref mrV :: .ref msP :: .int mqs :: .ref mrA :: .ref mbA :: .ref mwA :: .ref mhA :: .ref mfA :: .ref mpA :: .ref mxA :: .ref myA :: .ref mmA :: .ref mqA :: .ref mzA :: .ref mwy :: .ref mfd :: .int msz :: .int mcz :: .int mch :: .int mft :: .int mpt :: .int mdp :: .int mvd :: .long mnw :: .int mmk :: []))), (mbA, .inl (cI, 2176, .inl bl)), (mwA, .inl (cI, 64, .inl g)), (mhA, .inl (cI, 8, .inl f)), (mpA, .inl (cI, 64, .inl pmf))] s.heap.size = A at hD ⊢
  have hA : ∀ q : Nat, s.heap.size ≤ q → A q := fun q h => by rw [← hAe]; exact Or.inr h
  have hAs : ∀ q : Nat, A q → sb.1 ≤ q := fun q h => by
    rw [← hAe] at h
    rcases h with ⟨k, e, h⟩ | h
    · exact hD0.2 k _ h
    · exact Nat.le_trans hB0 h
  have hS : va_S A s.heap s.heap [] := va_S.rf
  have hcs : 0 ≤ (headSpec w_Model_compress ({ frames := 1, cells := 0, slots := 0, locals := 21 })).room.cells ∧ 0 ≤ (headSpec w_Model_compress ({ frames := 1, cells := 0, slots := 0, locals := 21 })).room.slots := ⟨Nat.le_refl _, Nat.le_refl _⟩
  have hP : va_P (dC, dI) classes [(mo, .inr (12, (.int mer :: .int mfed :: .int mwr :: .int mct :: .int mls :: .ref moc :: .ref msT :: .ref mrV :: .ref msP :: .int mqs :: .ref mrA :: .ref mbA :: .ref mwA :: .ref mhA :: .ref mfA :: .ref mpA :: .ref mxA :: .ref myA :: .ref mmA :: .ref mqA :: .ref mzA :: .ref mwy :: .ref mfd :: .int msz :: .int mcz :: .int mch :: .int mft :: .int mpt :: .int mdp :: .int mvd :: .long mnw :: .int mmk :: []))), (mbA, .inl (cI, 2176, .inl bl)), (mwA, .inl (cI, 64, .inl g)), (mhA, .inl (cI, 8, .inl f)), (mpA, .inl (cI, 64, .inl pmf))] s.heap := hP
  have hl := lv_entry ([.ref mo, .int (nI fr)]) (n := 13) (Nat.le_of_ble_eq_true rfl)
  rw [lg_entry_eq]
  generalize (lg_sl ([.ref mo, .int (nI fr)]) ++ List.replicate (13 - (lg_sl ([.ref mo, .int (nI fr)])).length) Slot.unset).toArray = ls at hl ⊢
  have hl : lv_has ls 13 [(0, .ref mo), (1, .int (nI fr))] := hl
  refine lv_iconst (v := 0) hx hb d_Model_compress_0 (by decide) ?_
  refine lv_istore_n (lv' := [(2, .int 0), (0, .ref mo), (1, .int (nI fr))]) hx hb d_Model_compress_1 rfl hl (by decide) rfl (fun ls hl => ?_)
  refine w_loopW (α := Nat) (fun i => i ≤ 16) (fun i => 16 - i) (fun i => [(0, .ref mo), (1, .int (nI fr)), (2, .int (nI i))]) (fun _ => []) (fun i => [(mo, .inr (12, (.int mer :: .int mfed :: .int mwr :: .int mct :: .int mls :: .ref moc :: .ref msT :: .ref mrV :: .ref msP :: .int mqs :: .ref mrA :: .ref mbA :: .ref mwA :: .ref mhA :: .ref mfA :: .ref mpA :: .ref mxA :: .ref myA :: .ref mmA :: .ref mqA :: .ref mzA :: .ref mwy :: .ref mfd :: .int msz :: .int mcz :: .int mch :: .int mft :: .int mpt :: .int mdp :: .int mvd :: .long mnw :: .int mmk :: []))), (mbA, .inl (cI, 2176, .inl bl)), (mwA, .inl (cI, 64, .inl (fsG u a b tt fr g i))), (mhA, .inl (cI, 8, .inl f)), (mpA, .inl (cI, 64, .inl pmf))]) 13 2 (fun i HL2 locs ls hJ hP hD hS hl ih => ?_) 0 _ _ ls (Nat.zero_le _) hP hD hS (lv_sub hl [1, 2, 0] rfl)
  have hP : va_P (dC, dI) classes [(mo, .inr (12, (.int mer :: .int mfed :: .int mwr :: .int mct :: .int mls :: .ref moc :: .ref msT :: .ref mrV :: .ref msP :: .int mqs :: .ref mrA :: .ref mbA :: .ref mwA :: .ref mhA :: .ref mfA :: .ref mpA :: .ref mxA :: .ref myA :: .ref mmA :: .ref mqA :: .ref mzA :: .ref mwy :: .ref mfd :: .int msz :: .int mcz :: .int mch :: .int mft :: .int mpt :: .int mdp :: .int mvd :: .long mnw :: .int mmk :: []))), (mbA, .inl (cI, 2176, .inl bl)), (mwA, .inl (cI, 64, .inl (fsG u a b tt fr g i))), (mhA, .inl (cI, 8, .inl f)), (mpA, .inl (cI, 64, .inl pmf))] HL2 := hP
  have hD : va_D A [(mo, .inr (12, (.int mer :: .int mfed :: .int mwr :: .int mct :: .int mls :: .ref moc :: .ref msT :: .ref mrV :: .ref msP :: .int mqs :: .ref mrA :: .ref mbA :: .ref mwA :: .ref mhA :: .ref mfA :: .ref mpA :: .ref mxA :: .ref myA :: .ref mmA :: .ref mqA :: .ref mzA :: .ref mwy :: .ref mfd :: .int msz :: .int mcz :: .int mch :: .int mft :: .int mpt :: .int mdp :: .int mvd :: .long mnw :: .int mmk :: []))), (mbA, .inl (cI, 2176, .inl bl)), (mwA, .inl (cI, 64, .inl (fsG u a b tt fr g i))), (mhA, .inl (cI, 8, .inl f)), (mpA, .inl (cI, 64, .inl pmf))] := hD
  refine lv_iload_n hx hb d_Model_compress_2 rfl (lv_at hl 2 rfl) ?_
  refine lv_bipush (v := 16) hx hb d_Model_compress_3 (by decide) ?_
  refine lv_icmp_ge (tgt := 78) hx hb d_Model_compress_5 (by decide) (fun c5 => ?_) (fun c5 => ?_)
  · have hk78 : i = 16 := by rw [show (16 : Int32) = nI 16 from rfl, nI_leI (by omega) (by omega)] at c5; omega
    subst hk78
    refine lv_bipush (v := 16) hx hb d_Model_compress_78 (by decide) ?_
    refine lv_istore_n (lv' := [(2, .int 16), (0, .ref mo), (1, .int (nI fr))]) hx hb d_Model_compress_80 rfl hl (by decide) rfl (fun ls hl => ?_)
    refine w_loopW (α := Nat) (fun k => k ≤ 48) (fun k => 48 - k) (fun k => [(0, .ref mo), (1, .int (nI fr)), (2, .int (nI (16 + k)))]) (fun _ => []) (fun k => [(mo, .inr (12, (.int mer :: .int mfed :: .int mwr :: .int mct :: .int mls :: .ref moc :: .ref msT :: .ref mrV :: .ref msP :: .int mqs :: .ref mrA :: .ref mbA :: .ref mwA :: .ref mhA :: .ref mfA :: .ref mpA :: .ref mxA :: .ref myA :: .ref mmA :: .ref mqA :: .ref mzA :: .ref mwy :: .ref mfd :: .int msz :: .int mcz :: .int mch :: .int mft :: .int mpt :: .int mdp :: .int mvd :: .long mnw :: .int mmk :: []))), (mbA, .inl (cI, 2176, .inl bl)), (mwA, .inl (cI, 64, .inl (scG (fsG u a b tt fr g 16) k))), (mhA, .inl (cI, 8, .inl f)), (mpA, .inl (cI, 64, .inl pmf))]) 13 81 (fun k HL81 locs ls hJ hP hD hS hl ih => ?_) 0 _ _ ls (Nat.zero_le _) hP hD hS (lv_sub hl [1, 2, 0] rfl)
    have hP : va_P (dC, dI) classes [(mo, .inr (12, (.int mer :: .int mfed :: .int mwr :: .int mct :: .int mls :: .ref moc :: .ref msT :: .ref mrV :: .ref msP :: .int mqs :: .ref mrA :: .ref mbA :: .ref mwA :: .ref mhA :: .ref mfA :: .ref mpA :: .ref mxA :: .ref myA :: .ref mmA :: .ref mqA :: .ref mzA :: .ref mwy :: .ref mfd :: .int msz :: .int mcz :: .int mch :: .int mft :: .int mpt :: .int mdp :: .int mvd :: .long mnw :: .int mmk :: []))), (mbA, .inl (cI, 2176, .inl bl)), (mwA, .inl (cI, 64, .inl (scG (fsG u a b tt fr g 16) k))), (mhA, .inl (cI, 8, .inl f)), (mpA, .inl (cI, 64, .inl pmf))] HL81 := hP
    have hD : va_D A [(mo, .inr (12, (.int mer :: .int mfed :: .int mwr :: .int mct :: .int mls :: .ref moc :: .ref msT :: .ref mrV :: .ref msP :: .int mqs :: .ref mrA :: .ref mbA :: .ref mwA :: .ref mhA :: .ref mfA :: .ref mpA :: .ref mxA :: .ref myA :: .ref mmA :: .ref mqA :: .ref mzA :: .ref mwy :: .ref mfd :: .int msz :: .int mcz :: .int mch :: .int mft :: .int mpt :: .int mdp :: .int mvd :: .long mnw :: .int mmk :: []))), (mbA, .inl (cI, 2176, .inl bl)), (mwA, .inl (cI, 64, .inl (scG (fsG u a b tt fr g 16) k))), (mhA, .inl (cI, 8, .inl f)), (mpA, .inl (cI, 64, .inl pmf))] := hD
    refine lv_iload_n hx hb d_Model_compress_81 rfl (lv_at hl 2 rfl) ?_
    refine lv_bipush (v := 64) hx hb d_Model_compress_82 (by decide) ?_
    refine lv_icmp_ge (tgt := 178) hx hb d_Model_compress_84 (by decide) (fun c84 => ?_) (fun c84 => ?_)
    · have hk178 : k = 48 := by rw [show (64 : Int32) = nI 64 from rfl, nI_leI (by omega) (by omega)] at c84; omega
      subst hk178
      refine lv_aload_n hx hb d_Model_compress_178 rfl (lv_at hl 0 rfl) ?_
      refine va_get (v := .ref mhA) hx hb htb i_Model hown hK hP 0 rfl rfl 13 (by decide) (htb _ q7_227) (fun _ h9 => h9) rfl d_Model_compress_179 ?_
      refine lv_iconst (v := 0) hx hb d_Model_compress_182 (by decide) ?_
      have h183 : vp_in 0 8 := by unfold vp_in; decide
      refine va_iald hx hb hK hP 3 0 rfl rfl h183 d_Model_compress_183 ?_
      rw [show (f (0 : Int32).toNatClampNeg : Int32) = f 0 from rfl]
      refine lv_istore_n (lv' := [(2, .int (f 0)), (0, .ref mo), (1, .int (nI fr))]) hx hb d_Model_compress_184 rfl hl (by decide) rfl (fun ls hl => ?_)
      refine lv_aload_n hx hb d_Model_compress_185 rfl (lv_at hl 1 rfl) ?_
      refine va_get (v := .ref mhA) hx hb htb i_Model hown hK hP 0 rfl rfl 13 (by decide) (htb _ q7_227) (fun _ h9 => h9) rfl d_Model_compress_186 ?_
      refine lv_iconst (v := 1) hx hb d_Model_compress_189 (by decide) ?_
      have h190 : vp_in 1 8 := by unfold vp_in; decide
      refine va_iald hx hb hK hP 3 0 rfl rfl h190 d_Model_compress_190 ?_
      rw [show (f (1 : Int32).toNatClampNeg : Int32) = f 1 from rfl]
      refine lv_istore_n (lv' := [(3, .int (f 1)), (2, .int (f 0)), (0, .ref mo), (1, .int (nI fr))]) hx hb d_Model_compress_191 rfl hl (by decide) rfl (fun ls hl => ?_)
      refine lv_aload_n hx hb d_Model_compress_192 rfl (lv_at hl 2 rfl) ?_
      refine va_get (v := .ref mhA) hx hb htb i_Model hown hK hP 0 rfl rfl 13 (by decide) (htb _ q7_227) (fun _ h9 => h9) rfl d_Model_compress_193 ?_
      refine lv_iconst (v := 2) hx hb d_Model_compress_196 (by decide) ?_
      have h197 : vp_in 2 8 := by unfold vp_in; decide
      refine va_iald hx hb hK hP 3 0 rfl rfl h197 d_Model_compress_197 ?_
      rw [show (f (2 : Int32).toNatClampNeg : Int32) = f 2 from rfl]
      refine lv_istore (lv' := [(4, .int (f 2)), (3, .int (f 1)), (2, .int (f 0)), (0, .ref mo), (1, .int (nI fr))]) hx hb d_Model_compress_198 hl (by decide) rfl (fun ls hl => ?_)
      refine lv_aload_n hx hb d_Model_compress_200 rfl (lv_at hl 3 rfl) ?_
      refine va_get (v := .ref mhA) hx hb htb i_Model hown hK hP 0 rfl rfl 13 (by decide) (htb _ q7_227) (fun _ h9 => h9) rfl d_Model_compress_201 ?_
      refine lv_iconst (v := 3) hx hb d_Model_compress_204 (by decide) ?_
      have h205 : vp_in 3 8 := by unfold vp_in; decide
      refine va_iald hx hb hK hP 3 0 rfl rfl h205 d_Model_compress_205 ?_
      rw [show (f (3 : Int32).toNatClampNeg : Int32) = f 3 from rfl]
      refine lv_istore (lv' := [(5, .int (f 3)), (4, .int (f 2)), (3, .int (f 1)), (2, .int (f 0)), (0, .ref mo), (1, .int (nI fr))]) hx hb d_Model_compress_206 hl (by decide) rfl (fun ls hl => ?_)
      refine lv_aload_n hx hb d_Model_compress_208 rfl (lv_at hl 4 rfl) ?_
      refine va_get (v := .ref mhA) hx hb htb i_Model hown hK hP 0 rfl rfl 13 (by decide) (htb _ q7_227) (fun _ h9 => h9) rfl d_Model_compress_209 ?_
      refine lv_iconst (v := 4) hx hb d_Model_compress_212 (by decide) ?_
      have h213 : vp_in 4 8 := by unfold vp_in; decide
      refine va_iald hx hb hK hP 3 0 rfl rfl h213 d_Model_compress_213 ?_
      rw [show (f (4 : Int32).toNatClampNeg : Int32) = f 4 from rfl]
      refine lv_istore (lv' := [(6, .int (f 4)), (5, .int (f 3)), (4, .int (f 2)), (3, .int (f 1)), (2, .int (f 0)), (0, .ref mo), (1, .int (nI fr))]) hx hb d_Model_compress_214 hl (by decide) rfl (fun ls hl => ?_)
      refine lv_aload_n hx hb d_Model_compress_216 rfl (lv_at hl 5 rfl) ?_
      refine va_get (v := .ref mhA) hx hb htb i_Model hown hK hP 0 rfl rfl 13 (by decide) (htb _ q7_227) (fun _ h9 => h9) rfl d_Model_compress_217 ?_
      refine lv_iconst (v := 5) hx hb d_Model_compress_220 (by decide) ?_
      have h221 : vp_in 5 8 := by unfold vp_in; decide
      refine va_iald hx hb hK hP 3 0 rfl rfl h221 d_Model_compress_221 ?_
      rw [show (f (5 : Int32).toNatClampNeg : Int32) = f 5 from rfl]
      refine lv_istore (lv' := [(7, .int (f 5)), (6, .int (f 4)), (5, .int (f 3)), (4, .int (f 2)), (3, .int (f 1)), (2, .int (f 0)), (0, .ref mo), (1, .int (nI fr))]) hx hb d_Model_compress_222 hl (by decide) rfl (fun ls hl => ?_)
      refine lv_aload_n hx hb d_Model_compress_224 rfl (lv_at hl 6 rfl) ?_
      refine va_get (v := .ref mhA) hx hb htb i_Model hown hK hP 0 rfl rfl 13 (by decide) (htb _ q7_227) (fun _ h9 => h9) rfl d_Model_compress_225 ?_
      refine lv_bipush (v := 6) hx hb d_Model_compress_228 (by decide) ?_
      have h230 : vp_in 6 8 := by unfold vp_in; decide
      refine va_iald hx hb hK hP 3 0 rfl rfl h230 d_Model_compress_230 ?_
      rw [show (f (6 : Int32).toNatClampNeg : Int32) = f 6 from rfl]
      refine lv_istore (lv' := [(8, .int (f 6)), (7, .int (f 5)), (6, .int (f 4)), (5, .int (f 3)), (4, .int (f 2)), (3, .int (f 1)), (2, .int (f 0)), (0, .ref mo), (1, .int (nI fr))]) hx hb d_Model_compress_231 hl (by decide) rfl (fun ls hl => ?_)
      refine lv_aload_n hx hb d_Model_compress_233 rfl (lv_at hl 7 rfl) ?_
      refine va_get (v := .ref mhA) hx hb htb i_Model hown hK hP 0 rfl rfl 13 (by decide) (htb _ q7_227) (fun _ h9 => h9) rfl d_Model_compress_234 ?_
      refine lv_bipush (v := 7) hx hb d_Model_compress_237 (by decide) ?_
      have h239 : vp_in 7 8 := by unfold vp_in; decide
      refine va_iald hx hb hK hP 3 0 rfl rfl h239 d_Model_compress_239 ?_
      rw [show (f (7 : Int32).toNatClampNeg : Int32) = f 7 from rfl]
      refine lv_istore (lv' := [(9, .int (f 7)), (8, .int (f 6)), (7, .int (f 5)), (6, .int (f 4)), (5, .int (f 3)), (4, .int (f 2)), (3, .int (f 1)), (2, .int (f 0)), (0, .ref mo), (1, .int (nI fr))]) hx hb d_Model_compress_240 hl (by decide) rfl (fun ls hl => ?_)
      refine lv_iconst (v := 0) hx hb d_Model_compress_242 (by decide) ?_
      refine lv_istore (lv' := [(10, .int 0), (9, .int (f 7)), (8, .int (f 6)), (7, .int (f 5)), (6, .int (f 4)), (5, .int (f 3)), (4, .int (f 2)), (3, .int (f 1)), (2, .int (f 0)), (0, .ref mo), (1, .int (nI fr))]) hx hb d_Model_compress_243 hl (by decide) rfl (fun ls hl => ?_)
      refine w_loop (α := Nat × shaT) (fun z => z.1 ≤ 64 ∧ z.2 = shG (scG (fsG u a b tt fr g 16) 48) (sh0 f) z.1) (fun z => 64 - z.1) (fun z => [(0, .ref mo), (1, .int (nI fr)), (2, .int z.2.1), (3, .int z.2.2.1), (4, .int z.2.2.2.1), (5, .int z.2.2.2.2.1), (6, .int z.2.2.2.2.2.1), (7, .int z.2.2.2.2.2.2.1), (8, .int z.2.2.2.2.2.2.2.1), (9, .int z.2.2.2.2.2.2.2.2), (10, .int (nI (z.1)))]) (fun _ => []) 13 245 (fun z ls hJ hl ih => ?_) (0, sh0 f) ls (⟨Nat.zero_le _, rfl⟩) (lv_sub hl [9, 10, 8, 7, 6, 5, 4, 3, 2, 1, 0] rfl)
      refine lv_iload hx hb d_Model_compress_245 (lv_at hl 10 rfl) ?_
      refine lv_bipush (v := 64) hx hb d_Model_compress_247 (by decide) ?_
      refine lv_icmp_ge (tgt := 385) hx hb d_Model_compress_249 (by decide) (fun c249 => ?_) (fun c249 => ?_)
      · have hke : z.1 = 64 := by rw [show (64 : Int32) = nI 64 from rfl, nI_leI (by omega) (by omega)] at c249; omega
        refine lv_aload_n hx hb d_Model_compress_385 rfl (lv_at hl 0 rfl) ?_
        refine va_get (v := .ref mhA) hx hb htb i_Model hown hK hP 0 rfl rfl 13 (by decide) (htb _ q7_227) (fun _ h9 => h9) rfl d_Model_compress_386 ?_
        refine lv_iconst (v := 0) hx hb d_Model_compress_389 (by decide) ?_
        refine lv_dup2_11 hx hb d_Model_compress_390 rfl rfl ?_
        have h391 : vp_in 0 8 := by unfold vp_in; decide
        refine va_iald hx hb hK hP 3 0 rfl rfl h391 d_Model_compress_391 ?_
        rw [show (f (0 : Int32).toNatClampNeg : Int32) = f 0 from rfl]
        refine lv_iload_n hx hb d_Model_compress_392 rfl (lv_at hl 2 rfl) ?_
        refine lv_iadd hx hb d_Model_compress_393 ?_
        have h394 : vp_in 0 8 := by unfold vp_in; decide
        refine va_iast hx hb hK hP hD hS 3 0 rfl rfl h394 d_Model_compress_394 (fun H394 locs hP hD hS => ?_)
        have hP : va_P (dC, dI) classes [(mo, .inr (12, (.int mer :: .int mfed :: .int mwr :: .int mct :: .int mls :: .ref moc :: .ref msT :: .ref mrV :: .ref msP :: .int mqs :: .ref mrA :: .ref mbA :: .ref mwA :: .ref mhA :: .ref mfA :: .ref mpA :: .ref mxA :: .ref myA :: .ref mmA :: .ref mqA :: .ref mzA :: .ref mwy :: .ref mfd :: .int msz :: .int mcz :: .int mch :: .int mft :: .int mpt :: .int mdp :: .int mvd :: .long mnw :: .int mmk :: []))), (mbA, .inl (cI, 2176, .inl bl)), (mwA, .inl (cI, 64, .inl (scG (fsG u a b tt fr g 16) 48))), (mhA, .inl (cI, 8, .inl (upd f 0 (f 0 + z.2.1)))), (mpA, .inl (cI, 64, .inl pmf))] H394 := hP
        have hD : va_D A [(mo, .inr (12, (.int mer :: .int mfed :: .int mwr :: .int mct :: .int mls :: .ref moc :: .ref msT :: .ref mrV :: .ref msP :: .int mqs :: .ref mrA :: .ref mbA :: .ref mwA :: .ref mhA :: .ref mfA :: .ref mpA :: .ref mxA :: .ref myA :: .ref mmA :: .ref mqA :: .ref mzA :: .ref mwy :: .ref mfd :: .int msz :: .int mcz :: .int mch :: .int mft :: .int mpt :: .int mdp :: .int mvd :: .long mnw :: .int mmk :: []))), (mbA, .inl (cI, 2176, .inl bl)), (mwA, .inl (cI, 64, .inl (scG (fsG u a b tt fr g 16) 48))), (mhA, .inl (cI, 8, .inl (upd f 0 (f 0 + z.2.1)))), (mpA, .inl (cI, 64, .inl pmf))] := hD
        refine lv_aload_n hx hb d_Model_compress_395 rfl (lv_at hl 0 rfl) ?_
        refine va_get (v := .ref mhA) hx hb htb i_Model hown hK hP 0 rfl rfl 13 (by decide) (htb _ q7_227) (fun _ h9 => h9) rfl d_Model_compress_396 ?_
        refine lv_iconst (v := 1) hx hb d_Model_compress_399 (by decide) ?_
        refine lv_dup2_11 hx hb d_Model_compress_400 rfl rfl ?_
        have h401 : vp_in 1 8 := by unfold vp_in; decide
        refine va_iald hx hb hK hP 3 0 rfl rfl h401 d_Model_compress_401 ?_
        rw [show ((upd f 0 (f 0 + z.2.1)) (1 : Int32).toNatClampNeg : Int32) = f 1 from by rw [show (1 : Int32).toNatClampNeg = 1 from by decide]; simp [upd]]
        refine lv_iload_n hx hb d_Model_compress_402 rfl (lv_at hl 3 rfl) ?_
        refine lv_iadd hx hb d_Model_compress_403 ?_
        have h404 : vp_in 1 8 := by unfold vp_in; decide
        refine va_iast hx hb hK hP hD hS 3 0 rfl rfl h404 d_Model_compress_404 (fun H404 locs hP hD hS => ?_)
        have hP : va_P (dC, dI) classes [(mo, .inr (12, (.int mer :: .int mfed :: .int mwr :: .int mct :: .int mls :: .ref moc :: .ref msT :: .ref mrV :: .ref msP :: .int mqs :: .ref mrA :: .ref mbA :: .ref mwA :: .ref mhA :: .ref mfA :: .ref mpA :: .ref mxA :: .ref myA :: .ref mmA :: .ref mqA :: .ref mzA :: .ref mwy :: .ref mfd :: .int msz :: .int mcz :: .int mch :: .int mft :: .int mpt :: .int mdp :: .int mvd :: .long mnw :: .int mmk :: []))), (mbA, .inl (cI, 2176, .inl bl)), (mwA, .inl (cI, 64, .inl (scG (fsG u a b tt fr g 16) 48))), (mhA, .inl (cI, 8, .inl (upd (upd f 0 (f 0 + z.2.1)) 1 (f 1 + z.2.2.1)))), (mpA, .inl (cI, 64, .inl pmf))] H404 := hP
        have hD : va_D A [(mo, .inr (12, (.int mer :: .int mfed :: .int mwr :: .int mct :: .int mls :: .ref moc :: .ref msT :: .ref mrV :: .ref msP :: .int mqs :: .ref mrA :: .ref mbA :: .ref mwA :: .ref mhA :: .ref mfA :: .ref mpA :: .ref mxA :: .ref myA :: .ref mmA :: .ref mqA :: .ref mzA :: .ref mwy :: .ref mfd :: .int msz :: .int mcz :: .int mch :: .int mft :: .int mpt :: .int mdp :: .int mvd :: .long mnw :: .int mmk :: []))), (mbA, .inl (cI, 2176, .inl bl)), (mwA, .inl (cI, 64, .inl (scG (fsG u a b tt fr g 16) 48))), (mhA, .inl (cI, 8, .inl (upd (upd f 0 (f 0 + z.2.1)) 1 (f 1 + z.2.2.1)))), (mpA, .inl (cI, 64, .inl pmf))] := hD
        refine lv_aload_n hx hb d_Model_compress_405 rfl (lv_at hl 0 rfl) ?_
        refine va_get (v := .ref mhA) hx hb htb i_Model hown hK hP 0 rfl rfl 13 (by decide) (htb _ q7_227) (fun _ h9 => h9) rfl d_Model_compress_406 ?_
        refine lv_iconst (v := 2) hx hb d_Model_compress_409 (by decide) ?_
        refine lv_dup2_11 hx hb d_Model_compress_410 rfl rfl ?_
        have h411 : vp_in 2 8 := by unfold vp_in; decide
        refine va_iald hx hb hK hP 3 0 rfl rfl h411 d_Model_compress_411 ?_
        rw [show ((upd (upd f 0 (f 0 + z.2.1)) 1 (f 1 + z.2.2.1)) (2 : Int32).toNatClampNeg : Int32) = f 2 from by rw [show (2 : Int32).toNatClampNeg = 2 from by decide]; simp [upd]]
        refine lv_iload hx hb d_Model_compress_412 (lv_at hl 4 rfl) ?_
        refine lv_iadd hx hb d_Model_compress_414 ?_
        have h415 : vp_in 2 8 := by unfold vp_in; decide
        refine va_iast hx hb hK hP hD hS 3 0 rfl rfl h415 d_Model_compress_415 (fun H415 locs hP hD hS => ?_)
        have hP : va_P (dC, dI) classes [(mo, .inr (12, (.int mer :: .int mfed :: .int mwr :: .int mct :: .int mls :: .ref moc :: .ref msT :: .ref mrV :: .ref msP :: .int mqs :: .ref mrA :: .ref mbA :: .ref mwA :: .ref mhA :: .ref mfA :: .ref mpA :: .ref mxA :: .ref myA :: .ref mmA :: .ref mqA :: .ref mzA :: .ref mwy :: .ref mfd :: .int msz :: .int mcz :: .int mch :: .int mft :: .int mpt :: .int mdp :: .int mvd :: .long mnw :: .int mmk :: []))), (mbA, .inl (cI, 2176, .inl bl)), (mwA, .inl (cI, 64, .inl (scG (fsG u a b tt fr g 16) 48))), (mhA, .inl (cI, 8, .inl (upd (upd (upd f 0 (f 0 + z.2.1)) 1 (f 1 + z.2.2.1)) 2 (f 2 + z.2.2.2.1)))), (mpA, .inl (cI, 64, .inl pmf))] H415 := hP
        have hD : va_D A [(mo, .inr (12, (.int mer :: .int mfed :: .int mwr :: .int mct :: .int mls :: .ref moc :: .ref msT :: .ref mrV :: .ref msP :: .int mqs :: .ref mrA :: .ref mbA :: .ref mwA :: .ref mhA :: .ref mfA :: .ref mpA :: .ref mxA :: .ref myA :: .ref mmA :: .ref mqA :: .ref mzA :: .ref mwy :: .ref mfd :: .int msz :: .int mcz :: .int mch :: .int mft :: .int mpt :: .int mdp :: .int mvd :: .long mnw :: .int mmk :: []))), (mbA, .inl (cI, 2176, .inl bl)), (mwA, .inl (cI, 64, .inl (scG (fsG u a b tt fr g 16) 48))), (mhA, .inl (cI, 8, .inl (upd (upd (upd f 0 (f 0 + z.2.1)) 1 (f 1 + z.2.2.1)) 2 (f 2 + z.2.2.2.1)))), (mpA, .inl (cI, 64, .inl pmf))] := hD
        refine lv_aload_n hx hb d_Model_compress_416 rfl (lv_at hl 0 rfl) ?_
        refine va_get (v := .ref mhA) hx hb htb i_Model hown hK hP 0 rfl rfl 13 (by decide) (htb _ q7_227) (fun _ h9 => h9) rfl d_Model_compress_417 ?_
        refine lv_iconst (v := 3) hx hb d_Model_compress_420 (by decide) ?_
        refine lv_dup2_11 hx hb d_Model_compress_421 rfl rfl ?_
        have h422 : vp_in 3 8 := by unfold vp_in; decide
        refine va_iald hx hb hK hP 3 0 rfl rfl h422 d_Model_compress_422 ?_
        rw [show ((upd (upd (upd f 0 (f 0 + z.2.1)) 1 (f 1 + z.2.2.1)) 2 (f 2 + z.2.2.2.1)) (3 : Int32).toNatClampNeg : Int32) = f 3 from by rw [show (3 : Int32).toNatClampNeg = 3 from by decide]; simp [upd]]
        refine lv_iload hx hb d_Model_compress_423 (lv_at hl 5 rfl) ?_
        refine lv_iadd hx hb d_Model_compress_425 ?_
        have h426 : vp_in 3 8 := by unfold vp_in; decide
        refine va_iast hx hb hK hP hD hS 3 0 rfl rfl h426 d_Model_compress_426 (fun H426 locs hP hD hS => ?_)
        have hP : va_P (dC, dI) classes [(mo, .inr (12, (.int mer :: .int mfed :: .int mwr :: .int mct :: .int mls :: .ref moc :: .ref msT :: .ref mrV :: .ref msP :: .int mqs :: .ref mrA :: .ref mbA :: .ref mwA :: .ref mhA :: .ref mfA :: .ref mpA :: .ref mxA :: .ref myA :: .ref mmA :: .ref mqA :: .ref mzA :: .ref mwy :: .ref mfd :: .int msz :: .int mcz :: .int mch :: .int mft :: .int mpt :: .int mdp :: .int mvd :: .long mnw :: .int mmk :: []))), (mbA, .inl (cI, 2176, .inl bl)), (mwA, .inl (cI, 64, .inl (scG (fsG u a b tt fr g 16) 48))), (mhA, .inl (cI, 8, .inl (upd (upd (upd (upd f 0 (f 0 + z.2.1)) 1 (f 1 + z.2.2.1)) 2 (f 2 + z.2.2.2.1)) 3 (f 3 + z.2.2.2.2.1)))), (mpA, .inl (cI, 64, .inl pmf))] H426 := hP
        have hD : va_D A [(mo, .inr (12, (.int mer :: .int mfed :: .int mwr :: .int mct :: .int mls :: .ref moc :: .ref msT :: .ref mrV :: .ref msP :: .int mqs :: .ref mrA :: .ref mbA :: .ref mwA :: .ref mhA :: .ref mfA :: .ref mpA :: .ref mxA :: .ref myA :: .ref mmA :: .ref mqA :: .ref mzA :: .ref mwy :: .ref mfd :: .int msz :: .int mcz :: .int mch :: .int mft :: .int mpt :: .int mdp :: .int mvd :: .long mnw :: .int mmk :: []))), (mbA, .inl (cI, 2176, .inl bl)), (mwA, .inl (cI, 64, .inl (scG (fsG u a b tt fr g 16) 48))), (mhA, .inl (cI, 8, .inl (upd (upd (upd (upd f 0 (f 0 + z.2.1)) 1 (f 1 + z.2.2.1)) 2 (f 2 + z.2.2.2.1)) 3 (f 3 + z.2.2.2.2.1)))), (mpA, .inl (cI, 64, .inl pmf))] := hD
        refine lv_aload_n hx hb d_Model_compress_427 rfl (lv_at hl 0 rfl) ?_
        refine va_get (v := .ref mhA) hx hb htb i_Model hown hK hP 0 rfl rfl 13 (by decide) (htb _ q7_227) (fun _ h9 => h9) rfl d_Model_compress_428 ?_
        refine lv_iconst (v := 4) hx hb d_Model_compress_431 (by decide) ?_
        refine lv_dup2_11 hx hb d_Model_compress_432 rfl rfl ?_
        have h433 : vp_in 4 8 := by unfold vp_in; decide
        refine va_iald hx hb hK hP 3 0 rfl rfl h433 d_Model_compress_433 ?_
        rw [show ((upd (upd (upd (upd f 0 (f 0 + z.2.1)) 1 (f 1 + z.2.2.1)) 2 (f 2 + z.2.2.2.1)) 3 (f 3 + z.2.2.2.2.1)) (4 : Int32).toNatClampNeg : Int32) = f 4 from by rw [show (4 : Int32).toNatClampNeg = 4 from by decide]; simp [upd]]
        refine lv_iload hx hb d_Model_compress_434 (lv_at hl 6 rfl) ?_
        refine lv_iadd hx hb d_Model_compress_436 ?_
        have h437 : vp_in 4 8 := by unfold vp_in; decide
        refine va_iast hx hb hK hP hD hS 3 0 rfl rfl h437 d_Model_compress_437 (fun H437 locs hP hD hS => ?_)
        have hP : va_P (dC, dI) classes [(mo, .inr (12, (.int mer :: .int mfed :: .int mwr :: .int mct :: .int mls :: .ref moc :: .ref msT :: .ref mrV :: .ref msP :: .int mqs :: .ref mrA :: .ref mbA :: .ref mwA :: .ref mhA :: .ref mfA :: .ref mpA :: .ref mxA :: .ref myA :: .ref mmA :: .ref mqA :: .ref mzA :: .ref mwy :: .ref mfd :: .int msz :: .int mcz :: .int mch :: .int mft :: .int mpt :: .int mdp :: .int mvd :: .long mnw :: .int mmk :: []))), (mbA, .inl (cI, 2176, .inl bl)), (mwA, .inl (cI, 64, .inl (scG (fsG u a b tt fr g 16) 48))), (mhA, .inl (cI, 8, .inl (upd (upd (upd (upd (upd f 0 (f 0 + z.2.1)) 1 (f 1 + z.2.2.1)) 2 (f 2 + z.2.2.2.1)) 3 (f 3 + z.2.2.2.2.1)) 4 (f 4 + z.2.2.2.2.2.1)))), (mpA, .inl (cI, 64, .inl pmf))] H437 := hP
        have hD : va_D A [(mo, .inr (12, (.int mer :: .int mfed :: .int mwr :: .int mct :: .int mls :: .ref moc :: .ref msT :: .ref mrV :: .ref msP :: .int mqs :: .ref mrA :: .ref mbA :: .ref mwA :: .ref mhA :: .ref mfA :: .ref mpA :: .ref mxA :: .ref myA :: .ref mmA :: .ref mqA :: .ref mzA :: .ref mwy :: .ref mfd :: .int msz :: .int mcz :: .int mch :: .int mft :: .int mpt :: .int mdp :: .int mvd :: .long mnw :: .int mmk :: []))), (mbA, .inl (cI, 2176, .inl bl)), (mwA, .inl (cI, 64, .inl (scG (fsG u a b tt fr g 16) 48))), (mhA, .inl (cI, 8, .inl (upd (upd (upd (upd (upd f 0 (f 0 + z.2.1)) 1 (f 1 + z.2.2.1)) 2 (f 2 + z.2.2.2.1)) 3 (f 3 + z.2.2.2.2.1)) 4 (f 4 + z.2.2.2.2.2.1)))), (mpA, .inl (cI, 64, .inl pmf))] := hD
        refine lv_aload_n hx hb d_Model_compress_438 rfl (lv_at hl 0 rfl) ?_
        refine va_get (v := .ref mhA) hx hb htb i_Model hown hK hP 0 rfl rfl 13 (by decide) (htb _ q7_227) (fun _ h9 => h9) rfl d_Model_compress_439 ?_
        refine lv_iconst (v := 5) hx hb d_Model_compress_442 (by decide) ?_
        refine lv_dup2_11 hx hb d_Model_compress_443 rfl rfl ?_
        have h444 : vp_in 5 8 := by unfold vp_in; decide
        refine va_iald hx hb hK hP 3 0 rfl rfl h444 d_Model_compress_444 ?_
        rw [show ((upd (upd (upd (upd (upd f 0 (f 0 + z.2.1)) 1 (f 1 + z.2.2.1)) 2 (f 2 + z.2.2.2.1)) 3 (f 3 + z.2.2.2.2.1)) 4 (f 4 + z.2.2.2.2.2.1)) (5 : Int32).toNatClampNeg : Int32) = f 5 from by rw [show (5 : Int32).toNatClampNeg = 5 from by decide]; simp [upd]]
        refine lv_iload hx hb d_Model_compress_445 (lv_at hl 7 rfl) ?_
        refine lv_iadd hx hb d_Model_compress_447 ?_
        have h448 : vp_in 5 8 := by unfold vp_in; decide
        refine va_iast hx hb hK hP hD hS 3 0 rfl rfl h448 d_Model_compress_448 (fun H448 locs hP hD hS => ?_)
        have hP : va_P (dC, dI) classes [(mo, .inr (12, (.int mer :: .int mfed :: .int mwr :: .int mct :: .int mls :: .ref moc :: .ref msT :: .ref mrV :: .ref msP :: .int mqs :: .ref mrA :: .ref mbA :: .ref mwA :: .ref mhA :: .ref mfA :: .ref mpA :: .ref mxA :: .ref myA :: .ref mmA :: .ref mqA :: .ref mzA :: .ref mwy :: .ref mfd :: .int msz :: .int mcz :: .int mch :: .int mft :: .int mpt :: .int mdp :: .int mvd :: .long mnw :: .int mmk :: []))), (mbA, .inl (cI, 2176, .inl bl)), (mwA, .inl (cI, 64, .inl (scG (fsG u a b tt fr g 16) 48))), (mhA, .inl (cI, 8, .inl (upd (upd (upd (upd (upd (upd f 0 (f 0 + z.2.1)) 1 (f 1 + z.2.2.1)) 2 (f 2 + z.2.2.2.1)) 3 (f 3 + z.2.2.2.2.1)) 4 (f 4 + z.2.2.2.2.2.1)) 5 (f 5 + z.2.2.2.2.2.2.1)))), (mpA, .inl (cI, 64, .inl pmf))] H448 := hP
        have hD : va_D A [(mo, .inr (12, (.int mer :: .int mfed :: .int mwr :: .int mct :: .int mls :: .ref moc :: .ref msT :: .ref mrV :: .ref msP :: .int mqs :: .ref mrA :: .ref mbA :: .ref mwA :: .ref mhA :: .ref mfA :: .ref mpA :: .ref mxA :: .ref myA :: .ref mmA :: .ref mqA :: .ref mzA :: .ref mwy :: .ref mfd :: .int msz :: .int mcz :: .int mch :: .int mft :: .int mpt :: .int mdp :: .int mvd :: .long mnw :: .int mmk :: []))), (mbA, .inl (cI, 2176, .inl bl)), (mwA, .inl (cI, 64, .inl (scG (fsG u a b tt fr g 16) 48))), (mhA, .inl (cI, 8, .inl (upd (upd (upd (upd (upd (upd f 0 (f 0 + z.2.1)) 1 (f 1 + z.2.2.1)) 2 (f 2 + z.2.2.2.1)) 3 (f 3 + z.2.2.2.2.1)) 4 (f 4 + z.2.2.2.2.2.1)) 5 (f 5 + z.2.2.2.2.2.2.1)))), (mpA, .inl (cI, 64, .inl pmf))] := hD
        refine lv_aload_n hx hb d_Model_compress_449 rfl (lv_at hl 0 rfl) ?_
        refine va_get (v := .ref mhA) hx hb htb i_Model hown hK hP 0 rfl rfl 13 (by decide) (htb _ q7_227) (fun _ h9 => h9) rfl d_Model_compress_450 ?_
        refine lv_bipush (v := 6) hx hb d_Model_compress_453 (by decide) ?_
        refine lv_dup2_11 hx hb d_Model_compress_455 rfl rfl ?_
        have h456 : vp_in 6 8 := by unfold vp_in; decide
        refine va_iald hx hb hK hP 3 0 rfl rfl h456 d_Model_compress_456 ?_
        rw [show ((upd (upd (upd (upd (upd (upd f 0 (f 0 + z.2.1)) 1 (f 1 + z.2.2.1)) 2 (f 2 + z.2.2.2.1)) 3 (f 3 + z.2.2.2.2.1)) 4 (f 4 + z.2.2.2.2.2.1)) 5 (f 5 + z.2.2.2.2.2.2.1)) (6 : Int32).toNatClampNeg : Int32) = f 6 from by rw [show (6 : Int32).toNatClampNeg = 6 from by decide]; simp [upd]]
        refine lv_iload hx hb d_Model_compress_457 (lv_at hl 8 rfl) ?_
        refine lv_iadd hx hb d_Model_compress_459 ?_
        have h460 : vp_in 6 8 := by unfold vp_in; decide
        refine va_iast hx hb hK hP hD hS 3 0 rfl rfl h460 d_Model_compress_460 (fun H460 locs hP hD hS => ?_)
        have hP : va_P (dC, dI) classes [(mo, .inr (12, (.int mer :: .int mfed :: .int mwr :: .int mct :: .int mls :: .ref moc :: .ref msT :: .ref mrV :: .ref msP :: .int mqs :: .ref mrA :: .ref mbA :: .ref mwA :: .ref mhA :: .ref mfA :: .ref mpA :: .ref mxA :: .ref myA :: .ref mmA :: .ref mqA :: .ref mzA :: .ref mwy :: .ref mfd :: .int msz :: .int mcz :: .int mch :: .int mft :: .int mpt :: .int mdp :: .int mvd :: .long mnw :: .int mmk :: []))), (mbA, .inl (cI, 2176, .inl bl)), (mwA, .inl (cI, 64, .inl (scG (fsG u a b tt fr g 16) 48))), (mhA, .inl (cI, 8, .inl (upd (upd (upd (upd (upd (upd (upd f 0 (f 0 + z.2.1)) 1 (f 1 + z.2.2.1)) 2 (f 2 + z.2.2.2.1)) 3 (f 3 + z.2.2.2.2.1)) 4 (f 4 + z.2.2.2.2.2.1)) 5 (f 5 + z.2.2.2.2.2.2.1)) 6 (f 6 + z.2.2.2.2.2.2.2.1)))), (mpA, .inl (cI, 64, .inl pmf))] H460 := hP
        have hD : va_D A [(mo, .inr (12, (.int mer :: .int mfed :: .int mwr :: .int mct :: .int mls :: .ref moc :: .ref msT :: .ref mrV :: .ref msP :: .int mqs :: .ref mrA :: .ref mbA :: .ref mwA :: .ref mhA :: .ref mfA :: .ref mpA :: .ref mxA :: .ref myA :: .ref mmA :: .ref mqA :: .ref mzA :: .ref mwy :: .ref mfd :: .int msz :: .int mcz :: .int mch :: .int mft :: .int mpt :: .int mdp :: .int mvd :: .long mnw :: .int mmk :: []))), (mbA, .inl (cI, 2176, .inl bl)), (mwA, .inl (cI, 64, .inl (scG (fsG u a b tt fr g 16) 48))), (mhA, .inl (cI, 8, .inl (upd (upd (upd (upd (upd (upd (upd f 0 (f 0 + z.2.1)) 1 (f 1 + z.2.2.1)) 2 (f 2 + z.2.2.2.1)) 3 (f 3 + z.2.2.2.2.1)) 4 (f 4 + z.2.2.2.2.2.1)) 5 (f 5 + z.2.2.2.2.2.2.1)) 6 (f 6 + z.2.2.2.2.2.2.2.1)))), (mpA, .inl (cI, 64, .inl pmf))] := hD
        refine lv_aload_n hx hb d_Model_compress_461 rfl (lv_at hl 0 rfl) ?_
        refine va_get (v := .ref mhA) hx hb htb i_Model hown hK hP 0 rfl rfl 13 (by decide) (htb _ q7_227) (fun _ h9 => h9) rfl d_Model_compress_462 ?_
        refine lv_bipush (v := 7) hx hb d_Model_compress_465 (by decide) ?_
        refine lv_dup2_11 hx hb d_Model_compress_467 rfl rfl ?_
        have h468 : vp_in 7 8 := by unfold vp_in; decide
        refine va_iald hx hb hK hP 3 0 rfl rfl h468 d_Model_compress_468 ?_
        rw [show ((upd (upd (upd (upd (upd (upd (upd f 0 (f 0 + z.2.1)) 1 (f 1 + z.2.2.1)) 2 (f 2 + z.2.2.2.1)) 3 (f 3 + z.2.2.2.2.1)) 4 (f 4 + z.2.2.2.2.2.1)) 5 (f 5 + z.2.2.2.2.2.2.1)) 6 (f 6 + z.2.2.2.2.2.2.2.1)) (7 : Int32).toNatClampNeg : Int32) = f 7 from by rw [show (7 : Int32).toNatClampNeg = 7 from by decide]; simp [upd]]
        refine lv_iload hx hb d_Model_compress_469 (lv_at hl 9 rfl) ?_
        refine lv_iadd hx hb d_Model_compress_471 ?_
        have h472 : vp_in 7 8 := by unfold vp_in; decide
        refine va_iast hx hb hK hP hD hS 3 0 rfl rfl h472 d_Model_compress_472 (fun H472 locs hP hD hS => ?_)
        have hP : va_P (dC, dI) classes [(mo, .inr (12, (.int mer :: .int mfed :: .int mwr :: .int mct :: .int mls :: .ref moc :: .ref msT :: .ref mrV :: .ref msP :: .int mqs :: .ref mrA :: .ref mbA :: .ref mwA :: .ref mhA :: .ref mfA :: .ref mpA :: .ref mxA :: .ref myA :: .ref mmA :: .ref mqA :: .ref mzA :: .ref mwy :: .ref mfd :: .int msz :: .int mcz :: .int mch :: .int mft :: .int mpt :: .int mdp :: .int mvd :: .long mnw :: .int mmk :: []))), (mbA, .inl (cI, 2176, .inl bl)), (mwA, .inl (cI, 64, .inl (scG (fsG u a b tt fr g 16) 48))), (mhA, .inl (cI, 8, .inl (upd (upd (upd (upd (upd (upd (upd (upd f 0 (f 0 + z.2.1)) 1 (f 1 + z.2.2.1)) 2 (f 2 + z.2.2.2.1)) 3 (f 3 + z.2.2.2.2.1)) 4 (f 4 + z.2.2.2.2.2.1)) 5 (f 5 + z.2.2.2.2.2.2.1)) 6 (f 6 + z.2.2.2.2.2.2.2.1)) 7 (f 7 + z.2.2.2.2.2.2.2.2)))), (mpA, .inl (cI, 64, .inl pmf))] H472 := hP
        have hD : va_D A [(mo, .inr (12, (.int mer :: .int mfed :: .int mwr :: .int mct :: .int mls :: .ref moc :: .ref msT :: .ref mrV :: .ref msP :: .int mqs :: .ref mrA :: .ref mbA :: .ref mwA :: .ref mhA :: .ref mfA :: .ref mpA :: .ref mxA :: .ref myA :: .ref mmA :: .ref mqA :: .ref mzA :: .ref mwy :: .ref mfd :: .int msz :: .int mcz :: .int mch :: .int mft :: .int mpt :: .int mdp :: .int mvd :: .long mnw :: .int mmk :: []))), (mbA, .inl (cI, 2176, .inl bl)), (mwA, .inl (cI, 64, .inl (scG (fsG u a b tt fr g 16) 48))), (mhA, .inl (cI, 8, .inl (upd (upd (upd (upd (upd (upd (upd (upd f 0 (f 0 + z.2.1)) 1 (f 1 + z.2.2.1)) 2 (f 2 + z.2.2.2.1)) 3 (f 3 + z.2.2.2.2.1)) 4 (f 4 + z.2.2.2.2.2.1)) 5 (f 5 + z.2.2.2.2.2.2.1)) 6 (f 6 + z.2.2.2.2.2.2.2.1)) 7 (f 7 + z.2.2.2.2.2.2.2.2)))), (mpA, .inl (cI, 64, .inl pmf))] := hD
        exact W.vret hx hb hr (fun t ht hW => ⟨⟨z.2, rfl, by rw [← hke]; exact hJ.2, by rw [ht]; exact hP, va_K.moved hW.alike hK, hD⟩, hS.F ht⟩) hS.2.2 d_Model_compress_473
      · have hlt : z.1 < 64 := by rw [show (64 : Int32) = nI 64 from rfl, nI_leI (by omega) (by omega)] at c249; omega
        refine lv_iload hx hb d_Model_compress_252 (lv_at hl 9 rfl) ?_
        refine lv_iload hx hb d_Model_compress_254 (lv_at hl 6 rfl) ?_
        refine lv_bipush (v := 6) hx hb d_Model_compress_256 (by decide) ?_
        refine vp_callSi (pu_callS (As := [.int z.2.2.2.2.2.1, .int 6]) (rest := [.int z.2.2.2.2.2.2.2.2]) ⟨hx, hb, hml, hown, hts⟩ tbin (c_Model_turn l dC dI sb z.2.2.2.2.2.1 6) q9_89 q9_90 q1_9 q9_91 (n := 2) (by decide +kernel) rfl ⟨rfl, rfl⟩ ⟨Nat.le_of_ble_eq_true rfl, Nat.le_of_ble_eq_true rfl⟩ ⟨Nat.le_of_ble_eq_true rfl, Nat.le_of_ble_eq_true rfl⟩ hN (hT0.keep hS hAs) hK hP [] rfl [] rfl hl.1 rfl (Nat.le_of_ble_eq_true rfl) d_Model_compress_258) (fun r258 hr258 => ?_)
        refine lv_iload hx hb d_Model_compress_261 (lv_at hl 6 rfl) ?_
        refine lv_bipush (v := 11) hx hb d_Model_compress_263 (by decide) ?_
        refine vp_callSi (pu_callS (As := [.int z.2.2.2.2.2.1, .int 11]) (rest := [.int r258, .int z.2.2.2.2.2.2.2.2]) ⟨hx, hb, hml, hown, hts⟩ tbin (c_Model_turn l dC dI sb z.2.2.2.2.2.1 11) q9_89 q9_90 q1_9 q9_91 (n := 2) (by decide +kernel) rfl ⟨rfl, rfl⟩ ⟨Nat.le_of_ble_eq_true rfl, Nat.le_of_ble_eq_true rfl⟩ ⟨Nat.le_of_ble_eq_true rfl, Nat.le_of_ble_eq_true rfl⟩ hN (hT0.keep hS hAs) hK hP [] rfl [] rfl hl.1 rfl (Nat.le_of_ble_eq_true rfl) d_Model_compress_265) (fun r265 hr265 => ?_)
        refine lv_ixor hx hb d_Model_compress_268 ?_
        refine lv_iload hx hb d_Model_compress_269 (lv_at hl 6 rfl) ?_
        refine lv_bipush (v := 25) hx hb d_Model_compress_271 (by decide) ?_
        refine vp_callSi (pu_callS (As := [.int z.2.2.2.2.2.1, .int 25]) (rest := [.int (r258 ^^^ r265), .int z.2.2.2.2.2.2.2.2]) ⟨hx, hb, hml, hown, hts⟩ tbin (c_Model_turn l dC dI sb z.2.2.2.2.2.1 25) q9_89 q9_90 q1_9 q9_91 (n := 2) (by decide +kernel) rfl ⟨rfl, rfl⟩ ⟨Nat.le_of_ble_eq_true rfl, Nat.le_of_ble_eq_true rfl⟩ ⟨Nat.le_of_ble_eq_true rfl, Nat.le_of_ble_eq_true rfl⟩ hN (hT0.keep hS hAs) hK hP [] rfl [] rfl hl.1 rfl (Nat.le_of_ble_eq_true rfl) d_Model_compress_273) (fun r273 hr273 => ?_)
        refine lv_ixor hx hb d_Model_compress_276 ?_
        refine lv_iadd hx hb d_Model_compress_277 ?_
        refine lv_iload hx hb d_Model_compress_278 (lv_at hl 6 rfl) ?_
        refine lv_iload hx hb d_Model_compress_280 (lv_at hl 7 rfl) ?_
        refine lv_iand hx hb d_Model_compress_282 ?_
        refine lv_iload hx hb d_Model_compress_283 (lv_at hl 6 rfl) ?_
        refine lv_iconst (v := -1) hx hb d_Model_compress_285 (by decide) ?_
        refine lv_ixor hx hb d_Model_compress_286 ?_
        refine lv_iload hx hb d_Model_compress_287 (lv_at hl 8 rfl) ?_
        refine lv_iand hx hb d_Model_compress_289 ?_
        refine lv_ixor hx hb d_Model_compress_290 ?_
        refine lv_iadd hx hb d_Model_compress_291 ?_
        refine lv_aload_n hx hb d_Model_compress_292 rfl (lv_at hl 0 rfl) ?_
        refine va_get (v := .ref mpA) hx hb htb i_Model hown hK hP 0 rfl rfl 15 (by decide) (htb _ q7_229) (fun _ h9 => h9) rfl d_Model_compress_293 ?_
        refine lv_iload hx hb d_Model_compress_296 (lv_at hl 10 rfl) ?_
        have h298 : vp_in (nI (z.1)) 64 := vp_in_nI hlt (by omega)
        refine va_iald hx hb hK hP 4 0 rfl rfl h298 d_Model_compress_298 ?_
        rw [show (pmf (nI (z.1)).toNatClampNeg : Int32) = sv_ROUND.getD z.1 0 from by rw [nI_clamp (by omega)]; exact hpm _ hlt]
        refine lv_iadd hx hb d_Model_compress_299 ?_
        refine lv_aload_n hx hb d_Model_compress_300 rfl (lv_at hl 0 rfl) ?_
        refine va_get (v := .ref mwA) hx hb htb i_Model hown hK hP 0 rfl rfl 12 (by decide) (htb _ q7_226) (fun _ h9 => h9) rfl d_Model_compress_301 ?_
        refine lv_iload hx hb d_Model_compress_304 (lv_at hl 10 rfl) ?_
        have h306 : vp_in (nI (z.1)) 64 := vp_in_nI hlt (by omega)
        refine va_iald hx hb hK hP 2 0 rfl rfl h306 d_Model_compress_306 ?_
        rw [show ((scG (fsG u a b tt fr g 16) 48) (nI (z.1)).toNatClampNeg : Int32) = scG (fsG u a b tt fr g 16) 48 z.1 from by rw [nI_clamp (by omega)]]
        refine lv_iadd hx hb d_Model_compress_307 ?_
        refine lv_topi (fun v308 ev308 => ?_)
        refine lv_istore (lv' := [(11, .int v308), (0, .ref mo), (1, .int (nI fr)), (2, .int z.2.1), (3, .int z.2.2.1), (4, .int z.2.2.2.1), (5, .int z.2.2.2.2.1), (6, .int z.2.2.2.2.2.1), (7, .int z.2.2.2.2.2.2.1), (8, .int z.2.2.2.2.2.2.2.1), (9, .int z.2.2.2.2.2.2.2.2), (10, .int (nI (z.1)))]) hx hb d_Model_compress_308 hl (by decide) rfl (fun ls hl => ?_)
        refine lv_iload_n hx hb d_Model_compress_310 rfl (lv_at hl 3 rfl) ?_
        refine lv_iconst (v := 2) hx hb d_Model_compress_311 (by decide) ?_
        refine vp_callSi (pu_callS (As := [.int z.2.1, .int 2]) (rest := []) ⟨hx, hb, hml, hown, hts⟩ tbin (c_Model_turn l dC dI sb z.2.1 2) q9_89 q9_90 q1_9 q9_91 (n := 2) (by decide +kernel) rfl ⟨rfl, rfl⟩ ⟨Nat.le_of_ble_eq_true rfl, Nat.le_of_ble_eq_true rfl⟩ ⟨Nat.le_of_ble_eq_true rfl, Nat.le_of_ble_eq_true rfl⟩ hN (hT0.keep hS hAs) hK hP [] rfl [] rfl hl.1 rfl (Nat.le_of_ble_eq_true rfl) d_Model_compress_312) (fun r312 hr312 => ?_)
        refine lv_iload_n hx hb d_Model_compress_315 rfl (lv_at hl 3 rfl) ?_
        refine lv_bipush (v := 13) hx hb d_Model_compress_316 (by decide) ?_
        refine vp_callSi (pu_callS (As := [.int z.2.1, .int 13]) (rest := [.int r312]) ⟨hx, hb, hml, hown, hts⟩ tbin (c_Model_turn l dC dI sb z.2.1 13) q9_89 q9_90 q1_9 q9_91 (n := 2) (by decide +kernel) rfl ⟨rfl, rfl⟩ ⟨Nat.le_of_ble_eq_true rfl, Nat.le_of_ble_eq_true rfl⟩ ⟨Nat.le_of_ble_eq_true rfl, Nat.le_of_ble_eq_true rfl⟩ hN (hT0.keep hS hAs) hK hP [] rfl [] rfl hl.1 rfl (Nat.le_of_ble_eq_true rfl) d_Model_compress_318) (fun r318 hr318 => ?_)
        refine lv_ixor hx hb d_Model_compress_321 ?_
        refine lv_iload_n hx hb d_Model_compress_322 rfl (lv_at hl 3 rfl) ?_
        refine lv_bipush (v := 22) hx hb d_Model_compress_323 (by decide) ?_
        refine vp_callSi (pu_callS (As := [.int z.2.1, .int 22]) (rest := [.int (r312 ^^^ r318)]) ⟨hx, hb, hml, hown, hts⟩ tbin (c_Model_turn l dC dI sb z.2.1 22) q9_89 q9_90 q1_9 q9_91 (n := 2) (by decide +kernel) rfl ⟨rfl, rfl⟩ ⟨Nat.le_of_ble_eq_true rfl, Nat.le_of_ble_eq_true rfl⟩ ⟨Nat.le_of_ble_eq_true rfl, Nat.le_of_ble_eq_true rfl⟩ hN (hT0.keep hS hAs) hK hP [] rfl [] rfl hl.1 rfl (Nat.le_of_ble_eq_true rfl) d_Model_compress_325) (fun r325 hr325 => ?_)
        refine lv_ixor hx hb d_Model_compress_328 ?_
        refine lv_iload_n hx hb d_Model_compress_329 rfl (lv_at hl 3 rfl) ?_
        refine lv_iload_n hx hb d_Model_compress_330 rfl (lv_at hl 4 rfl) ?_
        refine lv_iand hx hb d_Model_compress_331 ?_
        refine lv_iload_n hx hb d_Model_compress_332 rfl (lv_at hl 3 rfl) ?_
        refine lv_iload hx hb d_Model_compress_333 (lv_at hl 5 rfl) ?_
        refine lv_iand hx hb d_Model_compress_335 ?_
        refine lv_ixor hx hb d_Model_compress_336 ?_
        refine lv_iload_n hx hb d_Model_compress_337 rfl (lv_at hl 4 rfl) ?_
        refine lv_iload hx hb d_Model_compress_338 (lv_at hl 5 rfl) ?_
        refine lv_iand hx hb d_Model_compress_340 ?_
        refine lv_ixor hx hb d_Model_compress_341 ?_
        refine lv_iadd hx hb d_Model_compress_342 ?_
        refine lv_topi (fun v343 ev343 => ?_)
        refine lv_istore (lv' := [(12, .int v343), (11, .int v308), (0, .ref mo), (1, .int (nI fr)), (2, .int z.2.1), (3, .int z.2.2.1), (4, .int z.2.2.2.1), (5, .int z.2.2.2.2.1), (6, .int z.2.2.2.2.2.1), (7, .int z.2.2.2.2.2.2.1), (8, .int z.2.2.2.2.2.2.2.1), (9, .int z.2.2.2.2.2.2.2.2), (10, .int (nI (z.1)))]) hx hb d_Model_compress_343 hl (by decide) rfl (fun ls hl => ?_)
        refine lv_iload hx hb d_Model_compress_345 (lv_at hl 10 rfl) ?_
        refine lv_istore (lv' := [(9, .int z.2.2.2.2.2.2.2.1), (12, .int v343), (11, .int v308), (0, .ref mo), (1, .int (nI fr)), (2, .int z.2.1), (3, .int z.2.2.1), (4, .int z.2.2.2.1), (5, .int z.2.2.2.2.1), (6, .int z.2.2.2.2.2.1), (7, .int z.2.2.2.2.2.2.1), (8, .int z.2.2.2.2.2.2.2.1), (10, .int (nI (z.1)))]) hx hb d_Model_compress_347 hl (by decide) rfl (fun ls hl => ?_)
        refine lv_iload hx hb d_Model_compress_349 (lv_at hl 10 rfl) ?_
        refine lv_istore (lv' := [(8, .int z.2.2.2.2.2.2.1), (9, .int z.2.2.2.2.2.2.2.1), (12, .int v343), (11, .int v308), (0, .ref mo), (1, .int (nI fr)), (2, .int z.2.1), (3, .int z.2.2.1), (4, .int z.2.2.2.1), (5, .int z.2.2.2.2.1), (6, .int z.2.2.2.2.2.1), (7, .int z.2.2.2.2.2.2.1), (10, .int (nI (z.1)))]) hx hb d_Model_compress_351 hl (by decide) rfl (fun ls hl => ?_)
        refine lv_iload hx hb d_Model_compress_353 (lv_at hl 10 rfl) ?_
        refine lv_istore (lv' := [(7, .int z.2.2.2.2.2.1), (8, .int z.2.2.2.2.2.2.1), (9, .int z.2.2.2.2.2.2.2.1), (12, .int v343), (11, .int v308), (0, .ref mo), (1, .int (nI fr)), (2, .int z.2.1), (3, .int z.2.2.1), (4, .int z.2.2.2.1), (5, .int z.2.2.2.2.1), (6, .int z.2.2.2.2.2.1), (10, .int (nI (z.1)))]) hx hb d_Model_compress_355 hl (by decide) rfl (fun ls hl => ?_)
        refine lv_iload hx hb d_Model_compress_357 (lv_at hl 10 rfl) ?_
        refine lv_iload hx hb d_Model_compress_359 (lv_at hl 4 rfl) ?_
        refine lv_iadd hx hb d_Model_compress_361 ?_
        refine lv_topi (fun v362 ev362 => ?_)
        refine lv_istore (lv' := [(6, .int v362), (7, .int z.2.2.2.2.2.1), (8, .int z.2.2.2.2.2.2.1), (9, .int z.2.2.2.2.2.2.2.1), (12, .int v343), (11, .int v308), (0, .ref mo), (1, .int (nI fr)), (2, .int z.2.1), (3, .int z.2.2.1), (4, .int z.2.2.2.1), (5, .int z.2.2.2.2.1), (10, .int (nI (z.1)))]) hx hb d_Model_compress_362 hl (by decide) rfl (fun ls hl => ?_)
        refine lv_iload hx hb d_Model_compress_364 (lv_at hl 10 rfl) ?_
        refine lv_istore (lv' := [(5, .int z.2.2.2.1), (6, .int v362), (7, .int z.2.2.2.2.2.1), (8, .int z.2.2.2.2.2.2.1), (9, .int z.2.2.2.2.2.2.2.1), (12, .int v343), (11, .int v308), (0, .ref mo), (1, .int (nI fr)), (2, .int z.2.1), (3, .int z.2.2.1), (4, .int z.2.2.2.1), (10, .int (nI (z.1)))]) hx hb d_Model_compress_366 hl (by decide) rfl (fun ls hl => ?_)
        refine lv_iload_n hx hb d_Model_compress_368 rfl (lv_at hl 10 rfl) ?_
        refine lv_istore (lv' := [(4, .int z.2.2.1), (5, .int z.2.2.2.1), (6, .int v362), (7, .int z.2.2.2.2.2.1), (8, .int z.2.2.2.2.2.2.1), (9, .int z.2.2.2.2.2.2.2.1), (12, .int v343), (11, .int v308), (0, .ref mo), (1, .int (nI fr)), (2, .int z.2.1), (3, .int z.2.2.1), (10, .int (nI (z.1)))]) hx hb d_Model_compress_369 hl (by decide) rfl (fun ls hl => ?_)
        refine lv_iload_n hx hb d_Model_compress_371 rfl (lv_at hl 10 rfl) ?_
        refine lv_istore_n (lv' := [(3, .int z.2.1), (4, .int z.2.2.1), (5, .int z.2.2.2.1), (6, .int v362), (7, .int z.2.2.2.2.2.1), (8, .int z.2.2.2.2.2.2.1), (9, .int z.2.2.2.2.2.2.2.1), (12, .int v343), (11, .int v308), (0, .ref mo), (1, .int (nI fr)), (2, .int z.2.1), (10, .int (nI (z.1)))]) hx hb d_Model_compress_372 rfl hl (by decide) rfl (fun ls hl => ?_)
        refine lv_iload hx hb d_Model_compress_373 (lv_at hl 8 rfl) ?_
        refine lv_iload hx hb d_Model_compress_375 (lv_at hl 7 rfl) ?_
        refine lv_iadd hx hb d_Model_compress_377 ?_
        refine lv_topi (fun v378 ev378 => ?_)
        refine lv_istore_n (lv' := [(2, .int v378), (3, .int z.2.1), (4, .int z.2.2.1), (5, .int z.2.2.2.1), (6, .int v362), (7, .int z.2.2.2.2.2.1), (8, .int z.2.2.2.2.2.2.1), (9, .int z.2.2.2.2.2.2.2.1), (12, .int v343), (11, .int v308), (0, .ref mo), (1, .int (nI fr)), (10, .int (nI (z.1)))]) hx hb d_Model_compress_378 rfl hl (by decide) rfl (fun ls hl => ?_)
        refine lv_iinc (v := nI (z.1 + 1)) (lv' := [(10, .int (nI (z.1 + 1))), (2, .int v378), (3, .int z.2.1), (4, .int z.2.2.1), (5, .int z.2.2.2.1), (6, .int v362), (7, .int z.2.2.2.2.2.1), (8, .int z.2.2.2.2.2.2.1), (9, .int z.2.2.2.2.2.2.2.1), (12, .int v343), (11, .int v308), (0, .ref mo), (1, .int (nI fr))]) hx hb d_Model_compress_379 hl (k := 12) rfl (nI_1 _) (by decide) rfl (fun ls hl => ?_)
        refine lv_goto (tgt := 245) hx hb d_Model_compress_382 (by decide) ?_
        exact ih (z.1 + 1, v378, z.2.1, z.2.2.1, z.2.2.2.1, v362, z.2.2.2.2.2.1, z.2.2.2.2.2.2.1, z.2.2.2.2.2.2.2.1) ls (by show 64 - (z.1 + 1) < 64 - z.1; omega) (⟨by show z.1 + 1 ≤ 64; omega, shG_s hJ.2 (by rw [ev378, show v308 = shS (sv_ROUND.getD z.1 0) ((scG (fsG u a b tt fr g 16) 48) z.1) z.2 from by rw [ev308, hr258, hr265, hr273]; rfl, show v343 = shU z.2 from by rw [ev343, hr312, hr318, hr325]; rfl]) (by rw [ev362, show v308 = shS (sv_ROUND.getD z.1 0) ((scG (fsG u a b tt fr g 16) 48) z.1) z.2 from by rw [ev308, hr258, hr265, hr273]; rfl])⟩) (lv_sub hl [11, 12, 1, 2, 3, 4, 5, 6, 7, 8, 0] rfl)
    · have hk48 : k < 48 := by rw [show (64 : Int32) = nI 64 from rfl, nI_leI (by omega) (by omega)] at c84; omega
      refine lv_aload_n hx hb d_Model_compress_87 rfl (lv_at hl 0 rfl) ?_
      refine va_get (v := .ref mwA) hx hb htb i_Model hown hK hP 0 rfl rfl 12 (by decide) (htb _ q7_226) (fun _ h9 => h9) rfl d_Model_compress_88 ?_
      refine lv_iload_n hx hb d_Model_compress_91 rfl (lv_at hl 2 rfl) ?_
      refine lv_bipush (v := 15) hx hb d_Model_compress_92 (by decide) ?_
      refine lv_isub hx hb d_Model_compress_94 ?_
      rw [show ((nI (16 + k)) - 15 : Int32) = nI (16 + k - 15) from pk_sub (a := 16 + k) (b := 15) (by omega)]
      have h95 : vp_in (nI (16 + k - 15)) 64 := vp_in_nI (by omega) (by omega)
      refine va_iald hx hb hK hP 2 0 rfl rfl h95 d_Model_compress_95 ?_
      rw [show ((scG (fsG u a b tt fr g 16) k) (nI (16 + k - 15)).toNatClampNeg : Int32) = scG (fsG u a b tt fr g 16) k (16 + k - 15) from by rw [nI_clamp (by omega)]]
      refine lv_topi (fun v96 ev96 => ?_)
      refine lv_istore_n (lv' := [(3, .int v96), (0, .ref mo), (1, .int (nI fr)), (2, .int (nI (16 + k)))]) hx hb d_Model_compress_96 rfl hl (by decide) rfl (fun ls hl => ?_)
      refine lv_aload_n hx hb d_Model_compress_97 rfl (lv_at hl 1 rfl) ?_
      refine va_get (v := .ref mwA) hx hb htb i_Model hown hK hP 0 rfl rfl 12 (by decide) (htb _ q7_226) (fun _ h9 => h9) rfl d_Model_compress_98 ?_
      refine lv_iload_n hx hb d_Model_compress_101 rfl (lv_at hl 3 rfl) ?_
      refine lv_iconst (v := 2) hx hb d_Model_compress_102 (by decide) ?_
      refine lv_isub hx hb d_Model_compress_103 ?_
      rw [show ((nI (16 + k)) - 2 : Int32) = nI (16 + k - 2) from pk_sub (a := 16 + k) (b := 2) (by omega)]
      have h104 : vp_in (nI (16 + k - 2)) 64 := vp_in_nI (by omega) (by omega)
      refine va_iald hx hb hK hP 2 0 rfl rfl h104 d_Model_compress_104 ?_
      rw [show ((scG (fsG u a b tt fr g 16) k) (nI (16 + k - 2)).toNatClampNeg : Int32) = scG (fsG u a b tt fr g 16) k (16 + k - 2) from by rw [nI_clamp (by omega)]]
      refine lv_topi (fun v105 ev105 => ?_)
      refine lv_istore (lv' := [(4, .int v105), (3, .int v96), (0, .ref mo), (1, .int (nI fr)), (2, .int (nI (16 + k)))]) hx hb d_Model_compress_105 hl (by decide) rfl (fun ls hl => ?_)
      refine lv_aload_n hx hb d_Model_compress_107 rfl (lv_at hl 2 rfl) ?_
      refine va_get (v := .ref mwA) hx hb htb i_Model hown hK hP 0 rfl rfl 12 (by decide) (htb _ q7_226) (fun _ h9 => h9) rfl d_Model_compress_108 ?_
      refine lv_iload_n hx hb d_Model_compress_111 rfl (lv_at hl 4 rfl) ?_
      refine lv_aload_n hx hb d_Model_compress_112 rfl (lv_at hl 2 rfl) ?_
      refine va_get (v := .ref mwA) hx hb htb i_Model hown hK hP 0 rfl rfl 12 (by decide) (htb _ q7_226) (fun _ h9 => h9) rfl d_Model_compress_113 ?_
      refine lv_iload_n hx hb d_Model_compress_116 rfl (lv_at hl 4 rfl) ?_
      refine lv_bipush (v := 16) hx hb d_Model_compress_117 (by decide) ?_
      refine lv_isub hx hb d_Model_compress_119 ?_
      rw [show ((nI (16 + k)) - 16 : Int32) = nI (16 + k - 16) from pk_sub (a := 16 + k) (b := 16) (by omega)]
      have h120 : vp_in (nI (16 + k - 16)) 64 := vp_in_nI (by omega) (by omega)
      refine va_iald hx hb hK hP 2 0 rfl rfl h120 d_Model_compress_120 ?_
      rw [show ((scG (fsG u a b tt fr g 16) k) (nI (16 + k - 16)).toNatClampNeg : Int32) = scG (fsG u a b tt fr g 16) k (16 + k - 16) from by rw [nI_clamp (by omega)]]
      refine lv_iload_n hx hb d_Model_compress_121 rfl (lv_at hl 1 rfl) ?_
      refine lv_bipush (v := 7) hx hb d_Model_compress_122 (by decide) ?_
      refine vp_callSi (pu_callS (As := [.int v96, .int 7]) (rest := [.int (scG (fsG u a b tt fr g 16) k (16 + k - 16)), .int (nI (16 + k)), .ref mwA]) ⟨hx, hb, hml, hown, hts⟩ tbin (c_Model_turn l dC dI sb v96 7) q9_89 q9_90 q1_9 q9_91 (n := 2) (by decide +kernel) rfl ⟨rfl, rfl⟩ ⟨Nat.le_of_ble_eq_true rfl, Nat.le_of_ble_eq_true rfl⟩ ⟨Nat.le_of_ble_eq_true rfl, Nat.le_of_ble_eq_true rfl⟩ hN (hT0.keep hS hAs) hK hP [] rfl [] rfl hl.1 rfl (Nat.le_of_ble_eq_true rfl) d_Model_compress_124) (fun r124 hr124 => ?_)
      refine lv_iload_n hx hb d_Model_compress_127 rfl (lv_at hl 1 rfl) ?_
      refine lv_bipush (v := 18) hx hb d_Model_compress_128 (by decide) ?_
      refine vp_callSi (pu_callS (As := [.int v96, .int 18]) (rest := [.int r124, .int (scG (fsG u a b tt fr g 16) k (16 + k - 16)), .int (nI (16 + k)), .ref mwA]) ⟨hx, hb, hml, hown, hts⟩ tbin (c_Model_turn l dC dI sb v96 18) q9_89 q9_90 q1_9 q9_91 (n := 2) (by decide +kernel) rfl ⟨rfl, rfl⟩ ⟨Nat.le_of_ble_eq_true rfl, Nat.le_of_ble_eq_true rfl⟩ ⟨Nat.le_of_ble_eq_true rfl, Nat.le_of_ble_eq_true rfl⟩ hN (hT0.keep hS hAs) hK hP [] rfl [] rfl hl.1 rfl (Nat.le_of_ble_eq_true rfl) d_Model_compress_130) (fun r130 hr130 => ?_)
      refine lv_ixor hx hb d_Model_compress_133 ?_
      refine lv_iload_n hx hb d_Model_compress_134 rfl (lv_at hl 1 rfl) ?_
      refine lv_iconst (v := 3) hx hb d_Model_compress_135 (by decide) ?_
      refine lv_iushr (v := (v96.toUInt32 >>> ((3 : Int32).toUInt32 &&& Int32.toUInt32 31)).toInt32) hx hb d_Model_compress_136 rfl ?_
      refine lv_ixor hx hb d_Model_compress_137 ?_
      refine lv_iadd hx hb d_Model_compress_138 ?_
      refine lv_aload_n hx hb d_Model_compress_139 rfl (lv_at hl 2 rfl) ?_
      refine va_get (v := .ref mwA) hx hb htb i_Model hown hK hP 0 rfl rfl 12 (by decide) (htb _ q7_226) (fun _ h9 => h9) rfl d_Model_compress_140 ?_
      refine lv_iload_n hx hb d_Model_compress_143 rfl (lv_at hl 4 rfl) ?_
      refine lv_bipush (v := 7) hx hb d_Model_compress_144 (by decide) ?_
      refine lv_isub hx hb d_Model_compress_146 ?_
      rw [show ((nI (16 + k)) - 7 : Int32) = nI (16 + k - 7) from pk_sub (a := 16 + k) (b := 7) (by omega)]
      have h147 : vp_in (nI (16 + k - 7)) 64 := vp_in_nI (by omega) (by omega)
      refine va_iald hx hb hK hP 2 0 rfl rfl h147 d_Model_compress_147 ?_
      rw [show ((scG (fsG u a b tt fr g 16) k) (nI (16 + k - 7)).toNatClampNeg : Int32) = scG (fsG u a b tt fr g 16) k (16 + k - 7) from by rw [nI_clamp (by omega)]]
      refine lv_iadd hx hb d_Model_compress_148 ?_
      refine lv_iload hx hb d_Model_compress_149 (lv_at hl 0 rfl) ?_
      refine lv_bipush (v := 17) hx hb d_Model_compress_151 (by decide) ?_
      refine vp_callSi (pu_callS (As := [.int v105, .int 17]) (rest := [.int (((scG (fsG u a b tt fr g 16) k (16 + k - 16)) + ((r124 ^^^ r130) ^^^ ((v96.toUInt32 >>> ((3 : Int32).toUInt32 &&& Int32.toUInt32 31)).toInt32))) + (scG (fsG u a b tt fr g 16) k (16 + k - 7))), .int (nI (16 + k)), .ref mwA]) ⟨hx, hb, hml, hown, hts⟩ tbin (c_Model_turn l dC dI sb v105 17) q9_89 q9_90 q1_9 q9_91 (n := 2) (by decide +kernel) rfl ⟨rfl, rfl⟩ ⟨Nat.le_of_ble_eq_true rfl, Nat.le_of_ble_eq_true rfl⟩ ⟨Nat.le_of_ble_eq_true rfl, Nat.le_of_ble_eq_true rfl⟩ hN (hT0.keep hS hAs) hK hP [] rfl [] rfl hl.1 rfl (Nat.le_of_ble_eq_true rfl) d_Model_compress_153) (fun r153 hr153 => ?_)
      refine lv_iload hx hb d_Model_compress_156 (lv_at hl 0 rfl) ?_
      refine lv_bipush (v := 19) hx hb d_Model_compress_158 (by decide) ?_
      refine vp_callSi (pu_callS (As := [.int v105, .int 19]) (rest := [.int r153, .int (((scG (fsG u a b tt fr g 16) k (16 + k - 16)) + ((r124 ^^^ r130) ^^^ ((v96.toUInt32 >>> ((3 : Int32).toUInt32 &&& Int32.toUInt32 31)).toInt32))) + (scG (fsG u a b tt fr g 16) k (16 + k - 7))), .int (nI (16 + k)), .ref mwA]) ⟨hx, hb, hml, hown, hts⟩ tbin (c_Model_turn l dC dI sb v105 19) q9_89 q9_90 q1_9 q9_91 (n := 2) (by decide +kernel) rfl ⟨rfl, rfl⟩ ⟨Nat.le_of_ble_eq_true rfl, Nat.le_of_ble_eq_true rfl⟩ ⟨Nat.le_of_ble_eq_true rfl, Nat.le_of_ble_eq_true rfl⟩ hN (hT0.keep hS hAs) hK hP [] rfl [] rfl hl.1 rfl (Nat.le_of_ble_eq_true rfl) d_Model_compress_160) (fun r160 hr160 => ?_)
      refine lv_ixor hx hb d_Model_compress_163 ?_
      refine lv_iload hx hb d_Model_compress_164 (lv_at hl 0 rfl) ?_
      refine lv_bipush (v := 10) hx hb d_Model_compress_166 (by decide) ?_
      refine lv_iushr (v := (v105.toUInt32 >>> ((10 : Int32).toUInt32 &&& Int32.toUInt32 31)).toInt32) hx hb d_Model_compress_168 rfl ?_
      refine lv_ixor hx hb d_Model_compress_169 ?_
      refine lv_iadd hx hb d_Model_compress_170 ?_
      rw [show ((((scG (fsG u a b tt fr g 16) k (16 + k - 16)) + ((r124 ^^^ r130) ^^^ ((v96.toUInt32 >>> ((3 : Int32).toUInt32 &&& Int32.toUInt32 31)).toInt32))) + (scG (fsG u a b tt fr g 16) k (16 + k - 7))) + ((r153 ^^^ r160) ^^^ ((v105.toUInt32 >>> ((10 : Int32).toUInt32 &&& Int32.toUInt32 31)).toInt32)) : Int32) = scV (scG (fsG u a b tt fr g 16) k) (16 + k) from by rw [hr124, hr130, hr153, hr160, ev96, ev105]; exact scV_r _ _]
      have h171 : vp_in (nI (16 + k)) 64 := vp_in_nI (by omega) (by omega)
      refine va_iast hx hb hK hP hD hS 2 0 rfl rfl h171 d_Model_compress_171 (fun H171 locs hP hD hS => ?_)
      rw [nI_clamp (by omega)] at hP hD
      have hP : va_P (dC, dI) classes [(mo, .inr (12, (.int mer :: .int mfed :: .int mwr :: .int mct :: .int mls :: .ref moc :: .ref msT :: .ref mrV :: .ref msP :: .int mqs :: .ref mrA :: .ref mbA :: .ref mwA :: .ref mhA :: .ref mfA :: .ref mpA :: .ref mxA :: .ref myA :: .ref mmA :: .ref mqA :: .ref mzA :: .ref mwy :: .ref mfd :: .int msz :: .int mcz :: .int mch :: .int mft :: .int mpt :: .int mdp :: .int mvd :: .long mnw :: .int mmk :: []))), (mbA, .inl (cI, 2176, .inl bl)), (mwA, .inl (cI, 64, .inl (scG (fsG u a b tt fr g 16) (k + 1)))), (mhA, .inl (cI, 8, .inl f)), (mpA, .inl (cI, 64, .inl pmf))] H171 := hP
      have hD : va_D A [(mo, .inr (12, (.int mer :: .int mfed :: .int mwr :: .int mct :: .int mls :: .ref moc :: .ref msT :: .ref mrV :: .ref msP :: .int mqs :: .ref mrA :: .ref mbA :: .ref mwA :: .ref mhA :: .ref mfA :: .ref mpA :: .ref mxA :: .ref myA :: .ref mmA :: .ref mqA :: .ref mzA :: .ref mwy :: .ref mfd :: .int msz :: .int mcz :: .int mch :: .int mft :: .int mpt :: .int mdp :: .int mvd :: .long mnw :: .int mmk :: []))), (mbA, .inl (cI, 2176, .inl bl)), (mwA, .inl (cI, 64, .inl (scG (fsG u a b tt fr g 16) (k + 1)))), (mhA, .inl (cI, 8, .inl f)), (mpA, .inl (cI, 64, .inl pmf))] := hD
      refine lv_iinc (v := nI (16 + k + 1)) (lv' := [(2, .int (nI (16 + k + 1))), (4, .int v105), (3, .int v96), (0, .ref mo), (1, .int (nI fr))]) hx hb d_Model_compress_172 hl (k := 4) rfl (nI_1 _) (by decide) rfl (fun ls hl => ?_)
      refine lv_goto (tgt := 81) hx hb d_Model_compress_175 (by decide) ?_
      exact ih (k + 1) _ _ ls (by omega) (by omega) hP hD hS (lv_sub hl [3, 4, 0] rfl)
  · have hi16 : i < 16 := by rw [show (16 : Int32) = nI 16 from rfl, nI_leI (by omega) (by omega)] at c5; omega
    refine lv_aload_n hx hb d_Model_compress_8 rfl (lv_at hl 0 rfl) ?_
    refine va_get (v := .ref mwA) hx hb htb i_Model hown hK hP 0 rfl rfl 12 (by decide) (htb _ q7_226) (fun _ h9 => h9) rfl d_Model_compress_9 ?_
    refine lv_iload_n hx hb d_Model_compress_12 rfl (lv_at hl 2 rfl) ?_
    refine lv_aload_n hx hb d_Model_compress_13 rfl (lv_at hl 0 rfl) ?_
    refine va_get (v := .ref mbA) hx hb htb i_Model hown hK hP 0 rfl rfl 11 (by decide) (htb _ q7_225) (fun _ h9 => h9) rfl d_Model_compress_14 ?_
    refine lv_iload_n hx hb d_Model_compress_17 rfl (lv_at hl 1 rfl) ?_
    refine lv_iconst (v := 4) hx hb d_Model_compress_18 (by decide) ?_
    refine lv_iload_n hx hb d_Model_compress_19 rfl (lv_at hl 2 rfl) ?_
    refine lv_imul hx hb d_Model_compress_20 ?_
    rw [show (4 * (nI i) : Int32) = nI (4 * i) from pk_mul 4 i]
    refine lv_iadd hx hb d_Model_compress_21 ?_
    rw [show ((nI fr) + (nI (4 * i)) : Int32) = nI (fr + 4 * i) from nI_add fr (4 * i)]
    have h22 : vp_in (nI (fr + 4 * i)) 2176 := vp_in_nI (by omega) (by omega)
    refine va_iald hx hb hK hP 1 0 rfl rfl h22 d_Model_compress_22 ?_
    rw [show (bl (nI (fr + 4 * i)).toNatClampNeg : Int32) = padI u a b (nI (fr + 4 * i)) (nI tt) from by rw [nI_clamp (by omega)]; exact hbl _ (by omega) (by omega)]
    refine lv_bipush (v := 24) hx hb d_Model_compress_23 (by decide) ?_
    refine lv_ishl hx hb d_Model_compress_25 ?_
    refine lv_aload_n hx hb d_Model_compress_26 rfl (lv_at hl 0 rfl) ?_
    refine va_get (v := .ref mbA) hx hb htb i_Model hown hK hP 0 rfl rfl 11 (by decide) (htb _ q7_225) (fun _ h9 => h9) rfl d_Model_compress_27 ?_
    refine lv_iload_n hx hb d_Model_compress_30 rfl (lv_at hl 1 rfl) ?_
    refine lv_iconst (v := 4) hx hb d_Model_compress_31 (by decide) ?_
    refine lv_iload_n hx hb d_Model_compress_32 rfl (lv_at hl 2 rfl) ?_
    refine lv_imul hx hb d_Model_compress_33 ?_
    rw [show (4 * (nI i) : Int32) = nI (4 * i) from pk_mul 4 i]
    refine lv_iadd hx hb d_Model_compress_34 ?_
    rw [show ((nI fr) + (nI (4 * i)) : Int32) = nI (fr + 4 * i) from nI_add fr (4 * i)]
    refine lv_iconst (v := 1) hx hb d_Model_compress_35 (by decide) ?_
    refine lv_iadd hx hb d_Model_compress_36 ?_
    rw [show ((nI (fr + 4 * i)) + 1 : Int32) = nI (fr + 4 * i + 1) from nI_add (fr + 4 * i) 1]
    have h37 : vp_in (nI (fr + 4 * i + 1)) 2176 := vp_in_nI (by omega) (by omega)
    refine va_iald hx hb hK hP 1 0 rfl rfl h37 d_Model_compress_37 ?_
    rw [show (bl (nI (fr + 4 * i + 1)).toNatClampNeg : Int32) = padI u a b (nI (fr + 4 * i + 1)) (nI tt) from by rw [nI_clamp (by omega)]; exact hbl _ (by omega) (by omega)]
    refine lv_bipush (v := 16) hx hb d_Model_compress_38 (by decide) ?_
    refine lv_ishl hx hb d_Model_compress_40 ?_
    refine lv_ior hx hb d_Model_compress_41 ?_
    refine lv_aload_n hx hb d_Model_compress_42 rfl (lv_at hl 0 rfl) ?_
    refine va_get (v := .ref mbA) hx hb htb i_Model hown hK hP 0 rfl rfl 11 (by decide) (htb _ q7_225) (fun _ h9 => h9) rfl d_Model_compress_43 ?_
    refine lv_iload_n hx hb d_Model_compress_46 rfl (lv_at hl 1 rfl) ?_
    refine lv_iconst (v := 4) hx hb d_Model_compress_47 (by decide) ?_
    refine lv_iload_n hx hb d_Model_compress_48 rfl (lv_at hl 2 rfl) ?_
    refine lv_imul hx hb d_Model_compress_49 ?_
    rw [show (4 * (nI i) : Int32) = nI (4 * i) from pk_mul 4 i]
    refine lv_iadd hx hb d_Model_compress_50 ?_
    rw [show ((nI fr) + (nI (4 * i)) : Int32) = nI (fr + 4 * i) from nI_add fr (4 * i)]
    refine lv_iconst (v := 2) hx hb d_Model_compress_51 (by decide) ?_
    refine lv_iadd hx hb d_Model_compress_52 ?_
    rw [show ((nI (fr + 4 * i)) + 2 : Int32) = nI (fr + 4 * i + 2) from nI_add (fr + 4 * i) 2]
    have h53 : vp_in (nI (fr + 4 * i + 2)) 2176 := vp_in_nI (by omega) (by omega)
    refine va_iald hx hb hK hP 1 0 rfl rfl h53 d_Model_compress_53 ?_
    rw [show (bl (nI (fr + 4 * i + 2)).toNatClampNeg : Int32) = padI u a b (nI (fr + 4 * i + 2)) (nI tt) from by rw [nI_clamp (by omega)]; exact hbl _ (by omega) (by omega)]
    refine lv_bipush (v := 8) hx hb d_Model_compress_54 (by decide) ?_
    refine lv_ishl hx hb d_Model_compress_56 ?_
    refine lv_ior hx hb d_Model_compress_57 ?_
    refine lv_aload_n hx hb d_Model_compress_58 rfl (lv_at hl 0 rfl) ?_
    refine va_get (v := .ref mbA) hx hb htb i_Model hown hK hP 0 rfl rfl 11 (by decide) (htb _ q7_225) (fun _ h9 => h9) rfl d_Model_compress_59 ?_
    refine lv_iload_n hx hb d_Model_compress_62 rfl (lv_at hl 1 rfl) ?_
    refine lv_iconst (v := 4) hx hb d_Model_compress_63 (by decide) ?_
    refine lv_iload_n hx hb d_Model_compress_64 rfl (lv_at hl 2 rfl) ?_
    refine lv_imul hx hb d_Model_compress_65 ?_
    rw [show (4 * (nI i) : Int32) = nI (4 * i) from pk_mul 4 i]
    refine lv_iadd hx hb d_Model_compress_66 ?_
    rw [show ((nI fr) + (nI (4 * i)) : Int32) = nI (fr + 4 * i) from nI_add fr (4 * i)]
    refine lv_iconst (v := 3) hx hb d_Model_compress_67 (by decide) ?_
    refine lv_iadd hx hb d_Model_compress_68 ?_
    rw [show ((nI (fr + 4 * i)) + 3 : Int32) = nI (fr + 4 * i + 3) from nI_add (fr + 4 * i) 3]
    have h69 : vp_in (nI (fr + 4 * i + 3)) 2176 := vp_in_nI (by omega) (by omega)
    refine va_iald hx hb hK hP 1 0 rfl rfl h69 d_Model_compress_69 ?_
    rw [show (bl (nI (fr + 4 * i + 3)).toNatClampNeg : Int32) = padI u a b (nI (fr + 4 * i + 3)) (nI tt) from by rw [nI_clamp (by omega)]; exact hbl _ (by omega) (by omega)]
    refine lv_ior hx hb d_Model_compress_70 ?_
    rw [show (((((padI u a b (nI (fr + 4 * i)) (nI tt)) <<< (24 &&& 31)) ||| ((padI u a b (nI (fr + 4 * i + 1)) (nI tt)) <<< (16 &&& 31))) ||| ((padI u a b (nI (fr + 4 * i + 2)) (nI tt)) <<< (8 &&& 31))) ||| (padI u a b (nI (fr + 4 * i + 3)) (nI tt)) : Int32) = wdG u a b tt (fr + 4 * i) 4 from (wd4 (padI u a b (nI (fr + 4 * i)) (nI tt)) (padI u a b (nI (fr + 4 * i + 1)) (nI tt)) (padI u a b (nI (fr + 4 * i + 2)) (nI tt)) (padI u a b (nI (fr + 4 * i + 3)) (nI tt))).symm]
    have h71 : vp_in (nI i) 64 := vp_in_nI (by omega) (by omega)
    refine va_iast hx hb hK hP hD hS 2 0 rfl rfl h71 d_Model_compress_71 (fun H71 locs hP hD hS => ?_)
    rw [nI_clamp (by omega)] at hP hD
    have hP : va_P (dC, dI) classes [(mo, .inr (12, (.int mer :: .int mfed :: .int mwr :: .int mct :: .int mls :: .ref moc :: .ref msT :: .ref mrV :: .ref msP :: .int mqs :: .ref mrA :: .ref mbA :: .ref mwA :: .ref mhA :: .ref mfA :: .ref mpA :: .ref mxA :: .ref myA :: .ref mmA :: .ref mqA :: .ref mzA :: .ref mwy :: .ref mfd :: .int msz :: .int mcz :: .int mch :: .int mft :: .int mpt :: .int mdp :: .int mvd :: .long mnw :: .int mmk :: []))), (mbA, .inl (cI, 2176, .inl bl)), (mwA, .inl (cI, 64, .inl (fsG u a b tt fr g (i + 1)))), (mhA, .inl (cI, 8, .inl f)), (mpA, .inl (cI, 64, .inl pmf))] H71 := hP
    have hD : va_D A [(mo, .inr (12, (.int mer :: .int mfed :: .int mwr :: .int mct :: .int mls :: .ref moc :: .ref msT :: .ref mrV :: .ref msP :: .int mqs :: .ref mrA :: .ref mbA :: .ref mwA :: .ref mhA :: .ref mfA :: .ref mpA :: .ref mxA :: .ref myA :: .ref mmA :: .ref mqA :: .ref mzA :: .ref mwy :: .ref mfd :: .int msz :: .int mcz :: .int mch :: .int mft :: .int mpt :: .int mdp :: .int mvd :: .long mnw :: .int mmk :: []))), (mbA, .inl (cI, 2176, .inl bl)), (mwA, .inl (cI, 64, .inl (fsG u a b tt fr g (i + 1)))), (mhA, .inl (cI, 8, .inl f)), (mpA, .inl (cI, 64, .inl pmf))] := hD
    refine lv_iinc (v := nI (i + 1)) (lv' := [(2, .int (nI (i + 1))), (0, .ref mo), (1, .int (nI fr))]) hx hb d_Model_compress_72 hl (k := 2) rfl (nI_1 _) (by decide) rfl (fun ls hl => ?_)
    refine lv_goto (tgt := 2) hx hb d_Model_compress_75 (by decide) ?_
    exact ih (i + 1) _ _ ls (by omega) (by omega) hP hD hS (lv_sub hl [1, 2, 0] rfl)
