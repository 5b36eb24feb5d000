/-! Reader.isDay, daysTo, algorithm. -/
def msI (m : Int32) : Int32 := sv_MONTH_STARTS.getD m.toNatClampNeg 0
theorem mon_in {m : Int32} (h1 : ¬ m < 1) (h2 : m ≤ 12) : vp_in m 13 := by
  rw [vp_in_iff]
  rw [Int32.lt_iff_toInt_lt] at h1
  rw [Int32.le_iff_toInt_le] at h2
  have e1 : (1 : Int32).toInt = 1 := by decide
  have e2 : (12 : Int32).toInt = 12 := by decide
  omega
theorem mon_in1 {m : Int32} (h1 : ¬ m < 1) (h2 : m ≤ 12) : vp_in (m - 1) 13 := by
  have h0 := mon_in h1 h2
  obtain ⟨j, hj, rfl⟩ := vp_in_of h0 (by omega)
  have hj1 : 1 ≤ j := by
    rcases Nat.eq_zero_or_pos j with q | q
    · rw [q] at h1; exact absurd (by decide) h1
    · exact q
  rw [show (1 : Int32) = nI 1 from rfl, pk_sub hj1]
  exact vp_in_nI (by omega) (by omega)
/-- the days of a month, as the class takes them -/
noncomputable def mdI (y m : Int32) : Int32 := @ite _ (m = 2 ∧ lpI y) (Classical.propDecidable _) (msI m - msI (m - 1) + 1) (msI m - msI (m - 1))
def dayI (y m d : Int32) : Prop := (¬ m < 1 ∧ m ≤ 12 ∧ ¬ d < 1) ∧ d ≤ mdI y m
noncomputable def lyI (y m : Int32) : Int32 := zP (2 < m ∧ lpI y)
noncomputable def dtI (y m d : Int32) : Int64 := @ite _ (m < 1 ∨ ¬ m ≤ 12) (Classical.propDecidable _) 0
  ((365 * y.toInt64 + ((y - 1) / 4).toInt64 - ((y - 1) / 100).toInt64 + ((y - 1) / 400).toInt64 + (msI (m - 1) + d - 1 + lyI y m).toInt64) - 719527)
theorem mdI_1 {y m : Int32} (h : m = 2) (h2 : lpI y) : mdI y m = msI m - msI (m - 1) + 1 := by rw [mdI, if_pos ⟨h, h2⟩]
theorem mdI_2 {y m : Int32} (h : ¬ (m = 2 ∧ lpI y)) : mdI y m = msI m - msI (m - 1) := by rw [mdI, if_neg h]

def y_Reader_isDay : MethodName := ⟨"TrustChain$Reader", "isDay", "(III)Z"⟩
abbrev b_Reader_isDay : ByteArray := prog_8_method_26_code
def w_Reader_isDay : List Cond := Cond.code y_Reader_isDay b_Reader_isDay 4 ((some FieldType.boolean)) :: tb
theorem d_Reader_isDay_0 : decode b_Reader_isDay 0 = .ok (.iload_n 1, 1) := by decide +kernel
theorem d_Reader_isDay_1 : decode b_Reader_isDay 1 = .ok (.iconst 1, 1) := by decide +kernel
theorem d_Reader_isDay_2 : decode b_Reader_isDay 2 = .ok (.if_icmp .lt 14, 3) := by decide +kernel
theorem d_Reader_isDay_5 : decode b_Reader_isDay 5 = .ok (.iload_n 1, 1) := by decide +kernel
theorem d_Reader_isDay_6 : decode b_Reader_isDay 6 = .ok (.bipush 12, 2) := by decide +kernel
theorem d_Reader_isDay_8 : decode b_Reader_isDay 8 = .ok (.if_icmp .gt 8, 3) := by decide +kernel
theorem d_Reader_isDay_11 : decode b_Reader_isDay 11 = .ok (.iload_n 2, 1) := by decide +kernel
theorem d_Reader_isDay_12 : decode b_Reader_isDay 12 = .ok (.iconst 1, 1) := by decide +kernel
theorem d_Reader_isDay_13 : decode b_Reader_isDay 13 = .ok (.if_icmp .ge 5, 3) := by decide +kernel
theorem d_Reader_isDay_16 : decode b_Reader_isDay 16 = .ok (.iconst 0, 1) := by decide +kernel
theorem d_Reader_isDay_17 : decode b_Reader_isDay 17 = .ok (.ireturn, 1) := by decide +kernel
theorem d_Reader_isDay_18 : decode b_Reader_isDay 18 = .ok (.getstatic 161, 3) := by decide +kernel
theorem d_Reader_isDay_21 : decode b_Reader_isDay 21 = .ok (.iload_n 1, 1) := by decide +kernel
theorem d_Reader_isDay_22 : decode b_Reader_isDay 22 = .ok (.iaload, 1) := by decide +kernel
theorem d_Reader_isDay_23 : decode b_Reader_isDay 23 = .ok (.getstatic 161, 3) := by decide +kernel
theorem d_Reader_isDay_26 : decode b_Reader_isDay 26 = .ok (.iload_n 1, 1) := by decide +kernel
theorem d_Reader_isDay_27 : decode b_Reader_isDay 27 = .ok (.iconst 1, 1) := by decide +kernel
theorem d_Reader_isDay_28 : decode b_Reader_isDay 28 = .ok (.isub, 1) := by decide +kernel
theorem d_Reader_isDay_29 : decode b_Reader_isDay 29 = .ok (.iaload, 1) := by decide +kernel
theorem d_Reader_isDay_30 : decode b_Reader_isDay 30 = .ok (.isub, 1) := by decide +kernel
theorem d_Reader_isDay_31 : decode b_Reader_isDay 31 = .ok (.istore_n 3, 1) := by decide +kernel
theorem d_Reader_isDay_32 : decode b_Reader_isDay 32 = .ok (.iload_n 2, 1) := by decide +kernel
theorem d_Reader_isDay_33 : decode b_Reader_isDay 33 = .ok (.iload_n 1, 1) := by decide +kernel
theorem d_Reader_isDay_34 : decode b_Reader_isDay 34 = .ok (.iconst 2, 1) := by decide +kernel
theorem d_Reader_isDay_35 : decode b_Reader_isDay 35 = .ok (.if_icmp .ne 16, 3) := by decide +kernel
theorem d_Reader_isDay_38 : decode b_Reader_isDay 38 = .ok (.iload_n 0, 1) := by decide +kernel
theorem d_Reader_isDay_39 : decode b_Reader_isDay 39 = .ok (.invokestatic 164, 3) := by decide +kernel
theorem d_Reader_isDay_42 : decode b_Reader_isDay 42 = .ok (.ifCond .eq 9, 3) := by decide +kernel
theorem d_Reader_isDay_45 : decode b_Reader_isDay 45 = .ok (.iload_n 3, 1) := by decide +kernel
theorem d_Reader_isDay_46 : decode b_Reader_isDay 46 = .ok (.iconst 1, 1) := by decide +kernel
theorem d_Reader_isDay_47 : decode b_Reader_isDay 47 = .ok (.iadd, 1) := by decide +kernel
theorem d_Reader_isDay_48 : decode b_Reader_isDay 48 = .ok (.goto 4, 3) := by decide +kernel
theorem d_Reader_isDay_51 : decode b_Reader_isDay 51 = .ok (.iload_n 3, 1) := by decide +kernel
theorem d_Reader_isDay_52 : decode b_Reader_isDay 52 = .ok (.if_icmp .gt 7, 3) := by decide +kernel
theorem d_Reader_isDay_55 : decode b_Reader_isDay 55 = .ok (.iconst 1, 1) := by decide +kernel
theorem d_Reader_isDay_56 : decode b_Reader_isDay 56 = .ok (.goto 4, 3) := by decide +kernel
theorem d_Reader_isDay_59 : decode b_Reader_isDay 59 = .ok (.iconst 0, 1) := by decide +kernel
theorem d_Reader_isDay_60 : decode b_Reader_isDay 60 = .ok (.ireturn, 1) := by decide +kernel
def y_Reader_daysTo : MethodName := ⟨"TrustChain$Reader", "daysTo", "(III)J"⟩
abbrev b_Reader_daysTo : ByteArray := prog_8_method_27_code
def w_Reader_daysTo : List Cond := Cond.code y_Reader_daysTo b_Reader_daysTo 5 ((some FieldType.long)) :: tb
theorem d_Reader_daysTo_0 : decode b_Reader_daysTo 0 = .ok (.iload_n 1, 1) := by decide +kernel
theorem d_Reader_daysTo_1 : decode b_Reader_daysTo 1 = .ok (.iconst 1, 1) := by decide +kernel
theorem d_Reader_daysTo_2 : decode b_Reader_daysTo 2 = .ok (.if_icmp .lt 9, 3) := by decide +kernel
theorem d_Reader_daysTo_5 : decode b_Reader_daysTo 5 = .ok (.iload_n 1, 1) := by decide +kernel
theorem d_Reader_daysTo_6 : decode b_Reader_daysTo 6 = .ok (.bipush 12, 2) := by decide +kernel
theorem d_Reader_daysTo_8 : decode b_Reader_daysTo 8 = .ok (.if_icmp .le 5, 3) := by decide +kernel
theorem d_Reader_daysTo_11 : decode b_Reader_daysTo 11 = .ok (.lconst 0, 1) := by decide +kernel
theorem d_Reader_daysTo_12 : decode b_Reader_daysTo 12 = .ok (.lreturn, 1) := by decide +kernel
theorem d_Reader_daysTo_13 : decode b_Reader_daysTo 13 = .ok (.iload_n 0, 1) := by decide +kernel
theorem d_Reader_daysTo_14 : decode b_Reader_daysTo 14 = .ok (.iconst 1, 1) := by decide +kernel
theorem d_Reader_daysTo_15 : decode b_Reader_daysTo 15 = .ok (.isub, 1) := by decide +kernel
theorem d_Reader_daysTo_16 : decode b_Reader_daysTo 16 = .ok (.istore_n 3, 1) := by decide +kernel
theorem d_Reader_daysTo_17 : decode b_Reader_daysTo 17 = .ok (.getstatic 161, 3) := by decide +kernel
theorem d_Reader_daysTo_20 : decode b_Reader_daysTo 20 = .ok (.iload_n 1, 1) := by decide +kernel
theorem d_Reader_daysTo_21 : decode b_Reader_daysTo 21 = .ok (.iconst 1, 1) := by decide +kernel
theorem d_Reader_daysTo_22 : decode b_Reader_daysTo 22 = .ok (.isub, 1) := by decide +kernel
theorem d_Reader_daysTo_23 : decode b_Reader_daysTo 23 = .ok (.iaload, 1) := by decide +kernel
theorem d_Reader_daysTo_24 : decode b_Reader_daysTo 24 = .ok (.iload_n 2, 1) := by decide +kernel
theorem d_Reader_daysTo_25 : decode b_Reader_daysTo 25 = .ok (.iadd, 1) := by decide +kernel
theorem d_Reader_daysTo_26 : decode b_Reader_daysTo 26 = .ok (.iconst 1, 1) := by decide +kernel
theorem d_Reader_daysTo_27 : decode b_Reader_daysTo 27 = .ok (.isub, 1) := by decide +kernel
theorem d_Reader_daysTo_28 : decode b_Reader_daysTo 28 = .ok (.iload_n 1, 1) := by decide +kernel
theorem d_Reader_daysTo_29 : decode b_Reader_daysTo 29 = .ok (.iconst 2, 1) := by decide +kernel
theorem d_Reader_daysTo_30 : decode b_Reader_daysTo 30 = .ok (.if_icmp .le 14, 3) := by decide +kernel
theorem d_Reader_daysTo_33 : decode b_Reader_daysTo 33 = .ok (.iload_n 0, 1) := by decide +kernel
theorem d_Reader_daysTo_34 : decode b_Reader_daysTo 34 = .ok (.invokestatic 164, 3) := by decide +kernel
theorem d_Reader_daysTo_37 : decode b_Reader_daysTo 37 = .ok (.ifCond .eq 7, 3) := by decide +kernel
theorem d_Reader_daysTo_40 : decode b_Reader_daysTo 40 = .ok (.iconst 1, 1) := by decide +kernel
theorem d_Reader_daysTo_41 : decode b_Reader_daysTo 41 = .ok (.goto 4, 3) := by decide +kernel
theorem d_Reader_daysTo_44 : decode b_Reader_daysTo 44 = .ok (.iconst 0, 1) := by decide +kernel
theorem d_Reader_daysTo_45 : decode b_Reader_daysTo 45 = .ok (.iadd, 1) := by decide +kernel
theorem d_Reader_daysTo_46 : decode b_Reader_daysTo 46 = .ok (.istore 4, 2) := by decide +kernel
theorem d_Reader_daysTo_48 : decode b_Reader_daysTo 48 = .ok (.ldc2_w 167, 3) := by decide +kernel
theorem d_Reader_daysTo_51 : decode b_Reader_daysTo 51 = .ok (.iload_n 0, 1) := by decide +kernel
theorem d_Reader_daysTo_52 : decode b_Reader_daysTo 52 = .ok (.i2l, 1) := by decide +kernel
theorem d_Reader_daysTo_53 : decode b_Reader_daysTo 53 = .ok (.lmul, 1) := by decide +kernel
theorem d_Reader_daysTo_54 : decode b_Reader_daysTo 54 = .ok (.iload_n 3, 1) := by decide +kernel
theorem d_Reader_daysTo_55 : decode b_Reader_daysTo 55 = .ok (.iconst 4, 1) := by decide +kernel
theorem d_Reader_daysTo_56 : decode b_Reader_daysTo 56 = .ok (.idiv, 1) := by decide +kernel
theorem d_Reader_daysTo_57 : decode b_Reader_daysTo 57 = .ok (.i2l, 1) := by decide +kernel
theorem d_Reader_daysTo_58 : decode b_Reader_daysTo 58 = .ok (.ladd, 1) := by decide +kernel
theorem d_Reader_daysTo_59 : decode b_Reader_daysTo 59 = .ok (.iload_n 3, 1) := by decide +kernel
theorem d_Reader_daysTo_60 : decode b_Reader_daysTo 60 = .ok (.bipush 100, 2) := by decide +kernel
theorem d_Reader_daysTo_62 : decode b_Reader_daysTo 62 = .ok (.idiv, 1) := by decide +kernel
theorem d_Reader_daysTo_63 : decode b_Reader_daysTo 63 = .ok (.i2l, 1) := by decide +kernel
theorem d_Reader_daysTo_64 : decode b_Reader_daysTo 64 = .ok (.lsub, 1) := by decide +kernel
theorem d_Reader_daysTo_65 : decode b_Reader_daysTo 65 = .ok (.iload_n 3, 1) := by decide +kernel
theorem d_Reader_daysTo_66 : decode b_Reader_daysTo 66 = .ok (.sipush 400, 3) := by decide +kernel
theorem d_Reader_daysTo_69 : decode b_Reader_daysTo 69 = .ok (.idiv, 1) := by decide +kernel
theorem d_Reader_daysTo_70 : decode b_Reader_daysTo 70 = .ok (.i2l, 1) := by decide +kernel
theorem d_Reader_daysTo_71 : decode b_Reader_daysTo 71 = .ok (.ladd, 1) := by decide +kernel
theorem d_Reader_daysTo_72 : decode b_Reader_daysTo 72 = .ok (.iload 4, 2) := by decide +kernel
theorem d_Reader_daysTo_74 : decode b_Reader_daysTo 74 = .ok (.i2l, 1) := by decide +kernel
theorem d_Reader_daysTo_75 : decode b_Reader_daysTo 75 = .ok (.ladd, 1) := by decide +kernel
theorem d_Reader_daysTo_76 : decode b_Reader_daysTo 76 = .ok (.ldc2_w 169, 3) := by decide +kernel
theorem d_Reader_daysTo_79 : decode b_Reader_daysTo 79 = .ok (.lsub, 1) := by decide +kernel
theorem d_Reader_daysTo_80 : decode b_Reader_daysTo 80 = .ok (.lreturn, 1) := by decide +kernel
set_option maxHeartbeats 4000000 in
set_option maxRecDepth 100000 in
theorem c_isDay (l : Launch) (dC : Nat → ClassId) (dI : Nat → Nat → Nat) (sb : sB) (y m9 d9 : Int32) : Met l y_Reader_isDay w_Reader_isDay ({ frames := 1, cells := 0, slots := 0, locals := 20 }) (pu_P [.int y, .int m9, .int d9] (dC, dI) sb [] []) (vp_Si (fun r => bz r (dayI y m9 d9))) 0 0 (fun _ => False) := by
  refine Met.ofW (cc := b_Reader_isDay) (maxL := 4) (ret := (some FieldType.boolean)) (by decide) rfl ?_
  intro p e s m args below meth c s₁ B hml hv
  obtain ⟨rfl, hP, hK, hN, hT0⟩ := hv
  have hx := B.exec
  have hb := B.bytes
  have hr := B.returns
  have hts := atoms_spec (ws := w_Reader_isDay) B.pre
  have tbin : ∀ w ∈ tb, w ∈ w_Reader_isDay := fun w h => List.mem_cons_of_mem _ h
  have htb : ∀ w ∈ tb, w.before _ s = true := fun w h => hts w (tbin w h)
  have hown : s.vm.findClass "TrustChain$Reader" = some m.cls := findClass_of_methodNamed B.named
  have hlocks := B.notSynchronized
  have hcs : 0 ≤ (headSpec w_Reader_isDay ({ frames := 1, cells := 0, slots := 0, locals := 20 })).room.cells ∧ 0 ≤ (headSpec w_Reader_isDay ({ frames := 1, cells := 0, slots := 0, locals := 20 })).room.slots := ⟨Nat.zero_le _, Nat.zero_le _⟩
  have hP : va_P (dC, dI) classes [] s.heap := hP
  have hl := lv_entry ([.int y, .int m9, .int d9]) (n := 4) (Nat.le_of_ble_eq_true rfl)
  rw [lg_entry_eq]
  generalize (lg_sl ([.int y, .int m9, .int d9]) ++ List.replicate (4 - (lg_sl ([.int y, .int m9, .int d9])).length) Slot.unset).toArray = ls at hl ⊢
  have hl : lv_has ls 4 [(0, .int y), (1, .int m9), (2, .int d9)] := hl
  refine lv_iload_n hx hb d_Reader_isDay_0 rfl (lv_at hl 1 rfl) ?_
  refine lv_iconst (v := 1) hx hb d_Reader_isDay_1 (by decide) ?_
  refine lv_icmp_lt (tgt := 16) hx hb d_Reader_isDay_2 (by decide) (fun c2 => ?_) (fun c2 => ?_)
  · refine lv_iconst (v := 0) hx hb d_Reader_isDay_16 (by decide) ?_
    exact W.zret (v := 0) hx hb hr (by decide) (fun t ht hW => ⟨_, rfl, bz_f (fun q => q.1.1 c2), ht⟩) (fun q h => by cases h) d_Reader_isDay_17
  · refine lv_iload_n hx hb d_Reader_isDay_5 rfl (lv_at hl 1 rfl) ?_
    refine lv_bipush (v := 12) hx hb d_Reader_isDay_6 (by decide) ?_
    refine lv_icmp_gt (tgt := 16) hx hb d_Reader_isDay_8 (by decide) (fun c8 => ?_) (fun c8 => ?_)
    · refine lv_iconst (v := 0) hx hb d_Reader_isDay_16 (by decide) ?_
      exact W.zret (v := 0) hx hb hr (by decide) (fun t ht hW => ⟨_, rfl, bz_f (fun q => Int32.not_lt.mpr q.1.2.1 c8), ht⟩) (fun q h => by cases h) d_Reader_isDay_17
    · refine lv_iload_n hx hb d_Reader_isDay_11 rfl (lv_at hl 2 rfl) ?_
      refine lv_iconst (v := 1) hx hb d_Reader_isDay_12 (by decide) ?_
      refine lv_icmp_ge (tgt := 18) hx hb d_Reader_isDay_13 (by decide) (fun c13 => ?_) (fun c13 => ?_)
      · refine va_gets hx hb hT0.2.1.1 va_S.rf hown (htb _ q4_10) (fun _ h9 => h9) d_Reader_isDay_18 ?_
        refine lv_iload_n hx hb d_Reader_isDay_21 rfl (lv_at hl 1 rfl) ?_
        have h22 : vp_in m9 13 := mon_in c2 (Int32.not_lt.mp c8)
        refine va_ti (v := .int (sv_MONTH_STARTS.getD m9.toNatClampNeg 0)) hx hb hT0.2.1.2 va_S.rf h22 rfl d_Reader_isDay_22 ?_
        refine va_gets hx hb hT0.2.1.1 va_S.rf hown (htb _ q4_10) (fun _ h9 => h9) d_Reader_isDay_23 ?_
        refine lv_iload_n hx hb d_Reader_isDay_26 rfl (lv_at hl 1 rfl) ?_
        refine lv_iconst (v := 1) hx hb d_Reader_isDay_27 (by decide) ?_
        refine lv_isub hx hb d_Reader_isDay_28 ?_
        have h29 : vp_in (m9 - 1) 13 := mon_in1 c2 (Int32.not_lt.mp c8)
        refine va_ti (v := .int (sv_MONTH_STARTS.getD (m9 - 1).toNatClampNeg 0)) hx hb hT0.2.1.2 va_S.rf h29 rfl d_Reader_isDay_29 ?_
        refine lv_isub hx hb d_Reader_isDay_30 ?_
        rw [show ((sv_MONTH_STARTS.getD m9.toNatClampNeg 0) - (sv_MONTH_STARTS.getD (m9 - 1).toNatClampNeg 0) : Int32) = msI m9 - msI (m9 - 1) from rfl]
        refine lv_istore_n (lv' := [(3, .int (msI m9 - msI (m9 - 1))), (0, .int y), (1, .int m9), (2, .int d9)]) hx hb d_Reader_isDay_31 rfl hl (by decide) rfl (fun ls hl => ?_)
        refine lv_iload_n hx hb d_Reader_isDay_32 rfl (lv_at hl 3 rfl) ?_
        refine w_join (J := fun v => v = mdI y m9) (pc := 52) (ls := ls) (rest := [.int d9]) (fun v hv => ?_) (fun k52 => ?_)
        · skip
          subst hv
          refine lv_icmp_gt (tgt := 59) hx hb d_Reader_isDay_52 (by decide) (fun c52 => ?_) (fun c52 => ?_)
          · refine lv_iconst (v := 0) hx hb d_Reader_isDay_59 (by decide) ?_
            exact W.zret (v := 0) hx hb hr (by decide) (fun t ht hW => ⟨_, rfl, bz_f (fun q => Int32.not_lt.mpr q.2 c52), ht⟩) (fun q h => by cases h) d_Reader_isDay_60
          · refine lv_iconst (v := 1) hx hb d_Reader_isDay_55 (by decide) ?_
            refine lv_goto (tgt := 60) hx hb d_Reader_isDay_56 (by decide) ?_
            exact W.zret (v := 1) hx hb hr (by decide) (fun t ht hW => ⟨_, rfl, bz_t ⟨⟨c2, Int32.not_lt.mp c8, Int32.not_lt.mpr c13⟩, Int32.not_lt.mp c52⟩, ht⟩) (fun q h => by cases h) d_Reader_isDay_60
        · skip
          refine lv_iload_n hx hb d_Reader_isDay_33 rfl (lv_at hl 2 rfl) ?_
          refine lv_iconst (v := 2) hx hb d_Reader_isDay_34 (by decide) ?_
          refine lv_icmp_ne (tgt := 51) hx hb d_Reader_isDay_35 (by decide) (fun c35 => ?_) (fun c35 => ?_)
          · refine lv_iload_n hx hb d_Reader_isDay_51 rfl (lv_at hl 0 rfl) ?_
            exact k52 _ ((mdI_2 (fun q => c35 q.1)).symm)
          · refine lv_iload_n hx hb d_Reader_isDay_38 rfl (lv_at hl 1 rfl) ?_
            refine vp_callSi (pu_callS (As := [.int y]) (rest := [.int d9]) ⟨hx, hb, hml, hown, hts⟩ tbin (c_isLeap l dC dI sb y) q4_12 q4_13 q1_15 q4_14 (n := 1) (by decide +kernel) rfl ⟨rfl, rfl⟩ ⟨Nat.le_of_ble_eq_true rfl, Nat.le_of_ble_eq_true rfl⟩ ⟨Nat.le_of_ble_eq_true rfl, Nat.le_of_ble_eq_true rfl⟩ hN hT0 hK hP [] rfl [] rfl hl.1 rfl (Nat.le_of_ble_eq_true rfl) d_Reader_isDay_39) (fun r39 hr39 => ?_)
            refine lv_if_eq (tgt := 51) hx hb d_Reader_isDay_42 (by decide) (fun c42 => ?_) (fun c42 => ?_)
            · refine lv_iload_n hx hb d_Reader_isDay_51 rfl (lv_at hl 0 rfl) ?_
              exact k52 _ ((mdI_2 (fun q => bz_0 hr39 c42 q.2)).symm)
            · refine lv_iload_n hx hb d_Reader_isDay_45 rfl (lv_at hl 0 rfl) ?_
              refine lv_iconst (v := 1) hx hb d_Reader_isDay_46 (by decide) ?_
              refine lv_iadd hx hb d_Reader_isDay_47 ?_
              refine lv_goto (tgt := 52) hx hb d_Reader_isDay_48 (by decide) ?_
              exact k52 _ ((mdI_1 c35 (bz_1 hr39 c42)).symm)
      · refine lv_iconst (v := 0) hx hb d_Reader_isDay_16 (by decide) ?_
        exact W.zret (v := 0) hx hb hr (by decide) (fun t ht hW => ⟨_, rfl, bz_f (fun q => q.1.2.2 (Int32.not_le.mp c13)), ht⟩) (fun q h => by cases h) d_Reader_isDay_17
set_option maxHeartbeats 4000000 in
set_option maxRecDepth 100000 in
theorem c_daysTo (l : Launch) (dC : Nat → ClassId) (dI : Nat → Nat → Nat) (sb : sB) (y m9 d9 : Int32) : Met l y_Reader_daysTo w_Reader_daysTo ({ frames := 1, cells := 0, slots := 0, locals := 20 }) (pu_P [.int y, .int m9, .int d9] (dC, dI) sb [] []) (vp_Sl (fun r => r = dtI y m9 d9)) 0 0 (fun _ => False) := by
  refine Met.ofW (cc := b_Reader_daysTo) (maxL := 5) (ret := (some FieldType.long)) (by decide) rfl ?_
  intro p e s m args below meth c s₁ B hml hv
  obtain ⟨rfl, hP, hK, hN, hT0⟩ := hv
  have hx := B.exec
  have hb := B.bytes
  have hr := B.returns
  have hts := atoms_spec (ws := w_Reader_daysTo) B.pre
  have tbin : ∀ w ∈ tb, w ∈ w_Reader_daysTo := fun w h => List.mem_cons_of_mem _ h
  have htb : ∀ w ∈ tb, w.before _ s = true := fun w h => hts w (tbin w h)
  have hown : s.vm.findClass "TrustChain$Reader" = some m.cls := findClass_of_methodNamed B.named
  have hlocks := B.notSynchronized
  have hcs : 0 ≤ (headSpec w_Reader_daysTo ({ frames := 1, cells := 0, slots := 0, locals := 20 })).room.cells ∧ 0 ≤ (headSpec w_Reader_daysTo ({ frames := 1, cells := 0, slots := 0, locals := 20 })).room.slots := ⟨Nat.zero_le _, Nat.zero_le _⟩
  have hP : va_P (dC, dI) classes [] s.heap := hP
  have hl := lv_entry ([.int y, .int m9, .int d9]) (n := 5) (Nat.le_of_ble_eq_true rfl)
  rw [lg_entry_eq]
  generalize (lg_sl ([.int y, .int m9, .int d9]) ++ List.replicate (5 - (lg_sl ([.int y, .int m9, .int d9])).length) Slot.unset).toArray = ls at hl ⊢
  have hl : lv_has ls 5 [(0, .int y), (1, .int m9), (2, .int d9)] := hl
  refine lv_iload_n hx hb d_Reader_daysTo_0 rfl (lv_at hl 1 rfl) ?_
  refine lv_iconst (v := 1) hx hb d_Reader_daysTo_1 (by decide) ?_
  refine lv_icmp_lt (tgt := 11) hx hb d_Reader_daysTo_2 (by decide) (fun c2 => ?_) (fun c2 => ?_)
  · refine lv_lconst (v := 0) hx hb d_Reader_daysTo_11 (by decide) ?_
    exact W.lret (v := 0) hx hb hr (fun t ht hW => ⟨_, rfl, by rw [dtI, if_pos (Or.inl c2)], ht⟩) (fun q h => by cases h) d_Reader_daysTo_12
  · refine lv_iload_n hx hb d_Reader_daysTo_5 rfl (lv_at hl 1 rfl) ?_
    refine lv_bipush (v := 12) hx hb d_Reader_daysTo_6 (by decide) ?_
    refine lv_icmp_le (tgt := 13) hx hb d_Reader_daysTo_8 (by decide) (fun c8 => ?_) (fun c8 => ?_)
    · refine lv_iload_n hx hb d_Reader_daysTo_13 rfl (lv_at hl 0 rfl) ?_
      refine lv_iconst (v := 1) hx hb d_Reader_daysTo_14 (by decide) ?_
      refine lv_isub hx hb d_Reader_daysTo_15 ?_
      refine lv_istore_n (lv' := [(3, .int (y - 1)), (0, .int y), (1, .int m9), (2, .int d9)]) hx hb d_Reader_daysTo_16 rfl hl (by decide) rfl (fun ls hl => ?_)
      refine va_gets hx hb hT0.2.1.1 va_S.rf hown (htb _ q4_10) (fun _ h9 => h9) d_Reader_daysTo_17 ?_
      refine lv_iload_n hx hb d_Reader_daysTo_20 rfl (lv_at hl 2 rfl) ?_
      refine lv_iconst (v := 1) hx hb d_Reader_daysTo_21 (by decide) ?_
      refine lv_isub hx hb d_Reader_daysTo_22 ?_
      have h23 : vp_in (m9 - 1) 13 := mon_in1 c2 c8
      refine va_ti (v := .int (sv_MONTH_STARTS.getD (m9 - 1).toNatClampNeg 0)) hx hb hT0.2.1.2 va_S.rf h23 rfl d_Reader_daysTo_23 ?_
      rw [show (sv_MONTH_STARTS.getD (m9 - 1).toNatClampNeg 0 : Int32) = msI (m9 - 1) from rfl]
      refine lv_iload_n hx hb d_Reader_daysTo_24 rfl (lv_at hl 3 rfl) ?_
      refine lv_iadd hx hb d_Reader_daysTo_25 ?_
      refine lv_iconst (v := 1) hx hb d_Reader_daysTo_26 (by decide) ?_
      refine lv_isub hx hb d_Reader_daysTo_27 ?_
      refine w_join (J := fun v => v = lyI y m9) (pc := 45) (ls := ls) (rest := [.int (((msI (m9 - 1)) + d9) - 1)]) (fun v hv => ?_) (fun k45 => ?_)
      · skip
        refine lv_iadd hx hb d_Reader_daysTo_45 ?_
        rw [show ((((msI (m9 - 1)) + d9) - 1) + v : Int32) = msI (m9 - 1) + d9 - 1 + lyI y m9 from by rw [hv]]
        refine lv_istore (lv' := [(4, .int (msI (m9 - 1) + d9 - 1 + lyI y m9)), (3, .int (y - 1)), (0, .int y), (1, .int m9), (2, .int d9)]) hx hb d_Reader_daysTo_46 hl (by decide) rfl (fun ls hl => ?_)
        refine lv_ldc2 (v := 365) hx hb hown (htb _ q4_18) d_Reader_daysTo_48 ?_
        refine lv_iload_n hx hb d_Reader_daysTo_51 rfl (lv_at hl 2 rfl) ?_
        refine lv_i2l (v := y.toInt64) hx hb d_Reader_daysTo_52 rfl ?_
        refine lv_lmul hx hb d_Reader_daysTo_53 ?_
        refine lv_iload_n hx hb d_Reader_daysTo_54 rfl (lv_at hl 1 rfl) ?_
        refine lv_iconst (v := 4) hx hb d_Reader_daysTo_55 (by decide) ?_
        refine lv_idiv hx hb d_Reader_daysTo_56 (by decide) ?_
        refine lv_i2l (v := ((y - 1) / 4).toInt64) hx hb d_Reader_daysTo_57 rfl ?_
        refine lv_ladd hx hb d_Reader_daysTo_58 ?_
        refine lv_iload_n hx hb d_Reader_daysTo_59 rfl (lv_at hl 1 rfl) ?_
        refine lv_bipush (v := 100) hx hb d_Reader_daysTo_60 (by decide) ?_
        refine lv_idiv hx hb d_Reader_daysTo_62 (by decide) ?_
        refine lv_i2l (v := ((y - 1) / 100).toInt64) hx hb d_Reader_daysTo_63 rfl ?_
        refine lv_lsub hx hb d_Reader_daysTo_64 ?_
        refine lv_iload_n hx hb d_Reader_daysTo_65 rfl (lv_at hl 1 rfl) ?_
        refine lv_sipush (v := 400) hx hb d_Reader_daysTo_66 (by decide) ?_
        refine lv_idiv hx hb d_Reader_daysTo_69 (by decide) ?_
        refine lv_i2l (v := ((y - 1) / 400).toInt64) hx hb d_Reader_daysTo_70 rfl ?_
        refine lv_ladd hx hb d_Reader_daysTo_71 ?_
        refine lv_iload hx hb d_Reader_daysTo_72 (lv_at hl 0 rfl) ?_
        refine lv_i2l (v := (msI (m9 - 1) + d9 - 1 + lyI y m9).toInt64) hx hb d_Reader_daysTo_74 rfl ?_
        refine lv_ladd hx hb d_Reader_daysTo_75 ?_
        refine lv_ldc2 (v := 719527) hx hb hown (htb _ q4_19) d_Reader_daysTo_76 ?_
        refine lv_lsub hx hb d_Reader_daysTo_79 ?_
        exact W.lret (v := (((((365 * y.toInt64) + (((y - 1) / 4).toInt64)) - (((y - 1) / 100).toInt64)) + (((y - 1) / 400).toInt64)) + ((msI (m9 - 1) + d9 - 1 + lyI y m9).toInt64)) - 719527) hx hb hr (fun t ht hW => ⟨_, rfl, by rw [dtI, if_neg (fun q => q.elim c2 (fun z => z c8))], ht⟩) (fun q h => by cases h) d_Reader_daysTo_80
      · skip
        refine lv_iload_n hx hb d_Reader_daysTo_28 rfl (lv_at hl 2 rfl) ?_
        refine lv_iconst (v := 2) hx hb d_Reader_daysTo_29 (by decide) ?_
        refine lv_icmp_le (tgt := 44) hx hb d_Reader_daysTo_30 (by decide) (fun c30 => ?_) (fun c30 => ?_)
        · refine lv_iconst (v := 0) hx hb d_Reader_daysTo_44 (by decide) ?_
          exact k45 _ (by rw [lyI]; exact bz_zP (bz_f (fun q => Int32.not_lt.mpr c30 q.1)))
        · refine lv_iload_n hx hb d_Reader_daysTo_33 rfl (lv_at hl 1 rfl) ?_
          refine vp_callSi (pu_callS (As := [.int y]) (rest := [.int (((msI (m9 - 1)) + d9) - 1)]) ⟨hx, hb, hml, hown, hts⟩ tbin (c_isLeap l dC dI sb y) q4_12 q4_13 q1_15 q4_14 (n := 1) (by decide +kernel) rfl ⟨rfl, rfl⟩ ⟨Nat.le_of_ble_eq_true rfl, Nat.le_of_ble_eq_true rfl⟩ ⟨Nat.le_of_ble_eq_true rfl, Nat.le_of_ble_eq_true rfl⟩ hN hT0 hK hP [] rfl [] rfl hl.1 rfl (Nat.le_of_ble_eq_true rfl) d_Reader_daysTo_34) (fun r34 hr34 => ?_)
          refine lv_if_eq (tgt := 44) hx hb d_Reader_daysTo_37 (by decide) (fun c37 => ?_) (fun c37 => ?_)
          · refine lv_iconst (v := 0) hx hb d_Reader_daysTo_44 (by decide) ?_
            exact k45 _ (by rw [lyI]; exact bz_zP (bz_f (fun q => bz_0 hr34 c37 q.2)))
          · refine lv_iconst (v := 1) hx hb d_Reader_daysTo_40 (by decide) ?_
            refine lv_goto (tgt := 45) hx hb d_Reader_daysTo_41 (by decide) ?_
            exact k45 _ (by rw [lyI]; exact bz_zP (bz_t ⟨Int32.not_le.mp c30, bz_1 hr34 c37⟩))
    · refine lv_lconst (v := 0) hx hb d_Reader_daysTo_11 (by decide) ?_
      exact W.lret (v := 0) hx hb hr (fun t ht hW => ⟨_, rfl, by rw [dtI, if_pos (Or.inr c8)], ht⟩) (fun q h => by cases h) d_Reader_daysTo_12
