/-! numberOfLeadingZeros, exactly. -/
set_option maxHeartbeats 4000000 in
set_option maxRecDepth 100000 in
theorem x_nlz (l : Launch) (dC : Nat → ClassId) (dI : Nat → Nat → Nat) (sb : sB) (ex : Nat) (he : 1 ≤ ex) (he2 : ex < 2 ^ 31) : Met l y_Integer_numberOfLeadingZeros w_Integer_numberOfLeadingZeros ({ frames := 0, cells := 0, slots := 0, locals := 0 }) (pu_P [.int (nI ex)] (dC, dI) sb [] []) (vp_Si (fun r => ∃ b, b ≤ 31 ∧ r = nI (31 - b) ∧ 2 ^ b ≤ ex ∧ ex < 2 ^ (b + 1))) 0 0 (fun _ => False) := by
  refine Met.ofW (cc := b_Integer_numberOfLeadingZeros) (maxL := 2) (ret := (some FieldType.int)) (by decide) rfl ?_
  intro p e s m args below meth c s₁ B hml hv
  obtain ⟨rfl, hP, hK, hN, hT0⟩ := hv
  have hx := B.exec
  have hb := B.bytes
  have hr := B.returns
  have hts := atoms_spec (ws := w_Integer_numberOfLeadingZeros) B.pre
  have tbin : ∀ w ∈ tb, w ∈ w_Integer_numberOfLeadingZeros := fun w h => List.mem_cons_of_mem _ h
  have htb : ∀ w ∈ tb, w.before _ s = true := fun w h => hts w (tbin w h)
  have hown : s.vm.findClass "java/lang/Integer" = some m.cls := findClass_of_methodNamed B.named
  have hlocks := B.notSynchronized
  have hcs : 0 ≤ (headSpec w_Integer_numberOfLeadingZeros ({ frames := 0, cells := 0, slots := 0, locals := 0 })).room.cells ∧ 0 ≤ (headSpec w_Integer_numberOfLeadingZeros ({ frames := 0, cells := 0, slots := 0, locals := 0 })).room.slots := ⟨Nat.zero_le _, Nat.zero_le _⟩
  have hP : va_P (dC, dI) classes [] s.heap := hP
  have hl := lv_entry ([.int (nI ex)]) (n := 2) (Nat.le_of_ble_eq_true rfl)
  rw [lg_entry_eq]
  generalize (lg_sl ([.int (nI ex)]) ++ List.replicate (2 - (lg_sl ([.int (nI ex)])).length) Slot.unset).toArray = ls at hl ⊢
  have hl : lv_has ls 2 [(0, .int (nI ex))] := hl
  refine lv_iload_n hx hb d_Integer_numberOfLeadingZeros_0 rfl (lv_at hl 0 rfl) ?_
  refine lv_if_gt (tgt := 15) hx hb d_Integer_numberOfLeadingZeros_1 (by decide) (fun c1 => ?_) (fun c1 => ?_)
  rotate_left
  · exact absurd ((nI_ltI (a := 0) (b := ex) (by omega) (by omega)).mpr (by omega)) c1
  refine lv_bipush (v := 31) hx hb d_Integer_numberOfLeadingZeros_15 (by decide) ?_
  refine lv_istore_n (lv' := [(1, .int 31), (0, .int (nI ex))]) hx hb d_Integer_numberOfLeadingZeros_17 rfl hl (by decide) rfl (fun ls hl => ?_)
  refine lv_iload_n hx hb d_Integer_numberOfLeadingZeros_18 rfl (lv_at hl 1 rfl) ?_
  refine lv_ldcw (v := 65536) hx hb hown (htb _ q9_112) d_Integer_numberOfLeadingZeros_19 ?_
  refine lv_icmp_lt (tgt := 33) hx hb d_Integer_numberOfLeadingZeros_22 (by decide) (fun c22 => ?_) (fun c22 => ?_)
  · have p22 : ex < 65536 := ((nI_ltI (a := ex) (b := 65536) (by omega) (by omega)).mp c22)
    refine lv_iload_n hx hb d_Integer_numberOfLeadingZeros_33 rfl (lv_at hl 1 rfl) ?_
    refine lv_sipush (v := 256) hx hb d_Integer_numberOfLeadingZeros_34 (by decide) ?_
    refine lv_icmp_lt (tgt := 48) hx hb d_Integer_numberOfLeadingZeros_37 (by decide) (fun c37 => ?_) (fun c37 => ?_)
    · have p37 : ex < 256 := ((nI_ltI (a := ex) (b := 256) (by omega) (by omega)).mp c37)
      refine lv_iload_n hx hb d_Integer_numberOfLeadingZeros_48 rfl (lv_at hl 1 rfl) ?_
      refine lv_bipush (v := 16) hx hb d_Integer_numberOfLeadingZeros_49 (by decide) ?_
      refine lv_icmp_lt (tgt := 61) hx hb d_Integer_numberOfLeadingZeros_51 (by decide) (fun c51 => ?_) (fun c51 => ?_)
      · have p51 : ex < 16 := ((nI_ltI (a := ex) (b := 16) (by omega) (by omega)).mp c51)
        refine lv_iload_n hx hb d_Integer_numberOfLeadingZeros_61 rfl (lv_at hl 1 rfl) ?_
        refine lv_iconst (v := 4) hx hb d_Integer_numberOfLeadingZeros_62 (by decide) ?_
        refine lv_icmp_lt (tgt := 73) hx hb d_Integer_numberOfLeadingZeros_63 (by decide) (fun c63 => ?_) (fun c63 => ?_)
        · have p63 : ex < 4 := ((nI_ltI (a := ex) (b := 4) (by omega) (by omega)).mp c63)
          refine lv_iload_n hx hb d_Integer_numberOfLeadingZeros_73 rfl (lv_at hl 0 rfl) ?_
          refine lv_iload_n hx hb d_Integer_numberOfLeadingZeros_74 rfl (lv_at hl 1 rfl) ?_
          refine lv_iconst (v := 1) hx hb d_Integer_numberOfLeadingZeros_75 (by decide) ?_
          refine lv_iushr (v := ((nI ex).toUInt32 >>> ((1 : Int32).toUInt32 &&& Int32.toUInt32 31)).toInt32) hx hb d_Integer_numberOfLeadingZeros_76 rfl ?_
          rw [show (((nI ex).toUInt32 >>> ((1 : Int32).toUInt32 &&& Int32.toUInt32 31)).toInt32 : Int32) = nI (ex / 2) from us1 (by omega)]
          obtain ⟨n77, hn77⟩ : ∃ n : Nat, n = ex / 2 := ⟨_, rfl⟩
          rw [← hn77]
          refine lv_isub hx hb d_Integer_numberOfLeadingZeros_77 ?_
          rw [show (31 - (nI n77) : Int32) = nI (31 - n77) from pk_sub (a := 31) (b := n77) (by omega)]
          exact W.iret (v := nI (31 - n77)) hx hb hr (fun t ht hW => ⟨_, rfl, (by have h9 := nl_end (e := ex) (s := 0) (n := 31) (v := ex) rfl (by show ex = ex / 1; omega) (by omega) (by omega) (by omega); rw [← hn77] at h9; exact h9), ht⟩) (fun q h => by cases h) d_Integer_numberOfLeadingZeros_78
        · have p63 : ¬ (ex < 4) := (fun q9 => c63 ((nI_ltI (a := ex) (b := 4) (by omega) (by omega)).mpr q9))
          refine lv_iinc (v := 29) (lv' := [(1, .int 29), (0, .int (nI ex))]) hx hb d_Integer_numberOfLeadingZeros_66 hl (k := 0) rfl (by decide) (by decide) rfl (fun ls hl => ?_)
          refine lv_iload_n hx hb d_Integer_numberOfLeadingZeros_69 rfl (lv_at hl 1 rfl) ?_
          refine lv_iconst (v := 2) hx hb d_Integer_numberOfLeadingZeros_70 (by decide) ?_
          refine lv_iushr (v := ((nI ex).toUInt32 >>> ((2 : Int32).toUInt32 &&& Int32.toUInt32 31)).toInt32) hx hb d_Integer_numberOfLeadingZeros_71 rfl ?_
          rw [show (((nI ex).toUInt32 >>> ((2 : Int32).toUInt32 &&& Int32.toUInt32 31)).toInt32 : Int32) = nI (ex / 4) from us2 (by omega)]
          obtain ⟨n72, hn72⟩ : ∃ n : Nat, n = ex / 4 := ⟨_, rfl⟩
          rw [← hn72]
          refine lv_istore_n (lv' := [(0, .int (nI n72)), (1, .int 29)]) hx hb d_Integer_numberOfLeadingZeros_72 rfl hl (by decide) rfl (fun ls hl => ?_)
          refine lv_iload_n hx hb d_Integer_numberOfLeadingZeros_73 rfl (lv_at hl 1 rfl) ?_
          refine lv_iload_n hx hb d_Integer_numberOfLeadingZeros_74 rfl (lv_at hl 0 rfl) ?_
          refine lv_iconst (v := 1) hx hb d_Integer_numberOfLeadingZeros_75 (by decide) ?_
          refine lv_iushr (v := ((nI n72).toUInt32 >>> ((1 : Int32).toUInt32 &&& Int32.toUInt32 31)).toInt32) hx hb d_Integer_numberOfLeadingZeros_76 rfl ?_
          rw [show (((nI n72).toUInt32 >>> ((1 : Int32).toUInt32 &&& Int32.toUInt32 31)).toInt32 : Int32) = nI (n72 / 2) from us1 (by omega)]
          obtain ⟨n77, hn77⟩ : ∃ n : Nat, n = n72 / 2 := ⟨_, rfl⟩
          rw [← hn77]
          refine lv_isub hx hb d_Integer_numberOfLeadingZeros_77 ?_
          rw [show (29 - (nI n77) : Int32) = nI (29 - n77) from pk_sub (a := 29) (b := n77) (by omega)]
          exact W.iret (v := nI (29 - n77)) hx hb hr (fun t ht hW => ⟨_, rfl, (by have h9 := nl_end (e := ex) (s := 2) (n := 29) (v := n72) rfl (by show n72 = ex / 4; omega) (by omega) (by omega) (by omega); rw [← hn77] at h9; exact h9), ht⟩) (fun q h => by cases h) d_Integer_numberOfLeadingZeros_78
      · have p51 : ¬ (ex < 16) := (fun q9 => c51 ((nI_ltI (a := ex) (b := 16) (by omega) (by omega)).mpr q9))
        refine lv_iinc (v := 27) (lv' := [(1, .int 27), (0, .int (nI ex))]) hx hb d_Integer_numberOfLeadingZeros_54 hl (k := 0) rfl (by decide) (by decide) rfl (fun ls hl => ?_)
        refine lv_iload_n hx hb d_Integer_numberOfLeadingZeros_57 rfl (lv_at hl 1 rfl) ?_
        refine lv_iconst (v := 4) hx hb d_Integer_numberOfLeadingZeros_58 (by decide) ?_
        refine lv_iushr (v := ((nI ex).toUInt32 >>> ((4 : Int32).toUInt32 &&& Int32.toUInt32 31)).toInt32) hx hb d_Integer_numberOfLeadingZeros_59 rfl ?_
        rw [show (((nI ex).toUInt32 >>> ((4 : Int32).toUInt32 &&& Int32.toUInt32 31)).toInt32 : Int32) = nI (ex / 16) from us4 (by omega)]
        obtain ⟨n60, hn60⟩ : ∃ n : Nat, n = ex / 16 := ⟨_, rfl⟩
        rw [← hn60]
        refine lv_istore_n (lv' := [(0, .int (nI n60)), (1, .int 27)]) hx hb d_Integer_numberOfLeadingZeros_60 rfl hl (by decide) rfl (fun ls hl => ?_)
        refine lv_iload_n hx hb d_Integer_numberOfLeadingZeros_61 rfl (lv_at hl 0 rfl) ?_
        refine lv_iconst (v := 4) hx hb d_Integer_numberOfLeadingZeros_62 (by decide) ?_
        refine lv_icmp_lt (tgt := 73) hx hb d_Integer_numberOfLeadingZeros_63 (by decide) (fun c63 => ?_) (fun c63 => ?_)
        · have p63 : n60 < 4 := ((nI_ltI (a := n60) (b := 4) (by omega) (by omega)).mp c63)
          refine lv_iload_n hx hb d_Integer_numberOfLeadingZeros_73 rfl (lv_at hl 1 rfl) ?_
          refine lv_iload_n hx hb d_Integer_numberOfLeadingZeros_74 rfl (lv_at hl 0 rfl) ?_
          refine lv_iconst (v := 1) hx hb d_Integer_numberOfLeadingZeros_75 (by decide) ?_
          refine lv_iushr (v := ((nI n60).toUInt32 >>> ((1 : Int32).toUInt32 &&& Int32.toUInt32 31)).toInt32) hx hb d_Integer_numberOfLeadingZeros_76 rfl ?_
          rw [show (((nI n60).toUInt32 >>> ((1 : Int32).toUInt32 &&& Int32.toUInt32 31)).toInt32 : Int32) = nI (n60 / 2) from us1 (by omega)]
          obtain ⟨n77, hn77⟩ : ∃ n : Nat, n = n60 / 2 := ⟨_, rfl⟩
          rw [← hn77]
          refine lv_isub hx hb d_Integer_numberOfLeadingZeros_77 ?_
          rw [show (27 - (nI n77) : Int32) = nI (27 - n77) from pk_sub (a := 27) (b := n77) (by omega)]
          exact W.iret (v := nI (27 - n77)) hx hb hr (fun t ht hW => ⟨_, rfl, (by have h9 := nl_end (e := ex) (s := 4) (n := 27) (v := n60) rfl (by show n60 = ex / 16; omega) (by omega) (by omega) (by omega); rw [← hn77] at h9; exact h9), ht⟩) (fun q h => by cases h) d_Integer_numberOfLeadingZeros_78
        · have p63 : ¬ (n60 < 4) := (fun q9 => c63 ((nI_ltI (a := n60) (b := 4) (by omega) (by omega)).mpr q9))
          refine lv_iinc (v := 25) (lv' := [(1, .int 25), (0, .int (nI n60))]) hx hb d_Integer_numberOfLeadingZeros_66 hl (k := 1) rfl (by decide) (by decide) rfl (fun ls hl => ?_)
          refine lv_iload_n hx hb d_Integer_numberOfLeadingZeros_69 rfl (lv_at hl 1 rfl) ?_
          refine lv_iconst (v := 2) hx hb d_Integer_numberOfLeadingZeros_70 (by decide) ?_
          refine lv_iushr (v := ((nI n60).toUInt32 >>> ((2 : Int32).toUInt32 &&& Int32.toUInt32 31)).toInt32) hx hb d_Integer_numberOfLeadingZeros_71 rfl ?_
          rw [show (((nI n60).toUInt32 >>> ((2 : Int32).toUInt32 &&& Int32.toUInt32 31)).toInt32 : Int32) = nI (n60 / 4) from us2 (by omega)]
          obtain ⟨n72, hn72⟩ : ∃ n : Nat, n = n60 / 4 := ⟨_, rfl⟩
          rw [← hn72]
          refine lv_istore_n (lv' := [(0, .int (nI n72)), (1, .int 25)]) hx hb d_Integer_numberOfLeadingZeros_72 rfl hl (by decide) rfl (fun ls hl => ?_)
          refine lv_iload_n hx hb d_Integer_numberOfLeadingZeros_73 rfl (lv_at hl 1 rfl) ?_
          refine lv_iload_n hx hb d_Integer_numberOfLeadingZeros_74 rfl (lv_at hl 0 rfl) ?_
          refine lv_iconst (v := 1) hx hb d_Integer_numberOfLeadingZeros_75 (by decide) ?_
          refine lv_iushr (v := ((nI n72).toUInt32 >>> ((1 : Int32).toUInt32 &&& Int32.toUInt32 31)).toInt32) hx hb d_Integer_numberOfLeadingZeros_76 rfl ?_
          rw [show (((nI n72).toUInt32 >>> ((1 : Int32).toUInt32 &&& Int32.toUInt32 31)).toInt32 : Int32) = nI (n72 / 2) from us1 (by omega)]
          obtain ⟨n77, hn77⟩ : ∃ n : Nat, n = n72 / 2 := ⟨_, rfl⟩
          rw [← hn77]
          refine lv_isub hx hb d_Integer_numberOfLeadingZeros_77 ?_
          rw [show (25 - (nI n77) : Int32) = nI (25 - n77) from pk_sub (a := 25) (b := n77) (by omega)]
          exact W.iret (v := nI (25 - n77)) hx hb hr (fun t ht hW => ⟨_, rfl, (by have h9 := nl_end (e := ex) (s := 6) (n := 25) (v := n72) rfl (by show n72 = ex / 64; omega) (by omega) (by omega) (by omega); rw [← hn77] at h9; exact h9), ht⟩) (fun q h => by cases h) d_Integer_numberOfLeadingZeros_78
    · have p37 : ¬ (ex < 256) := (fun q9 => c37 ((nI_ltI (a := ex) (b := 256) (by omega) (by omega)).mpr q9))
      refine lv_iinc (v := 23) (lv' := [(1, .int 23), (0, .int (nI ex))]) hx hb d_Integer_numberOfLeadingZeros_40 hl (k := 0) rfl (by decide) (by decide) rfl (fun ls hl => ?_)
      refine lv_iload_n hx hb d_Integer_numberOfLeadingZeros_43 rfl (lv_at hl 1 rfl) ?_
      refine lv_bipush (v := 8) hx hb d_Integer_numberOfLeadingZeros_44 (by decide) ?_
      refine lv_iushr (v := ((nI ex).toUInt32 >>> ((8 : Int32).toUInt32 &&& Int32.toUInt32 31)).toInt32) hx hb d_Integer_numberOfLeadingZeros_46 rfl ?_
      rw [show (((nI ex).toUInt32 >>> ((8 : Int32).toUInt32 &&& Int32.toUInt32 31)).toInt32 : Int32) = nI (ex / 256) from us8 (by omega)]
      obtain ⟨n47, hn47⟩ : ∃ n : Nat, n = ex / 256 := ⟨_, rfl⟩
      rw [← hn47]
      refine lv_istore_n (lv' := [(0, .int (nI n47)), (1, .int 23)]) hx hb d_Integer_numberOfLeadingZeros_47 rfl hl (by decide) rfl (fun ls hl => ?_)
      refine lv_iload_n hx hb d_Integer_numberOfLeadingZeros_48 rfl (lv_at hl 0 rfl) ?_
      refine lv_bipush (v := 16) hx hb d_Integer_numberOfLeadingZeros_49 (by decide) ?_
      refine lv_icmp_lt (tgt := 61) hx hb d_Integer_numberOfLeadingZeros_51 (by decide) (fun c51 => ?_) (fun c51 => ?_)
      · have p51 : n47 < 16 := ((nI_ltI (a := n47) (b := 16) (by omega) (by omega)).mp c51)
        refine lv_iload_n hx hb d_Integer_numberOfLeadingZeros_61 rfl (lv_at hl 0 rfl) ?_
        refine lv_iconst (v := 4) hx hb d_Integer_numberOfLeadingZeros_62 (by decide) ?_
        refine lv_icmp_lt (tgt := 73) hx hb d_Integer_numberOfLeadingZeros_63 (by decide) (fun c63 => ?_) (fun c63 => ?_)
        · have p63 : n47 < 4 := ((nI_ltI (a := n47) (b := 4) (by omega) (by omega)).mp c63)
          refine lv_iload_n hx hb d_Integer_numberOfLeadingZeros_73 rfl (lv_at hl 1 rfl) ?_
          refine lv_iload_n hx hb d_Integer_numberOfLeadingZeros_74 rfl (lv_at hl 0 rfl) ?_
          refine lv_iconst (v := 1) hx hb d_Integer_numberOfLeadingZeros_75 (by decide) ?_
          refine lv_iushr (v := ((nI n47).toUInt32 >>> ((1 : Int32).toUInt32 &&& Int32.toUInt32 31)).toInt32) hx hb d_Integer_numberOfLeadingZeros_76 rfl ?_
          rw [show (((nI n47).toUInt32 >>> ((1 : Int32).toUInt32 &&& Int32.toUInt32 31)).toInt32 : Int32) = nI (n47 / 2) from us1 (by omega)]
          obtain ⟨n77, hn77⟩ : ∃ n : Nat, n = n47 / 2 := ⟨_, rfl⟩
          rw [← hn77]
          refine lv_isub hx hb d_Integer_numberOfLeadingZeros_77 ?_
          rw [show (23 - (nI n77) : Int32) = nI (23 - n77) from pk_sub (a := 23) (b := n77) (by omega)]
          exact W.iret (v := nI (23 - n77)) hx hb hr (fun t ht hW => ⟨_, rfl, (by have h9 := nl_end (e := ex) (s := 8) (n := 23) (v := n47) rfl (by show n47 = ex / 256; omega) (by omega) (by omega) (by omega); rw [← hn77] at h9; exact h9), ht⟩) (fun q h => by cases h) d_Integer_numberOfLeadingZeros_78
        · have p63 : ¬ (n47 < 4) := (fun q9 => c63 ((nI_ltI (a := n47) (b := 4) (by omega) (by omega)).mpr q9))
          refine lv_iinc (v := 21) (lv' := [(1, .int 21), (0, .int (nI n47))]) hx hb d_Integer_numberOfLeadingZeros_66 hl (k := 1) rfl (by decide) (by decide) rfl (fun ls hl => ?_)
          refine lv_iload_n hx hb d_Integer_numberOfLeadingZeros_69 rfl (lv_at hl 1 rfl) ?_
          refine lv_iconst (v := 2) hx hb d_Integer_numberOfLeadingZeros_70 (by decide) ?_
          refine lv_iushr (v := ((nI n47).toUInt32 >>> ((2 : Int32).toUInt32 &&& Int32.toUInt32 31)).toInt32) hx hb d_Integer_numberOfLeadingZeros_71 rfl ?_
          rw [show (((nI n47).toUInt32 >>> ((2 : Int32).toUInt32 &&& Int32.toUInt32 31)).toInt32 : Int32) = nI (n47 / 4) from us2 (by omega)]
          obtain ⟨n72, hn72⟩ : ∃ n : Nat, n = n47 / 4 := ⟨_, rfl⟩
          rw [← hn72]
          refine lv_istore_n (lv' := [(0, .int (nI n72)), (1, .int 21)]) hx hb d_Integer_numberOfLeadingZeros_72 rfl hl (by decide) rfl (fun ls hl => ?_)
          refine lv_iload_n hx hb d_Integer_numberOfLeadingZeros_73 rfl (lv_at hl 1 rfl) ?_
          refine lv_iload_n hx hb d_Integer_numberOfLeadingZeros_74 rfl (lv_at hl 0 rfl) ?_
          refine lv_iconst (v := 1) hx hb d_Integer_numberOfLeadingZeros_75 (by decide) ?_
          refine lv_iushr (v := ((nI n72).toUInt32 >>> ((1 : Int32).toUInt32 &&& Int32.toUInt32 31)).toInt32) hx hb d_Integer_numberOfLeadingZeros_76 rfl ?_
          rw [show (((nI n72).toUInt32 >>> ((1 : Int32).toUInt32 &&& Int32.toUInt32 31)).toInt32 : Int32) = nI (n72 / 2) from us1 (by omega)]
          obtain ⟨n77, hn77⟩ : ∃ n : Nat, n = n72 / 2 := ⟨_, rfl⟩
          rw [← hn77]
          refine lv_isub hx hb d_Integer_numberOfLeadingZeros_77 ?_
          rw [show (21 - (nI n77) : Int32) = nI (21 - n77) from pk_sub (a := 21) (b := n77) (by omega)]
          exact W.iret (v := nI (21 - n77)) hx hb hr (fun t ht hW => ⟨_, rfl, (by have h9 := nl_end (e := ex) (s := 10) (n := 21) (v := n72) rfl (by show n72 = ex / 1024; omega) (by omega) (by omega) (by omega); rw [← hn77] at h9; exact h9), ht⟩) (fun q h => by cases h) d_Integer_numberOfLeadingZeros_78
      · have p51 : ¬ (n47 < 16) := (fun q9 => c51 ((nI_ltI (a := n47) (b := 16) (by omega) (by omega)).mpr q9))
        refine lv_iinc (v := 19) (lv' := [(1, .int 19), (0, .int (nI n47))]) hx hb d_Integer_numberOfLeadingZeros_54 hl (k := 1) rfl (by decide) (by decide) rfl (fun ls hl => ?_)
        refine lv_iload_n hx hb d_Integer_numberOfLeadingZeros_57 rfl (lv_at hl 1 rfl) ?_
        refine lv_iconst (v := 4) hx hb d_Integer_numberOfLeadingZeros_58 (by decide) ?_
        refine lv_iushr (v := ((nI n47).toUInt32 >>> ((4 : Int32).toUInt32 &&& Int32.toUInt32 31)).toInt32) hx hb d_Integer_numberOfLeadingZeros_59 rfl ?_
        rw [show (((nI n47).toUInt32 >>> ((4 : Int32).toUInt32 &&& Int32.toUInt32 31)).toInt32 : Int32) = nI (n47 / 16) from us4 (by omega)]
        obtain ⟨n60, hn60⟩ : ∃ n : Nat, n = n47 / 16 := ⟨_, rfl⟩
        rw [← hn60]
        refine lv_istore_n (lv' := [(0, .int (nI n60)), (1, .int 19)]) hx hb d_Integer_numberOfLeadingZeros_60 rfl hl (by decide) rfl (fun ls hl => ?_)
        refine lv_iload_n hx hb d_Integer_numberOfLeadingZeros_61 rfl (lv_at hl 0 rfl) ?_
        refine lv_iconst (v := 4) hx hb d_Integer_numberOfLeadingZeros_62 (by decide) ?_
        refine lv_icmp_lt (tgt := 73) hx hb d_Integer_numberOfLeadingZeros_63 (by decide) (fun c63 => ?_) (fun c63 => ?_)
        · have p63 : n60 < 4 := ((nI_ltI (a := n60) (b := 4) (by omega) (by omega)).mp c63)
          refine lv_iload_n hx hb d_Integer_numberOfLeadingZeros_73 rfl (lv_at hl 1 rfl) ?_
          refine lv_iload_n hx hb d_Integer_numberOfLeadingZeros_74 rfl (lv_at hl 0 rfl) ?_
          refine lv_iconst (v := 1) hx hb d_Integer_numberOfLeadingZeros_75 (by decide) ?_
          refine lv_iushr (v := ((nI n60).toUInt32 >>> ((1 : Int32).toUInt32 &&& Int32.toUInt32 31)).toInt32) hx hb d_Integer_numberOfLeadingZeros_76 rfl ?_
          rw [show (((nI n60).toUInt32 >>> ((1 : Int32).toUInt32 &&& Int32.toUInt32 31)).toInt32 : Int32) = nI (n60 / 2) from us1 (by omega)]
          obtain ⟨n77, hn77⟩ : ∃ n : Nat, n = n60 / 2 := ⟨_, rfl⟩
          rw [← hn77]
          refine lv_isub hx hb d_Integer_numberOfLeadingZeros_77 ?_
          rw [show (19 - (nI n77) : Int32) = nI (19 - n77) from pk_sub (a := 19) (b := n77) (by omega)]
          exact W.iret (v := nI (19 - n77)) hx hb hr (fun t ht hW => ⟨_, rfl, (by have h9 := nl_end (e := ex) (s := 12) (n := 19) (v := n60) rfl (by show n60 = ex / 4096; omega) (by omega) (by omega) (by omega); rw [← hn77] at h9; exact h9), ht⟩) (fun q h => by cases h) d_Integer_numberOfLeadingZeros_78
        · have p63 : ¬ (n60 < 4) := (fun q9 => c63 ((nI_ltI (a := n60) (b := 4) (by omega) (by omega)).mpr q9))
          refine lv_iinc (v := 17) (lv' := [(1, .int 17), (0, .int (nI n60))]) hx hb d_Integer_numberOfLeadingZeros_66 hl (k := 1) rfl (by decide) (by decide) rfl (fun ls hl => ?_)
          refine lv_iload_n hx hb d_Integer_numberOfLeadingZeros_69 rfl (lv_at hl 1 rfl) ?_
          refine lv_iconst (v := 2) hx hb d_Integer_numberOfLeadingZeros_70 (by decide) ?_
          refine lv_iushr (v := ((nI n60).toUInt32 >>> ((2 : Int32).toUInt32 &&& Int32.toUInt32 31)).toInt32) hx hb d_Integer_numberOfLeadingZeros_71 rfl ?_
          rw [show (((nI n60).toUInt32 >>> ((2 : Int32).toUInt32 &&& Int32.toUInt32 31)).toInt32 : Int32) = nI (n60 / 4) from us2 (by omega)]
          obtain ⟨n72, hn72⟩ : ∃ n : Nat, n = n60 / 4 := ⟨_, rfl⟩
          rw [← hn72]
          refine lv_istore_n (lv' := [(0, .int (nI n72)), (1, .int 17)]) hx hb d_Integer_numberOfLeadingZeros_72 rfl hl (by decide) rfl (fun ls hl => ?_)
          refine lv_iload_n hx hb d_Integer_numberOfLeadingZeros_73 rfl (lv_at hl 1 rfl) ?_
          refine lv_iload_n hx hb d_Integer_numberOfLeadingZeros_74 rfl (lv_at hl 0 rfl) ?_
          refine lv_iconst (v := 1) hx hb d_Integer_numberOfLeadingZeros_75 (by decide) ?_
          refine lv_iushr (v := ((nI n72).toUInt32 >>> ((1 : Int32).toUInt32 &&& Int32.toUInt32 31)).toInt32) hx hb d_Integer_numberOfLeadingZeros_76 rfl ?_
          rw [show (((nI n72).toUInt32 >>> ((1 : Int32).toUInt32 &&& Int32.toUInt32 31)).toInt32 : Int32) = nI (n72 / 2) from us1 (by omega)]
          obtain ⟨n77, hn77⟩ : ∃ n : Nat, n = n72 / 2 := ⟨_, rfl⟩
          rw [← hn77]
          refine lv_isub hx hb d_Integer_numberOfLeadingZeros_77 ?_
          rw [show (17 - (nI n77) : Int32) = nI (17 - n77) from pk_sub (a := 17) (b := n77) (by omega)]
          exact W.iret (v := nI (17 - n77)) hx hb hr (fun t ht hW => ⟨_, rfl, (by have h9 := nl_end (e := ex) (s := 14) (n := 17) (v := n72) rfl (by show n72 = ex / 16384; omega) (by omega) (by omega) (by omega); rw [← hn77] at h9; exact h9), ht⟩) (fun q h => by cases h) d_Integer_numberOfLeadingZeros_78
  · have p22 : ¬ (ex < 65536) := (fun q9 => c22 ((nI_ltI (a := ex) (b := 65536) (by omega) (by omega)).mpr q9))
    refine lv_iinc (v := 15) (lv' := [(1, .int 15), (0, .int (nI ex))]) hx hb d_Integer_numberOfLeadingZeros_25 hl (k := 0) rfl (by decide) (by decide) rfl (fun ls hl => ?_)
    refine lv_iload_n hx hb d_Integer_numberOfLeadingZeros_28 rfl (lv_at hl 1 rfl) ?_
    refine lv_bipush (v := 16) hx hb d_Integer_numberOfLeadingZeros_29 (by decide) ?_
    refine lv_iushr (v := ((nI ex).toUInt32 >>> ((16 : Int32).toUInt32 &&& Int32.toUInt32 31)).toInt32) hx hb d_Integer_numberOfLeadingZeros_31 rfl ?_
    rw [show (((nI ex).toUInt32 >>> ((16 : Int32).toUInt32 &&& Int32.toUInt32 31)).toInt32 : Int32) = nI (ex / 65536) from us16 (by omega)]
    obtain ⟨n32, hn32⟩ : ∃ n : Nat, n = ex / 65536 := ⟨_, rfl⟩
    rw [← hn32]
    refine lv_istore_n (lv' := [(0, .int (nI n32)), (1, .int 15)]) hx hb d_Integer_numberOfLeadingZeros_32 rfl hl (by decide) rfl (fun ls hl => ?_)
    refine lv_iload_n hx hb d_Integer_numberOfLeadingZeros_33 rfl (lv_at hl 0 rfl) ?_
    refine lv_sipush (v := 256) hx hb d_Integer_numberOfLeadingZeros_34 (by decide) ?_
    refine lv_icmp_lt (tgt := 48) hx hb d_Integer_numberOfLeadingZeros_37 (by decide) (fun c37 => ?_) (fun c37 => ?_)
    · have p37 : n32 < 256 := ((nI_ltI (a := n32) (b := 256) (by omega) (by omega)).mp c37)
      refine lv_iload_n hx hb d_Integer_numberOfLeadingZeros_48 rfl (lv_at hl 0 rfl) ?_
      refine lv_bipush (v := 16) hx hb d_Integer_numberOfLeadingZeros_49 (by decide) ?_
      refine lv_icmp_lt (tgt := 61) hx hb d_Integer_numberOfLeadingZeros_51 (by decide) (fun c51 => ?_) (fun c51 => ?_)
      · have p51 : n32 < 16 := ((nI_ltI (a := n32) (b := 16) (by omega) (by omega)).mp c51)
        refine lv_iload_n hx hb d_Integer_numberOfLeadingZeros_61 rfl (lv_at hl 0 rfl) ?_
        refine lv_iconst (v := 4) hx hb d_Integer_numberOfLeadingZeros_62 (by decide) ?_
        refine lv_icmp_lt (tgt := 73) hx hb d_Integer_numberOfLeadingZeros_63 (by decide) (fun c63 => ?_) (fun c63 => ?_)
        · have p63 : n32 < 4 := ((nI_ltI (a := n32) (b := 4) (by omega) (by omega)).mp c63)
          refine lv_iload_n hx hb d_Integer_numberOfLeadingZeros_73 rfl (lv_at hl 1 rfl) ?_
          refine lv_iload_n hx hb d_Integer_numberOfLeadingZeros_74 rfl (lv_at hl 0 rfl) ?_
          refine lv_iconst (v := 1) hx hb d_Integer_numberOfLeadingZeros_75 (by decide) ?_
          refine lv_iushr (v := ((nI n32).toUInt32 >>> ((1 : Int32).toUInt32 &&& Int32.toUInt32 31)).toInt32) hx hb d_Integer_numberOfLeadingZeros_76 rfl ?_
          rw [show (((nI n32).toUInt32 >>> ((1 : Int32).toUInt32 &&& Int32.toUInt32 31)).toInt32 : Int32) = nI (n32 / 2) from us1 (by omega)]
          obtain ⟨n77, hn77⟩ : ∃ n : Nat, n = n32 / 2 := ⟨_, rfl⟩
          rw [← hn77]
          refine lv_isub hx hb d_Integer_numberOfLeadingZeros_77 ?_
          rw [show (15 - (nI n77) : Int32) = nI (15 - n77) from pk_sub (a := 15) (b := n77) (by omega)]
          exact W.iret (v := nI (15 - n77)) hx hb hr (fun t ht hW => ⟨_, rfl, (by have h9 := nl_end (e := ex) (s := 16) (n := 15) (v := n32) rfl (by show n32 = ex / 65536; omega) (by omega) (by omega) (by omega); rw [← hn77] at h9; exact h9), ht⟩) (fun q h => by cases h) d_Integer_numberOfLeadingZeros_78
        · have p63 : ¬ (n32 < 4) := (fun q9 => c63 ((nI_ltI (a := n32) (b := 4) (by omega) (by omega)).mpr q9))
          refine lv_iinc (v := 13) (lv' := [(1, .int 13), (0, .int (nI n32))]) hx hb d_Integer_numberOfLeadingZeros_66 hl (k := 1) rfl (by decide) (by decide) rfl (fun ls hl => ?_)
          refine lv_iload_n hx hb d_Integer_numberOfLeadingZeros_69 rfl (lv_at hl 1 rfl) ?_
          refine lv_iconst (v := 2) hx hb d_Integer_numberOfLeadingZeros_70 (by decide) ?_
          refine lv_iushr (v := ((nI n32).toUInt32 >>> ((2 : Int32).toUInt32 &&& Int32.toUInt32 31)).toInt32) hx hb d_Integer_numberOfLeadingZeros_71 rfl ?_
          rw [show (((nI n32).toUInt32 >>> ((2 : Int32).toUInt32 &&& Int32.toUInt32 31)).toInt32 : Int32) = nI (n32 / 4) from us2 (by omega)]
          obtain ⟨n72, hn72⟩ : ∃ n : Nat, n = n32 / 4 := ⟨_, rfl⟩
          rw [← hn72]
          refine lv_istore_n (lv' := [(0, .int (nI n72)), (1, .int 13)]) hx hb d_Integer_numberOfLeadingZeros_72 rfl hl (by decide) rfl (fun ls hl => ?_)
          refine lv_iload_n hx hb d_Integer_numberOfLeadingZeros_73 rfl (lv_at hl 1 rfl) ?_
          refine lv_iload_n hx hb d_Integer_numberOfLeadingZeros_74 rfl (lv_at hl 0 rfl) ?_
          refine lv_iconst (v := 1) hx hb d_Integer_numberOfLeadingZeros_75 (by decide) ?_
          refine lv_iushr (v := ((nI n72).toUInt32 >>> ((1 : Int32).toUInt32 &&& Int32.toUInt32 31)).toInt32) hx hb d_Integer_numberOfLeadingZeros_76 rfl ?_
          rw [show (((nI n72).toUInt32 >>> ((1 : Int32).toUInt32 &&& Int32.toUInt32 31)).toInt32 : Int32) = nI (n72 / 2) from us1 (by omega)]
          obtain ⟨n77, hn77⟩ : ∃ n : Nat, n = n72 / 2 := ⟨_, rfl⟩
          rw [← hn77]
          refine lv_isub hx hb d_Integer_numberOfLeadingZeros_77 ?_
          rw [show (13 - (nI n77) : Int32) = nI (13 - n77) from pk_sub (a := 13) (b := n77) (by omega)]
          exact W.iret (v := nI (13 - n77)) hx hb hr (fun t ht hW => ⟨_, rfl, (by have h9 := nl_end (e := ex) (s := 18) (n := 13) (v := n72) rfl (by show n72 = ex / 262144; omega) (by omega) (by omega) (by omega); rw [← hn77] at h9; exact h9), ht⟩) (fun q h => by cases h) d_Integer_numberOfLeadingZeros_78
      · have p51 : ¬ (n32 < 16) := (fun q9 => c51 ((nI_ltI (a := n32) (b := 16) (by omega) (by omega)).mpr q9))
        refine lv_iinc (v := 11) (lv' := [(1, .int 11), (0, .int (nI n32))]) hx hb d_Integer_numberOfLeadingZeros_54 hl (k := 1) rfl (by decide) (by decide) rfl (fun ls hl => ?_)
        refine lv_iload_n hx hb d_Integer_numberOfLeadingZeros_57 rfl (lv_at hl 1 rfl) ?_
        refine lv_iconst (v := 4) hx hb d_Integer_numberOfLeadingZeros_58 (by decide) ?_
        refine lv_iushr (v := ((nI n32).toUInt32 >>> ((4 : Int32).toUInt32 &&& Int32.toUInt32 31)).toInt32) hx hb d_Integer_numberOfLeadingZeros_59 rfl ?_
        rw [show (((nI n32).toUInt32 >>> ((4 : Int32).toUInt32 &&& Int32.toUInt32 31)).toInt32 : Int32) = nI (n32 / 16) from us4 (by omega)]
        obtain ⟨n60, hn60⟩ : ∃ n : Nat, n = n32 / 16 := ⟨_, rfl⟩
        rw [← hn60]
        refine lv_istore_n (lv' := [(0, .int (nI n60)), (1, .int 11)]) hx hb d_Integer_numberOfLeadingZeros_60 rfl hl (by decide) rfl (fun ls hl => ?_)
        refine lv_iload_n hx hb d_Integer_numberOfLeadingZeros_61 rfl (lv_at hl 0 rfl) ?_
        refine lv_iconst (v := 4) hx hb d_Integer_numberOfLeadingZeros_62 (by decide) ?_
        refine lv_icmp_lt (tgt := 73) hx hb d_Integer_numberOfLeadingZeros_63 (by decide) (fun c63 => ?_) (fun c63 => ?_)
        · have p63 : n60 < 4 := ((nI_ltI (a := n60) (b := 4) (by omega) (by omega)).mp c63)
          refine lv_iload_n hx hb d_Integer_numberOfLeadingZeros_73 rfl (lv_at hl 1 rfl) ?_
          refine lv_iload_n hx hb d_Integer_numberOfLeadingZeros_74 rfl (lv_at hl 0 rfl) ?_
          refine lv_iconst (v := 1) hx hb d_Integer_numberOfLeadingZeros_75 (by decide) ?_
          refine lv_iushr (v := ((nI n60).toUInt32 >>> ((1 : Int32).toUInt32 &&& Int32.toUInt32 31)).toInt32) hx hb d_Integer_numberOfLeadingZeros_76 rfl ?_
          rw [show (((nI n60).toUInt32 >>> ((1 : Int32).toUInt32 &&& Int32.toUInt32 31)).toInt32 : Int32) = nI (n60 / 2) from us1 (by omega)]
          obtain ⟨n77, hn77⟩ : ∃ n : Nat, n = n60 / 2 := ⟨_, rfl⟩
          rw [← hn77]
          refine lv_isub hx hb d_Integer_numberOfLeadingZeros_77 ?_
          rw [show (11 - (nI n77) : Int32) = nI (11 - n77) from pk_sub (a := 11) (b := n77) (by omega)]
          exact W.iret (v := nI (11 - n77)) hx hb hr (fun t ht hW => ⟨_, rfl, (by have h9 := nl_end (e := ex) (s := 20) (n := 11) (v := n60) rfl (by show n60 = ex / 1048576; omega) (by omega) (by omega) (by omega); rw [← hn77] at h9; exact h9), ht⟩) (fun q h => by cases h) d_Integer_numberOfLeadingZeros_78
        · have p63 : ¬ (n60 < 4) := (fun q9 => c63 ((nI_ltI (a := n60) (b := 4) (by omega) (by omega)).mpr q9))
          refine lv_iinc (v := 9) (lv' := [(1, .int 9), (0, .int (nI n60))]) hx hb d_Integer_numberOfLeadingZeros_66 hl (k := 1) rfl (by decide) (by decide) rfl (fun ls hl => ?_)
          refine lv_iload_n hx hb d_Integer_numberOfLeadingZeros_69 rfl (lv_at hl 1 rfl) ?_
          refine lv_iconst (v := 2) hx hb d_Integer_numberOfLeadingZeros_70 (by decide) ?_
          refine lv_iushr (v := ((nI n60).toUInt32 >>> ((2 : Int32).toUInt32 &&& Int32.toUInt32 31)).toInt32) hx hb d_Integer_numberOfLeadingZeros_71 rfl ?_
          rw [show (((nI n60).toUInt32 >>> ((2 : Int32).toUInt32 &&& Int32.toUInt32 31)).toInt32 : Int32) = nI (n60 / 4) from us2 (by omega)]
          obtain ⟨n72, hn72⟩ : ∃ n : Nat, n = n60 / 4 := ⟨_, rfl⟩
          rw [← hn72]
          refine lv_istore_n (lv' := [(0, .int (nI n72)), (1, .int 9)]) hx hb d_Integer_numberOfLeadingZeros_72 rfl hl (by decide) rfl (fun ls hl => ?_)
          refine lv_iload_n hx hb d_Integer_numberOfLeadingZeros_73 rfl (lv_at hl 1 rfl) ?_
          refine lv_iload_n hx hb d_Integer_numberOfLeadingZeros_74 rfl (lv_at hl 0 rfl) ?_
          refine lv_iconst (v := 1) hx hb d_Integer_numberOfLeadingZeros_75 (by decide) ?_
          refine lv_iushr (v := ((nI n72).toUInt32 >>> ((1 : Int32).toUInt32 &&& Int32.toUInt32 31)).toInt32) hx hb d_Integer_numberOfLeadingZeros_76 rfl ?_
          rw [show (((nI n72).toUInt32 >>> ((1 : Int32).toUInt32 &&& Int32.toUInt32 31)).toInt32 : Int32) = nI (n72 / 2) from us1 (by omega)]
          obtain ⟨n77, hn77⟩ : ∃ n : Nat, n = n72 / 2 := ⟨_, rfl⟩
          rw [← hn77]
          refine lv_isub hx hb d_Integer_numberOfLeadingZeros_77 ?_
          rw [show (9 - (nI n77) : Int32) = nI (9 - n77) from pk_sub (a := 9) (b := n77) (by omega)]
          exact W.iret (v := nI (9 - n77)) hx hb hr (fun t ht hW => ⟨_, rfl, (by have h9 := nl_end (e := ex) (s := 22) (n := 9) (v := n72) rfl (by show n72 = ex / 4194304; omega) (by omega) (by omega) (by omega); rw [← hn77] at h9; exact h9), ht⟩) (fun q h => by cases h) d_Integer_numberOfLeadingZeros_78
    · have p37 : ¬ (n32 < 256) := (fun q9 => c37 ((nI_ltI (a := n32) (b := 256) (by omega) (by omega)).mpr q9))
      refine lv_iinc (v := 7) (lv' := [(1, .int 7), (0, .int (nI n32))]) hx hb d_Integer_numberOfLeadingZeros_40 hl (k := 1) rfl (by decide) (by decide) rfl (fun ls hl => ?_)
      refine lv_iload_n hx hb d_Integer_numberOfLeadingZeros_43 rfl (lv_at hl 1 rfl) ?_
      refine lv_bipush (v := 8) hx hb d_Integer_numberOfLeadingZeros_44 (by decide) ?_
      refine lv_iushr (v := ((nI n32).toUInt32 >>> ((8 : Int32).toUInt32 &&& Int32.toUInt32 31)).toInt32) hx hb d_Integer_numberOfLeadingZeros_46 rfl ?_
      rw [show (((nI n32).toUInt32 >>> ((8 : Int32).toUInt32 &&& Int32.toUInt32 31)).toInt32 : Int32) = nI (n32 / 256) from us8 (by omega)]
      obtain ⟨n47, hn47⟩ : ∃ n : Nat, n = n32 / 256 := ⟨_, rfl⟩
      rw [← hn47]
      refine lv_istore_n (lv' := [(0, .int (nI n47)), (1, .int 7)]) hx hb d_Integer_numberOfLeadingZeros_47 rfl hl (by decide) rfl (fun ls hl => ?_)
      refine lv_iload_n hx hb d_Integer_numberOfLeadingZeros_48 rfl (lv_at hl 0 rfl) ?_
      refine lv_bipush (v := 16) hx hb d_Integer_numberOfLeadingZeros_49 (by decide) ?_
      refine lv_icmp_lt (tgt := 61) hx hb d_Integer_numberOfLeadingZeros_51 (by decide) (fun c51 => ?_) (fun c51 => ?_)
      · have p51 : n47 < 16 := ((nI_ltI (a := n47) (b := 16) (by omega) (by omega)).mp c51)
        refine lv_iload_n hx hb d_Integer_numberOfLeadingZeros_61 rfl (lv_at hl 0 rfl) ?_
        refine lv_iconst (v := 4) hx hb d_Integer_numberOfLeadingZeros_62 (by decide) ?_
        refine lv_icmp_lt (tgt := 73) hx hb d_Integer_numberOfLeadingZeros_63 (by decide) (fun c63 => ?_) (fun c63 => ?_)
        · have p63 : n47 < 4 := ((nI_ltI (a := n47) (b := 4) (by omega) (by omega)).mp c63)
          refine lv_iload_n hx hb d_Integer_numberOfLeadingZeros_73 rfl (lv_at hl 1 rfl) ?_
          refine lv_iload_n hx hb d_Integer_numberOfLeadingZeros_74 rfl (lv_at hl 0 rfl) ?_
          refine lv_iconst (v := 1) hx hb d_Integer_numberOfLeadingZeros_75 (by decide) ?_
          refine lv_iushr (v := ((nI n47).toUInt32 >>> ((1 : Int32).toUInt32 &&& Int32.toUInt32 31)).toInt32) hx hb d_Integer_numberOfLeadingZeros_76 rfl ?_
          rw [show (((nI n47).toUInt32 >>> ((1 : Int32).toUInt32 &&& Int32.toUInt32 31)).toInt32 : Int32) = nI (n47 / 2) from us1 (by omega)]
          obtain ⟨n77, hn77⟩ : ∃ n : Nat, n = n47 / 2 := ⟨_, rfl⟩
          rw [← hn77]
          refine lv_isub hx hb d_Integer_numberOfLeadingZeros_77 ?_
          rw [show (7 - (nI n77) : Int32) = nI (7 - n77) from pk_sub (a := 7) (b := n77) (by omega)]
          exact W.iret (v := nI (7 - n77)) hx hb hr (fun t ht hW => ⟨_, rfl, (by have h9 := nl_end (e := ex) (s := 24) (n := 7) (v := n47) rfl (by show n47 = ex / 16777216; omega) (by omega) (by omega) (by omega); rw [← hn77] at h9; exact h9), ht⟩) (fun q h => by cases h) d_Integer_numberOfLeadingZeros_78
        · have p63 : ¬ (n47 < 4) := (fun q9 => c63 ((nI_ltI (a := n47) (b := 4) (by omega) (by omega)).mpr q9))
          refine lv_iinc (v := 5) (lv' := [(1, .int 5), (0, .int (nI n47))]) hx hb d_Integer_numberOfLeadingZeros_66 hl (k := 1) rfl (by decide) (by decide) rfl (fun ls hl => ?_)
          refine lv_iload_n hx hb d_Integer_numberOfLeadingZeros_69 rfl (lv_at hl 1 rfl) ?_
          refine lv_iconst (v := 2) hx hb d_Integer_numberOfLeadingZeros_70 (by decide) ?_
          refine lv_iushr (v := ((nI n47).toUInt32 >>> ((2 : Int32).toUInt32 &&& Int32.toUInt32 31)).toInt32) hx hb d_Integer_numberOfLeadingZeros_71 rfl ?_
          rw [show (((nI n47).toUInt32 >>> ((2 : Int32).toUInt32 &&& Int32.toUInt32 31)).toInt32 : Int32) = nI (n47 / 4) from us2 (by omega)]
          obtain ⟨n72, hn72⟩ : ∃ n : Nat, n = n47 / 4 := ⟨_, rfl⟩
          rw [← hn72]
          refine lv_istore_n (lv' := [(0, .int (nI n72)), (1, .int 5)]) hx hb d_Integer_numberOfLeadingZeros_72 rfl hl (by decide) rfl (fun ls hl => ?_)
          refine lv_iload_n hx hb d_Integer_numberOfLeadingZeros_73 rfl (lv_at hl 1 rfl) ?_
          refine lv_iload_n hx hb d_Integer_numberOfLeadingZeros_74 rfl (lv_at hl 0 rfl) ?_
          refine lv_iconst (v := 1) hx hb d_Integer_numberOfLeadingZeros_75 (by decide) ?_
          refine lv_iushr (v := ((nI n72).toUInt32 >>> ((1 : Int32).toUInt32 &&& Int32.toUInt32 31)).toInt32) hx hb d_Integer_numberOfLeadingZeros_76 rfl ?_
          rw [show (((nI n72).toUInt32 >>> ((1 : Int32).toUInt32 &&& Int32.toUInt32 31)).toInt32 : Int32) = nI (n72 / 2) from us1 (by omega)]
          obtain ⟨n77, hn77⟩ : ∃ n : Nat, n = n72 / 2 := ⟨_, rfl⟩
          rw [← hn77]
          refine lv_isub hx hb d_Integer_numberOfLeadingZeros_77 ?_
          rw [show (5 - (nI n77) : Int32) = nI (5 - n77) from pk_sub (a := 5) (b := n77) (by omega)]
          exact W.iret (v := nI (5 - n77)) hx hb hr (fun t ht hW => ⟨_, rfl, (by have h9 := nl_end (e := ex) (s := 26) (n := 5) (v := n72) rfl (by show n72 = ex / 67108864; omega) (by omega) (by omega) (by omega); rw [← hn77] at h9; exact h9), ht⟩) (fun q h => by cases h) d_Integer_numberOfLeadingZeros_78
      · have p51 : ¬ (n47 < 16) := (fun q9 => c51 ((nI_ltI (a := n47) (b := 16) (by omega) (by omega)).mpr q9))
        refine lv_iinc (v := 3) (lv' := [(1, .int 3), (0, .int (nI n47))]) hx hb d_Integer_numberOfLeadingZeros_54 hl (k := 1) rfl (by decide) (by decide) rfl (fun ls hl => ?_)
        refine lv_iload_n hx hb d_Integer_numberOfLeadingZeros_57 rfl (lv_at hl 1 rfl) ?_
        refine lv_iconst (v := 4) hx hb d_Integer_numberOfLeadingZeros_58 (by decide) ?_
        refine lv_iushr (v := ((nI n47).toUInt32 >>> ((4 : Int32).toUInt32 &&& Int32.toUInt32 31)).toInt32) hx hb d_Integer_numberOfLeadingZeros_59 rfl ?_
        rw [show (((nI n47).toUInt32 >>> ((4 : Int32).toUInt32 &&& Int32.toUInt32 31)).toInt32 : Int32) = nI (n47 / 16) from us4 (by omega)]
        obtain ⟨n60, hn60⟩ : ∃ n : Nat, n = n47 / 16 := ⟨_, rfl⟩
        rw [← hn60]
        refine lv_istore_n (lv' := [(0, .int (nI n60)), (1, .int 3)]) hx hb d_Integer_numberOfLeadingZeros_60 rfl hl (by decide) rfl (fun ls hl => ?_)
        refine lv_iload_n hx hb d_Integer_numberOfLeadingZeros_61 rfl (lv_at hl 0 rfl) ?_
        refine lv_iconst (v := 4) hx hb d_Integer_numberOfLeadingZeros_62 (by decide) ?_
        refine lv_icmp_lt (tgt := 73) hx hb d_Integer_numberOfLeadingZeros_63 (by decide) (fun c63 => ?_) (fun c63 => ?_)
        · have p63 : n60 < 4 := ((nI_ltI (a := n60) (b := 4) (by omega) (by omega)).mp c63)
          refine lv_iload_n hx hb d_Integer_numberOfLeadingZeros_73 rfl (lv_at hl 1 rfl) ?_
          refine lv_iload_n hx hb d_Integer_numberOfLeadingZeros_74 rfl (lv_at hl 0 rfl) ?_
          refine lv_iconst (v := 1) hx hb d_Integer_numberOfLeadingZeros_75 (by decide) ?_
          refine lv_iushr (v := ((nI n60).toUInt32 >>> ((1 : Int32).toUInt32 &&& Int32.toUInt32 31)).toInt32) hx hb d_Integer_numberOfLeadingZeros_76 rfl ?_
          rw [show (((nI n60).toUInt32 >>> ((1 : Int32).toUInt32 &&& Int32.toUInt32 31)).toInt32 : Int32) = nI (n60 / 2) from us1 (by omega)]
          obtain ⟨n77, hn77⟩ : ∃ n : Nat, n = n60 / 2 := ⟨_, rfl⟩
          rw [← hn77]
          refine lv_isub hx hb d_Integer_numberOfLeadingZeros_77 ?_
          rw [show (3 - (nI n77) : Int32) = nI (3 - n77) from pk_sub (a := 3) (b := n77) (by omega)]
          exact W.iret (v := nI (3 - n77)) hx hb hr (fun t ht hW => ⟨_, rfl, (by have h9 := nl_end (e := ex) (s := 28) (n := 3) (v := n60) rfl (by show n60 = ex / 268435456; omega) (by omega) (by omega) (by omega); rw [← hn77] at h9; exact h9), ht⟩) (fun q h => by cases h) d_Integer_numberOfLeadingZeros_78
        · have p63 : ¬ (n60 < 4) := (fun q9 => c63 ((nI_ltI (a := n60) (b := 4) (by omega) (by omega)).mpr q9))
          refine lv_iinc (v := 1) (lv' := [(1, .int 1), (0, .int (nI n60))]) hx hb d_Integer_numberOfLeadingZeros_66 hl (k := 1) rfl (by decide) (by decide) rfl (fun ls hl => ?_)
          refine lv_iload_n hx hb d_Integer_numberOfLeadingZeros_69 rfl (lv_at hl 1 rfl) ?_
          refine lv_iconst (v := 2) hx hb d_Integer_numberOfLeadingZeros_70 (by decide) ?_
          refine lv_iushr (v := ((nI n60).toUInt32 >>> ((2 : Int32).toUInt32 &&& Int32.toUInt32 31)).toInt32) hx hb d_Integer_numberOfLeadingZeros_71 rfl ?_
          rw [show (((nI n60).toUInt32 >>> ((2 : Int32).toUInt32 &&& Int32.toUInt32 31)).toInt32 : Int32) = nI (n60 / 4) from us2 (by omega)]
          obtain ⟨n72, hn72⟩ : ∃ n : Nat, n = n60 / 4 := ⟨_, rfl⟩
          rw [← hn72]
          refine lv_istore_n (lv' := [(0, .int (nI n72)), (1, .int 1)]) hx hb d_Integer_numberOfLeadingZeros_72 rfl hl (by decide) rfl (fun ls hl => ?_)
          refine lv_iload_n hx hb d_Integer_numberOfLeadingZeros_73 rfl (lv_at hl 1 rfl) ?_
          refine lv_iload_n hx hb d_Integer_numberOfLeadingZeros_74 rfl (lv_at hl 0 rfl) ?_
          refine lv_iconst (v := 1) hx hb d_Integer_numberOfLeadingZeros_75 (by decide) ?_
          refine lv_iushr (v := ((nI n72).toUInt32 >>> ((1 : Int32).toUInt32 &&& Int32.toUInt32 31)).toInt32) hx hb d_Integer_numberOfLeadingZeros_76 rfl ?_
          rw [show (((nI n72).toUInt32 >>> ((1 : Int32).toUInt32 &&& Int32.toUInt32 31)).toInt32 : Int32) = nI (n72 / 2) from us1 (by omega)]
          obtain ⟨n77, hn77⟩ : ∃ n : Nat, n = n72 / 2 := ⟨_, rfl⟩
          rw [← hn77]
          refine lv_isub hx hb d_Integer_numberOfLeadingZeros_77 ?_
          rw [show (1 - (nI n77) : Int32) = nI (1 - n77) from pk_sub (a := 1) (b := n77) (by omega)]
          exact W.iret (v := nI (1 - n77)) hx hb hr (fun t ht hW => ⟨_, rfl, (by have h9 := nl_end (e := ex) (s := 30) (n := 1) (v := n72) rfl (by show n72 = ex / 1073741824; omega) (by omega) (by omega) (by omega); rw [← hn77] at h9; exact h9), ht⟩) (fun q h => by cases h) d_Integer_numberOfLeadingZeros_78
