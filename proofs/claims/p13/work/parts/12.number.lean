/-! Reader.number, serial, issuerKey. -/
noncomputable def zP (P : Prop) : Int32 := @ite _ P (Classical.propDecidable P) 1 0
theorem bz_zP {r : Int32} {P : Prop} (h : bz r P) : r = zP P := by
  rcases h with ⟨h1, h2⟩ | ⟨h1, h2⟩
  · rw [h1, zP, if_pos h2]
  · rw [h1, zP, if_neg h2]
theorem zP_0 {P : Prop} : zP P = 0 ↔ ¬ P := by
  unfold zP
  by_cases h : P
  · rw [if_pos h]; exact ⟨fun q => absurd q (by decide), fun q => absurd h q⟩
  · rw [if_neg h]; exact ⟨fun _ => h, fun _ => rfl⟩
noncomputable def rd_nm (u : Nat → Nat) (n : Nat) (x : rS) (tg en : Nat) : rS × Nat × Nat :=
  let o := rd_opn u n x tg en
  (rd_lea o.1 o.2 (zP (numOK u n o.1.1 o.2)), o.1.1, o.2)
def serOK (u : Nat → Nat) (a b : Nat) : Prop := (¬ 128 ≤ sl_at u a b 0 ∧ (0 < sl_at u a b 0 ∨ 1 < b - a)) ∧ b - a ≤ 20
noncomputable def rd_ser (u : Nat → Nat) (n : Nat) (x : rS) (en : Nat) : rS × Nat × Nat :=
  let o := rd_nm u n x 2 en
  (rd_req o.1 (zP (serOK u o.2.1 o.2.2)), o.2)
def rd_iky (u : Nat → Nat) (n : Nat) (x : rS) (en : Nat) : rS × Nat × Nat :=
  let o := rd_opn u n x 48 en
  let z := rd_plain u n o.1 128 1 o.2
  (rd_fin z.1 o.2, z.2)
section INV2
variable {u : Nat → Nat} {n tg le en : Nat} {x : rS}
theorem nm_inv (h : rdInv n x) (he : en ≤ n) : rdInv n (rd_nm u n x tg en).1 ∧ (rd_nm u n x tg en).2.1 ≤ (rd_nm u n x tg en).2.2 ∧ (rd_nm u n x tg en).2.2 ≤ n := by
  have hq := opn_inv (u := u) (tg := tg) h he
  exact ⟨lea_inv hq.1 hq.2.2.1, hq.2.1, hq.2.2.1⟩
theorem plain_inv (h : rdInv n x) (he : en ≤ n) : rdInv n (rd_plain u n x tg le en).1 ∧ (rd_plain u n x tg le en).2.1 ≤ (rd_plain u n x tg le en).2.2 ∧ (rd_plain u n x tg le en).2.2 ≤ n := by
  have hq := opn_inv (u := u) (tg := tg) h he
  exact ⟨lea_inv hq.1 hq.2.2.1, hq.2.1, hq.2.2.1⟩
theorem ser_inv (h : rdInv n x) (he : en ≤ n) : rdInv n (rd_ser u n x en).1 ∧ (rd_ser u n x en).2.1 ≤ (rd_ser u n x en).2.2 ∧ (rd_ser u n x en).2.2 ≤ n := by
  have hq := nm_inv (u := u) (tg := 2) h he
  exact ⟨req_inv hq.1, hq.2⟩
end INV2

def y_Reader_number : MethodName := ⟨"TrustChain$Reader", "number", "(II)LTrustChain$Slice;"⟩
abbrev b_Reader_number : ByteArray := prog_8_method_11_code
def w_Reader_number : List Cond := Cond.code y_Reader_number b_Reader_number 7 ((some (FieldType.object "TrustChain$Slice"))) :: tb
theorem d_Reader_number_0 : decode b_Reader_number 0 = .ok (.aload_n 0, 1) := by decide +kernel
theorem d_Reader_number_1 : decode b_Reader_number 1 = .ok (.iload_n 1, 1) := by decide +kernel
theorem d_Reader_number_2 : decode b_Reader_number 2 = .ok (.iload_n 2, 1) := by decide +kernel
theorem d_Reader_number_3 : decode b_Reader_number 3 = .ok (.invokevirtual 49, 3) := by decide +kernel
theorem d_Reader_number_6 : decode b_Reader_number 6 = .ok (.istore_n 3, 1) := by decide +kernel
theorem d_Reader_number_7 : decode b_Reader_number 7 = .ok (.aload_n 0, 1) := by decide +kernel
theorem d_Reader_number_8 : decode b_Reader_number 8 = .ok (.getfield 9, 3) := by decide +kernel
theorem d_Reader_number_11 : decode b_Reader_number 11 = .ok (.istore 4, 2) := by decide +kernel
theorem d_Reader_number_13 : decode b_Reader_number 13 = .ok (.aload_n 0, 1) := by decide +kernel
theorem d_Reader_number_14 : decode b_Reader_number 14 = .ok (.iload 4, 2) := by decide +kernel
theorem d_Reader_number_16 : decode b_Reader_number 16 = .ok (.iconst 1, 1) := by decide +kernel
theorem d_Reader_number_17 : decode b_Reader_number 17 = .ok (.iadd, 1) := by decide +kernel
theorem d_Reader_number_18 : decode b_Reader_number 18 = .ok (.invokevirtual 45, 3) := by decide +kernel
theorem d_Reader_number_21 : decode b_Reader_number 21 = .ok (.sipush 128, 3) := by decide +kernel
theorem d_Reader_number_24 : decode b_Reader_number 24 = .ok (.if_icmp .lt 7, 3) := by decide +kernel
theorem d_Reader_number_27 : decode b_Reader_number 27 = .ok (.iconst 1, 1) := by decide +kernel
theorem d_Reader_number_28 : decode b_Reader_number 28 = .ok (.goto 4, 3) := by decide +kernel
theorem d_Reader_number_31 : decode b_Reader_number 31 = .ok (.iconst 0, 1) := by decide +kernel
theorem d_Reader_number_32 : decode b_Reader_number 32 = .ok (.istore 5, 2) := by decide +kernel
theorem d_Reader_number_34 : decode b_Reader_number 34 = .ok (.iload_n 3, 1) := by decide +kernel
theorem d_Reader_number_35 : decode b_Reader_number 35 = .ok (.iload 4, 2) := by decide +kernel
theorem d_Reader_number_37 : decode b_Reader_number 37 = .ok (.isub, 1) := by decide +kernel
theorem d_Reader_number_38 : decode b_Reader_number 38 = .ok (.iconst 1, 1) := by decide +kernel
theorem d_Reader_number_39 : decode b_Reader_number 39 = .ok (.if_icmp .le 38, 3) := by decide +kernel
theorem d_Reader_number_42 : decode b_Reader_number 42 = .ok (.aload_n 0, 1) := by decide +kernel
theorem d_Reader_number_43 : decode b_Reader_number 43 = .ok (.iload 4, 2) := by decide +kernel
theorem d_Reader_number_45 : decode b_Reader_number 45 = .ok (.invokevirtual 45, 3) := by decide +kernel
theorem d_Reader_number_48 : decode b_Reader_number 48 = .ok (.ifCond .ne 8, 3) := by decide +kernel
theorem d_Reader_number_51 : decode b_Reader_number 51 = .ok (.iload 5, 2) := by decide +kernel
theorem d_Reader_number_53 : decode b_Reader_number 53 = .ok (.ifCond .eq 20, 3) := by decide +kernel
theorem d_Reader_number_56 : decode b_Reader_number 56 = .ok (.aload_n 0, 1) := by decide +kernel
theorem d_Reader_number_57 : decode b_Reader_number 57 = .ok (.iload 4, 2) := by decide +kernel
theorem d_Reader_number_59 : decode b_Reader_number 59 = .ok (.invokevirtual 45, 3) := by decide +kernel
theorem d_Reader_number_62 : decode b_Reader_number 62 = .ok (.sipush 255, 3) := by decide +kernel
theorem d_Reader_number_65 : decode b_Reader_number 65 = .ok (.if_icmp .ne 12, 3) := by decide +kernel
theorem d_Reader_number_68 : decode b_Reader_number 68 = .ok (.iload 5, 2) := by decide +kernel
theorem d_Reader_number_70 : decode b_Reader_number 70 = .ok (.ifCond .eq 7, 3) := by decide +kernel
theorem d_Reader_number_73 : decode b_Reader_number 73 = .ok (.iconst 1, 1) := by decide +kernel
theorem d_Reader_number_74 : decode b_Reader_number 74 = .ok (.goto 4, 3) := by decide +kernel
theorem d_Reader_number_77 : decode b_Reader_number 77 = .ok (.iconst 0, 1) := by decide +kernel
theorem d_Reader_number_78 : decode b_Reader_number 78 = .ok (.istore 6, 2) := by decide +kernel
theorem d_Reader_number_80 : decode b_Reader_number 80 = .ok (.aload_n 0, 1) := by decide +kernel
theorem d_Reader_number_81 : decode b_Reader_number 81 = .ok (.iload_n 3, 1) := by decide +kernel
theorem d_Reader_number_82 : decode b_Reader_number 82 = .ok (.iload_n 3, 1) := by decide +kernel
theorem d_Reader_number_83 : decode b_Reader_number 83 = .ok (.iload 4, 2) := by decide +kernel
theorem d_Reader_number_85 : decode b_Reader_number 85 = .ok (.if_icmp .le 12, 3) := by decide +kernel
theorem d_Reader_number_88 : decode b_Reader_number 88 = .ok (.iload 6, 2) := by decide +kernel
theorem d_Reader_number_90 : decode b_Reader_number 90 = .ok (.ifCond .ne 7, 3) := by decide +kernel
theorem d_Reader_number_93 : decode b_Reader_number 93 = .ok (.iconst 1, 1) := by decide +kernel
theorem d_Reader_number_94 : decode b_Reader_number 94 = .ok (.goto 4, 3) := by decide +kernel
theorem d_Reader_number_97 : decode b_Reader_number 97 = .ok (.iconst 0, 1) := by decide +kernel
theorem d_Reader_number_98 : decode b_Reader_number 98 = .ok (.invokevirtual 53, 3) := by decide +kernel
theorem d_Reader_number_101 : decode b_Reader_number 101 = .ok (.new 57, 3) := by decide +kernel
theorem d_Reader_number_104 : decode b_Reader_number 104 = .ok (.dup, 1) := by decide +kernel
theorem d_Reader_number_105 : decode b_Reader_number 105 = .ok (.aload_n 0, 1) := by decide +kernel
theorem d_Reader_number_106 : decode b_Reader_number 106 = .ok (.getfield 37, 3) := by decide +kernel
theorem d_Reader_number_109 : decode b_Reader_number 109 = .ok (.iload 4, 2) := by decide +kernel
theorem d_Reader_number_111 : decode b_Reader_number 111 = .ok (.iload_n 3, 1) := by decide +kernel
theorem d_Reader_number_112 : decode b_Reader_number 112 = .ok (.invokespecial 59, 3) := by decide +kernel
theorem d_Reader_number_115 : decode b_Reader_number 115 = .ok (.areturn, 1) := by decide +kernel
def y_Reader_serial : MethodName := ⟨"TrustChain$Reader", "serial", "(I)LTrustChain$Slice;"⟩
abbrev b_Reader_serial : ByteArray := prog_8_method_12_code
def w_Reader_serial : List Cond := Cond.code y_Reader_serial b_Reader_serial 4 ((some (FieldType.object "TrustChain$Slice"))) :: tb
theorem d_Reader_serial_0 : decode b_Reader_serial 0 = .ok (.aload_n 0, 1) := by decide +kernel
theorem d_Reader_serial_1 : decode b_Reader_serial 1 = .ok (.iconst 2, 1) := by decide +kernel
theorem d_Reader_serial_2 : decode b_Reader_serial 2 = .ok (.iload_n 1, 1) := by decide +kernel
theorem d_Reader_serial_3 : decode b_Reader_serial 3 = .ok (.invokevirtual 62, 3) := by decide +kernel
theorem d_Reader_serial_6 : decode b_Reader_serial 6 = .ok (.astore_n 2, 1) := by decide +kernel
theorem d_Reader_serial_7 : decode b_Reader_serial 7 = .ok (.aload_n 2, 1) := by decide +kernel
theorem d_Reader_serial_8 : decode b_Reader_serial 8 = .ok (.iconst 0, 1) := by decide +kernel
theorem d_Reader_serial_9 : decode b_Reader_serial 9 = .ok (.invokevirtual 66, 3) := by decide +kernel
theorem d_Reader_serial_12 : decode b_Reader_serial 12 = .ok (.sipush 128, 3) := by decide +kernel
theorem d_Reader_serial_15 : decode b_Reader_serial 15 = .ok (.if_icmp .ge 23, 3) := by decide +kernel
theorem d_Reader_serial_18 : decode b_Reader_serial 18 = .ok (.aload_n 2, 1) := by decide +kernel
theorem d_Reader_serial_19 : decode b_Reader_serial 19 = .ok (.iconst 0, 1) := by decide +kernel
theorem d_Reader_serial_20 : decode b_Reader_serial 20 = .ok (.invokevirtual 66, 3) := by decide +kernel
theorem d_Reader_serial_23 : decode b_Reader_serial 23 = .ok (.ifCond .gt 11, 3) := by decide +kernel
theorem d_Reader_serial_26 : decode b_Reader_serial 26 = .ok (.aload_n 2, 1) := by decide +kernel
theorem d_Reader_serial_27 : decode b_Reader_serial 27 = .ok (.invokevirtual 69, 3) := by decide +kernel
theorem d_Reader_serial_30 : decode b_Reader_serial 30 = .ok (.iconst 1, 1) := by decide +kernel
theorem d_Reader_serial_31 : decode b_Reader_serial 31 = .ok (.if_icmp .le 7, 3) := by decide +kernel
theorem d_Reader_serial_34 : decode b_Reader_serial 34 = .ok (.iconst 1, 1) := by decide +kernel
theorem d_Reader_serial_35 : decode b_Reader_serial 35 = .ok (.goto 4, 3) := by decide +kernel
theorem d_Reader_serial_38 : decode b_Reader_serial 38 = .ok (.iconst 0, 1) := by decide +kernel
theorem d_Reader_serial_39 : decode b_Reader_serial 39 = .ok (.istore_n 3, 1) := by decide +kernel
theorem d_Reader_serial_40 : decode b_Reader_serial 40 = .ok (.aload_n 0, 1) := by decide +kernel
theorem d_Reader_serial_41 : decode b_Reader_serial 41 = .ok (.iload_n 3, 1) := by decide +kernel
theorem d_Reader_serial_42 : decode b_Reader_serial 42 = .ok (.ifCond .eq 16, 3) := by decide +kernel
theorem d_Reader_serial_45 : decode b_Reader_serial 45 = .ok (.aload_n 2, 1) := by decide +kernel
theorem d_Reader_serial_46 : decode b_Reader_serial 46 = .ok (.invokevirtual 69, 3) := by decide +kernel
theorem d_Reader_serial_49 : decode b_Reader_serial 49 = .ok (.bipush 20, 2) := by decide +kernel
theorem d_Reader_serial_51 : decode b_Reader_serial 51 = .ok (.if_icmp .gt 7, 3) := by decide +kernel
theorem d_Reader_serial_54 : decode b_Reader_serial 54 = .ok (.iconst 1, 1) := by decide +kernel
theorem d_Reader_serial_55 : decode b_Reader_serial 55 = .ok (.goto 4, 3) := by decide +kernel
theorem d_Reader_serial_58 : decode b_Reader_serial 58 = .ok (.iconst 0, 1) := by decide +kernel
theorem d_Reader_serial_59 : decode b_Reader_serial 59 = .ok (.invokevirtual 73, 3) := by decide +kernel
theorem d_Reader_serial_62 : decode b_Reader_serial 62 = .ok (.aload_n 2, 1) := by decide +kernel
theorem d_Reader_serial_63 : decode b_Reader_serial 63 = .ok (.areturn, 1) := by decide +kernel
def y_Reader_issuerKey : MethodName := ⟨"TrustChain$Reader", "issuerKey", "(I)LTrustChain$Slice;"⟩
abbrev b_Reader_issuerKey : ByteArray := prog_8_method_21_code
def w_Reader_issuerKey : List Cond := Cond.code y_Reader_issuerKey b_Reader_issuerKey 4 ((some (FieldType.object "TrustChain$Slice"))) :: tb
theorem d_Reader_issuerKey_0 : decode b_Reader_issuerKey 0 = .ok (.aload_n 0, 1) := by decide +kernel
theorem d_Reader_issuerKey_1 : decode b_Reader_issuerKey 1 = .ok (.bipush 48, 2) := by decide +kernel
theorem d_Reader_issuerKey_3 : decode b_Reader_issuerKey 3 = .ok (.iload_n 1, 1) := by decide +kernel
theorem d_Reader_issuerKey_4 : decode b_Reader_issuerKey 4 = .ok (.invokevirtual 49, 3) := by decide +kernel
theorem d_Reader_issuerKey_7 : decode b_Reader_issuerKey 7 = .ok (.istore_n 2, 1) := by decide +kernel
theorem d_Reader_issuerKey_8 : decode b_Reader_issuerKey 8 = .ok (.aload_n 0, 1) := by decide +kernel
theorem d_Reader_issuerKey_9 : decode b_Reader_issuerKey 9 = .ok (.sipush 128, 3) := by decide +kernel
theorem d_Reader_issuerKey_12 : decode b_Reader_issuerKey 12 = .ok (.iconst 1, 1) := by decide +kernel
theorem d_Reader_issuerKey_13 : decode b_Reader_issuerKey 13 = .ok (.iload_n 2, 1) := by decide +kernel
theorem d_Reader_issuerKey_14 : decode b_Reader_issuerKey 14 = .ok (.invokevirtual 140, 3) := by decide +kernel
theorem d_Reader_issuerKey_17 : decode b_Reader_issuerKey 17 = .ok (.astore_n 3, 1) := by decide +kernel
theorem d_Reader_issuerKey_18 : decode b_Reader_issuerKey 18 = .ok (.aload_n 0, 1) := by decide +kernel
theorem d_Reader_issuerKey_19 : decode b_Reader_issuerKey 19 = .ok (.iload_n 2, 1) := by decide +kernel
theorem d_Reader_issuerKey_20 : decode b_Reader_issuerKey 20 = .ok (.invokevirtual 81, 3) := by decide +kernel
theorem d_Reader_issuerKey_23 : decode b_Reader_issuerKey 23 = .ok (.aload_n 3, 1) := by decide +kernel
theorem d_Reader_issuerKey_24 : decode b_Reader_issuerKey 24 = .ok (.areturn, 1) := by decide +kernel
set_option maxHeartbeats 4000000 in
set_option maxRecDepth 100000 in
theorem cC_number (l : Launch) (dC : Nat → ClassId) (dI : Nat → Nat → Nat) (sb : sB) (h res t ki n : Nat) (x : rS) (pa ma ex ie : Int32) (cB : ClassId) (u : Nat → Nat) (tg en : Nat) (sz : Nat) (hu : ∀ j, u j < 256) (hn : n < 2 ^ 30) (hi : rdInv n x) (he : en ≤ n) (hg : tg < 256) : Met l y_Reader_number w_Reader_number ({ frames := 2, cells := 1, slots := 3, locals := 46 }) (mu_P [.ref h, .int (nI tg), .int (nI en)] (dC, dI) sb [(h, .inr (4, [.ref res, .ref t, .int (nI x.1), .int (nI x.2.1), .int (wI x.2.2), .int pa, .int ma, .int ex, .ref ki])), (t, .inl (cB, n, .inl (tx u)))] [(cB, .byte)] sz) (va_Qr (fun (u' : rS) => u' = (rd_nm u n x tg en).1) (mu_Br (dC, dI) [(cB, .byte)] (va_A [(h, .inr (4, [.ref res, .ref t, .int (nI x.1), .int (nI x.2.1), .int (wI x.2.2), .int pa, .int ma, .int ex, .ref ki])), (t, .inl (cB, n, .inl (tx u)))] sz) (fun (u' : rS) (q : Nat) => [(h, .inr (4, [.ref res, .ref t, .int (nI u'.1), .int (nI u'.2.1), .int (wI u'.2.2), .int pa, .int ma, .int ex, .ref ki])), (t, .inl (cB, n, .inl (tx u))), (q, .inr (0, [.ref t, .int (nI (rd_nm u n x tg en).2.1), .int (nI (rd_nm u n x tg en).2.2)]))])) (va_A [(h, .inr (4, [.ref res, .ref t, .int (nI x.1), .int (nI x.2.1), .int (wI x.2.2), .int pa, .int ma, .int ex, .ref ki])), (t, .inl (cB, n, .inl (tx u)))] sz)) 1 3 (va_A [(h, .inr (4, [.ref res, .ref t, .int (nI x.1), .int (nI x.2.1), .int (wI x.2.2), .int pa, .int ma, .int ex, .ref ki])), (t, .inl (cB, n, .inl (tx u)))] sz) := by
  refine Met.ofW (cc := b_Reader_number) (maxL := 7) (ret := (some (FieldType.object "TrustChain$Slice"))) (by decide) rfl ?_
  intro p e s m args below meth c s₁ B hml hv
  obtain ⟨rfl, hsz, hB0, hP, hK, hD0, hN, hT0⟩ := hv
  have hx := B.exec
  have hb := B.bytes
  have hr := B.returns
  have hts := atoms_spec (ws := w_Reader_number) B.pre
  have tbin : ∀ w ∈ tb, w ∈ w_Reader_number := fun w h => List.mem_cons_of_mem _ h
  have htb : ∀ w ∈ tb, w.before _ s = true := fun w h => hts w (tbin w h)
  have hown : s.vm.findClass "TrustChain$Reader" = some m.cls := findClass_of_methodNamed B.named
  have hlocks := B.notSynchronized
  subst hsz
  have hD := hD0.self (sz := s.heap.size)
  generalize hAe : va_A [(h, .inr (4, [.ref res, .ref t, .int (nI x.1), .int (nI x.2.1), .int (wI x.2.2), .int pa, .int ma, .int ex, .ref ki])), (t, .inl (cB, n, .inl (tx u)))] s.heap.size = A at hD ⊢
  have hA : ∀ q : Nat, s.heap.size ≤ q → A q := fun q h => by rw [← hAe]; exact Or.inr h
  have hAs : ∀ q : Nat, A q → sb.1 ≤ q := fun q h => by
    rw [← hAe] at h
    rcases h with ⟨k, e, h⟩ | h
    · exact hD0.2 k _ h
    · exact Nat.le_trans hB0 h
  have hS : va_S A s.heap s.heap [] := va_S.rf
  have hcs : 1 ≤ (headSpec w_Reader_number ({ frames := 2, cells := 1, slots := 3, locals := 46 })).room.cells ∧ 3 ≤ (headSpec w_Reader_number ({ frames := 2, cells := 1, slots := 3, locals := 46 })).room.slots := ⟨Nat.le_refl _, Nat.le_refl _⟩
  have hP : va_P (dC, dI) classes [(h, .inr (4, [.ref res, .ref t, .int (nI x.1), .int (nI x.2.1), .int (wI x.2.2), .int pa, .int ma, .int ex, .ref ki])), (t, .inl (cB, n, .inl (tx u)))] s.heap := hP
  have hl := lv_entry ([.ref h, .int (nI tg), .int (nI en)]) (n := 7) (Nat.le_of_ble_eq_true rfl)
  rw [lg_entry_eq]
  generalize (lg_sl ([.ref h, .int (nI tg), .int (nI en)]) ++ List.replicate (7 - (lg_sl ([.ref h, .int (nI tg), .int (nI en)])).length) Slot.unset).toArray = ls at hl ⊢
  have hl : lv_has ls 7 [(0, .ref h), (1, .int (nI tg)), (2, .int (nI en))] := hl
  refine lv_aload_n hx hb d_Reader_number_0 rfl (lv_at hl 0 rfl) ?_
  refine lv_iload_n hx hb d_Reader_number_1 rfl (lv_at hl 1 rfl) ?_
  refine lv_iload_n hx hb d_Reader_number_2 rfl (lv_at hl 2 rfl) ?_
  have hFc := va_free (wc := [(h, .inr (4, [.ref res, .ref t, .int (nI x.1), .int (nI x.2.1), .int (wI x.2.2), .int pa, .int ma, .int ex, .ref ki])), (t, .inl (cB, n, .inl (tx u)))]) hD hS hA [0, 1] rfl
  refine va_calli (mu_runU (As := [.int (nI tg), .int (nI en)]) (rest := []) ⟨hx, hb, hml, hown, hts⟩ (cC_open l dC dI sb h res t ki x.1 x.2.1 n x.2.2 pa ma ex ie cB u tg en s.heap.size hu hn ((hi).w hn) he (hi).1 (by omega)) (cu_of (n := 2) hts tbin q3_130 q9_192 q3_112 q9_193 q1_15 q3_113 rfl (by decide +kernel) ⟨rfl, rfl⟩ ⟨Nat.le_of_ble_eq_true rfl, Nat.le_of_ble_eq_true rfl⟩) rfl ⟨Nat.le_of_ble_eq_true rfl, Nat.le_of_ble_eq_true rfl⟩ hN (hT0.keep hS hAs) hAs (Nat.le_trans hB0 hS.1) hK hP hD [0, 1] (by decide) rfl [0] rfl 0 4 rfl rfl rfl hl.1 rfl (Nat.le_of_ble_eq_true rfl) d_Reader_number_3) hS (fun q _ h => hFc q h) hFc (fun r3 u3 tS H3 locs ht hvm hw3 hB hz1 hk1 hS => ?_)
  obtain ⟨x3, rfl⟩ : ∃ z, z = u3 := ⟨_, rfl⟩
  obtain ⟨hP1, hK1, hD1⟩ := hB
  rw [ht] at hP1
  obtain ⟨hP, hD⟩ := va_join (wr := []) (w1 := [(h, .inr (4, [.ref res, .ref t, .int (nI x3.1), .int (nI x3.2.1), .int (wI x3.2.2), .int pa, .int ma, .int ex, .ref ki])), (t, .inl (cB, n, .inl (tx u)))]) hP hD [0, 1] [] rfl rfl (by decide) (by decide) hk1 hFc hP1 hD1
  have hP : va_P (dC, dI) classes [(h, .inr (4, [.ref res, .ref t, .int (nI x3.1), .int (nI x3.2.1), .int (wI x3.2.2), .int pa, .int ma, .int ex, .ref ki])), (t, .inl (cB, n, .inl (tx u)))] H3 := hP
  have hD : va_D A [(h, .inr (4, [.ref res, .ref t, .int (nI x3.1), .int (nI x3.2.1), .int (wI x3.2.2), .int pa, .int ma, .int ex, .ref ki])), (t, .inl (cB, n, .inl (tx u)))] := hD
  have hw3 : x3 = (rd_opn u n x tg en).1 ∧ r3 = nI (rd_opn u n x tg en).2 := hw3
  have hi3 := opn_inv (u := u) (tg := tg) hi he
  obtain ⟨o3, ho3⟩ : ∃ o, o = rd_opn u n x tg en := ⟨_, rfl⟩
  rw [← ho3] at hw3 hi3
  obtain ⟨rfl, rfl⟩ := hw3
  have hP : va_P (dC, dI) classes [(h, .inr (4, [.ref res, .ref t, .int (nI o3.1.1), .int (nI o3.1.2.1), .int (wI o3.1.2.2), .int pa, .int ma, .int ex, .ref ki])), (t, .inl (cB, n, .inl (tx u)))] H3 := hP
  have hD : va_D A [(h, .inr (4, [.ref res, .ref t, .int (nI o3.1.1), .int (nI o3.1.2.1), .int (wI o3.1.2.2), .int pa, .int ma, .int ex, .ref ki])), (t, .inl (cB, n, .inl (tx u)))] := hD
  refine lv_istore_n (lv' := [(3, .int (nI o3.2)), (0, .ref h), (1, .int (nI tg)), (2, .int (nI en))]) hx hb d_Reader_number_6 rfl hl (by decide) rfl (fun ls hl => ?_)
  refine lv_aload_n hx hb d_Reader_number_7 rfl (lv_at hl 1 rfl) ?_
  refine va_get (v := .int (nI o3.1.1)) hx hb htb i_CertificateReader hown hK hP 0 rfl rfl 2 (by decide) (htb _ q3_62) (fun _ h9 => h9) rfl d_Reader_number_8 ?_
  refine lv_istore (lv' := [(4, .int (nI o3.1.1)), (3, .int (nI o3.2)), (0, .ref h), (1, .int (nI tg)), (2, .int (nI en))]) hx hb d_Reader_number_11 hl (by decide) rfl (fun ls hl => ?_)
  have hb1 := hi3.1.1
  have hb2 := hi3.2.1
  have hb3 := hi3.2.2.1
  refine w_join (J := fun v => bz v (128 ≤ oc u n (o3.1.1 + 1))) (pc := 32) (ls := ls) (rest := []) (fun v hv => ?_) (fun k32 => ?_)
  · skip
    refine lv_istore (lv' := [(5, .int v), (4, .int (nI o3.1.1)), (3, .int (nI o3.2)), (0, .ref h), (1, .int (nI tg)), (2, .int (nI en))]) hx hb d_Reader_number_32 hl (by decide) rfl (fun ls hl => ?_)
    refine w_join (J := fun v' => bz v' (1 < o3.2 - o3.1.1 ∧ ((oc u n o3.1.1 = 0 ∧ ¬ 128 ≤ oc u n (o3.1.1 + 1)) ∨ (oc u n o3.1.1 = 255 ∧ 128 ≤ oc u n (o3.1.1 + 1))))) (pc := 78) (ls := ls) (rest := []) (fun v' hv' => ?_) (fun k78 => ?_)
    · skip
      refine lv_istore (lv' := [(6, .int v'), (5, .int v), (4, .int (nI o3.1.1)), (3, .int (nI o3.2)), (0, .ref h), (1, .int (nI tg)), (2, .int (nI en))]) hx hb d_Reader_number_78 hl (by decide) rfl (fun ls hl => ?_)
      refine lv_aload_n hx hb d_Reader_number_80 rfl (lv_at hl 4 rfl) ?_
      refine lv_iload_n hx hb d_Reader_number_81 rfl (lv_at hl 3 rfl) ?_
      refine w_join (J := fun v'' => bz v'' (numOK u n o3.1.1 o3.2)) (pc := 98) (ls := ls) (rest := [.int (nI o3.2), .ref h]) (fun v'' hv'' => ?_) (fun k98 => ?_)
      · skip
        have hFc := va_free (wc := [(h, .inr (4, [.ref res, .ref t, .int (nI o3.1.1), .int (nI o3.1.2.1), .int (wI o3.1.2.2), .int pa, .int ma, .int ex, .ref ki]))]) hD hS hA [0] rfl
        refine va_callv (mu_runU (As := [.int (nI o3.2), .int v'']) (rest := []) ⟨hx, hb, hml, hown, hts⟩ (cC_leave l dC dI sb h res t ki o3.1.1 o3.1.2.1 n o3.1.2.2 pa ma ex ie cB u o3.2 v'' H3.size ((hi3.1).w hn)) (cu_of (n := 2) hts tbin q3_131 q3_133 q3_132 q3_134 q1_15 q3_136 rfl (by decide +kernel) ⟨rfl, rfl⟩ ⟨Nat.le_of_ble_eq_true rfl, Nat.le_of_ble_eq_true rfl⟩) rfl ⟨Nat.le_of_ble_eq_true rfl, Nat.le_of_ble_eq_true rfl⟩ hN (hT0.keep hS hAs) hAs (Nat.le_trans hB0 hS.1) hK hP hD [0] (by decide) rfl [] rfl 0 4 rfl rfl rfl hl.1 rfl (Nat.le_of_ble_eq_true rfl) d_Reader_number_98) hS (fun q _ h => hFc q h) hFc (fun u98 tS H98 locs ht hvm hw98 hB hz1 hk1 hS => ?_)
        obtain ⟨x98, rfl⟩ : ∃ z, z = u98 := ⟨_, rfl⟩
        obtain ⟨hP1, hK1, hD1⟩ := hB
        rw [ht] at hP1
        obtain ⟨hP, hD⟩ := va_join (wr := [(t, .inl (cB, n, .inl (tx u)))]) (w1 := [(h, .inr (4, [.ref res, .ref t, .int (nI x98.1), .int (nI x98.2.1), .int (wI x98.2.2), .int pa, .int ma, .int ex, .ref ki]))]) hP hD [0] [1] rfl rfl (by decide) (by decide) hk1 hFc hP1 hD1
        have hP : va_P (dC, dI) classes [(t, .inl (cB, n, .inl (tx u))), (h, .inr (4, [.ref res, .ref t, .int (nI x98.1), .int (nI x98.2.1), .int (wI x98.2.2), .int pa, .int ma, .int ex, .ref ki]))] H98 := hP
        have hD : va_D A [(t, .inl (cB, n, .inl (tx u))), (h, .inr (4, [.ref res, .ref t, .int (nI x98.1), .int (nI x98.2.1), .int (wI x98.2.2), .int pa, .int ma, .int ex, .ref ki]))] := hD
        have hw98 : x98 = rd_lea o3.1 o3.2 v'' := hw98
        have hi98 : rdInv n x98 := by rw [hw98]; exact lea_inv hi3.1 hi3.2.2.1
        refine va_new (ci := 0) (fs := [.null, .int 0, .int 0]) hx hb htb i_Slice t_Slice t_Slice_ok hown (htb _ q3_137) (htb _ q2_92) (htb _ q1_22) hK hP hD hS hA rfl (fun j hj => by rcases (show j = 0 ∨ j = 1 ∨ j = 2 by omega) with rfl | rfl | rfl <;> rfl) (Nat.le_of_ble_eq_true rfl) (Nat.le_of_ble_eq_true rfl) d_Reader_number_101 (fun q101 H101 hP hD hS => ?_)
        have hP : va_P (dC, dI) classes [(t, .inl (cB, n, .inl (tx u))), (h, .inr (4, [.ref res, .ref t, .int (nI x98.1), .int (nI x98.2.1), .int (wI x98.2.2), .int pa, .int ma, .int ex, .ref ki])), (q101, .inr (0, [.null, .int 0, .int 0]))] H101 := hP
        have hD : va_D A [(t, .inl (cB, n, .inl (tx u))), (h, .inr (4, [.ref res, .ref t, .int (nI x98.1), .int (nI x98.2.1), .int (wI x98.2.2), .int pa, .int ma, .int ex, .ref ki])), (q101, .inr (0, [.null, .int 0, .int 0]))] := hD
        refine lv_dup hx hb d_Reader_number_104 rfl ?_
        refine lv_aload_n hx hb d_Reader_number_105 rfl (lv_at hl 4 rfl) ?_
        refine va_get (v := .ref t) hx hb htb i_CertificateReader hown hK hP 1 rfl rfl 1 (by decide) (htb _ q3_57) (fun _ h9 => h9) rfl d_Reader_number_106 ?_
        refine lv_iload hx hb d_Reader_number_109 (lv_at hl 2 rfl) ?_
        refine lv_iload_n hx hb d_Reader_number_111 rfl (lv_at hl 3 rfl) ?_
        have hFc := va_free (wc := [(q101, .inr (0, [.null, .int 0, .int 0]))]) hD hS hA [2] rfl
        refine va_callv (mu_runI (As := [.ref t, .int (nI o3.1.1), .int (nI o3.2)]) (rest := [.ref q101]) ⟨hx, hb, hml, hown, hts⟩ tbin (c_Slice_init l dC dI sb q101 t (nI o3.1.1) (nI o3.2) H101.size) q3_138 q2_94 q1_22 q2_95 rfl (n := 3) (by decide +kernel) rfl ⟨rfl, rfl⟩ ⟨Nat.le_of_ble_eq_true rfl, Nat.le_of_ble_eq_true rfl⟩ ⟨Nat.le_of_ble_eq_true rfl, Nat.le_of_ble_eq_true rfl⟩ hN (hT0.keep hS hAs) hAs (Nat.le_trans hB0 hS.1) hK hP hD [2] (by decide) rfl [] rfl hl.1 rfl (Nat.le_of_ble_eq_true rfl) d_Reader_number_112) hS (fun q _ h => hFc q h) hFc (fun u112 tS H112 locs ht hvm hw112 hB hz1 hk1 hS => ?_)
        skip
        obtain ⟨hP1, hK1, hD1⟩ := hB
        rw [ht] at hP1
        obtain ⟨hP, hD⟩ := va_join (wr := [(t, .inl (cB, n, .inl (tx u))), (h, .inr (4, [.ref res, .ref t, .int (nI x98.1), .int (nI x98.2.1), .int (wI x98.2.2), .int pa, .int ma, .int ex, .ref ki]))]) (w1 := [(q101, .inr (0, [.ref t, .int (nI o3.1.1), .int (nI o3.2)]))]) hP hD [2] [0, 1] rfl rfl (by decide) (by decide) hk1 hFc hP1 hD1
        have hP : va_P (dC, dI) classes [(t, .inl (cB, n, .inl (tx u))), (h, .inr (4, [.ref res, .ref t, .int (nI x98.1), .int (nI x98.2.1), .int (wI x98.2.2), .int pa, .int ma, .int ex, .ref ki])), (q101, .inr (0, [.ref t, .int (nI o3.1.1), .int (nI o3.2)]))] H112 := hP
        have hD : va_D A [(t, .inl (cB, n, .inl (tx u))), (h, .inr (4, [.ref res, .ref t, .int (nI x98.1), .int (nI x98.2.1), .int (wI x98.2.2), .int pa, .int ma, .int ex, .ref ki])), (q101, .inr (0, [.ref t, .int (nI o3.1.1), .int (nI o3.2)]))] := hD
        subst ho3
        exact W.aret (v := .ref q101) hx hb hr (Or.inl ⟨_, rfl⟩) (Or.inr ⟨_, rfl⟩) (fun t ht hW => ⟨⟨x98, q101, rfl, hw98.trans (by rw [bz_zP hv'']; rfl), by rw [ht]; exact hP.sub [1, 0, 2] rfl, va_K.moved hW.alike hK, hD.sub [1, 0, 2] (by decide) rfl⟩, hS.F ht⟩) hS.2.2 d_Reader_number_115
      · skip
        refine lv_iload_n hx hb d_Reader_number_82 rfl (lv_at hl 3 rfl) ?_
        refine lv_iload hx hb d_Reader_number_83 (lv_at hl 2 rfl) ?_
        refine lv_icmp_le (tgt := 97) hx hb d_Reader_number_85 (by decide) (fun c85 => ?_) (fun c85 => ?_)
        · refine lv_iconst (v := 0) hx hb d_Reader_number_97 (by decide) ?_
          exact k98 _ (bz_f (fun q => absurd q.1 (by rw [nI_leI (by omega) (by omega)] at c85; omega)))
        · refine lv_iload hx hb d_Reader_number_88 (lv_at hl 0 rfl) ?_
          refine lv_if_ne (tgt := 97) hx hb d_Reader_number_90 (by decide) (fun c90 => ?_) (fun c90 => ?_)
          · refine lv_iconst (v := 0) hx hb d_Reader_number_97 (by decide) ?_
            exact k98 _ (bz_f (fun q => q.2 (bz_1 hv' c90)))
          · refine lv_iconst (v := 1) hx hb d_Reader_number_93 (by decide) ?_
            refine lv_goto (tgt := 98) hx hb d_Reader_number_94 (by decide) ?_
            exact k98 _ (bz_t ⟨by rw [nI_leI (by omega) (by omega)] at c85; omega, bz_0 hv' c90⟩)
    · skip
      refine lv_iload_n hx hb d_Reader_number_34 rfl (lv_at hl 2 rfl) ?_
      refine lv_iload hx hb d_Reader_number_35 (lv_at hl 1 rfl) ?_
      refine lv_isub hx hb d_Reader_number_37 ?_
      refine lv_iconst (v := 1) hx hb d_Reader_number_38 (by decide) ?_
      refine lv_icmp_le (tgt := 77) hx hb d_Reader_number_39 (by decide) (fun c39 => ?_) (fun c39 => ?_)
      · refine lv_iconst (v := 0) hx hb d_Reader_number_77 (by decide) ?_
        exact k78 _ (bz_f (fun q => absurd q.1 (by rw [pk_sub hi3.2.1, show (1 : Int32) = nI 1 from rfl, nI_leI (by omega) (by omega)] at c39; omega)))
      · have hgt : 1 < o3.2 - o3.1.1 := by rw [pk_sub hi3.2.1, show (1 : Int32) = nI 1 from rfl, nI_leI (by omega) (by omega)] at c39; omega
        refine lv_aload_n hx hb d_Reader_number_42 rfl (lv_at hl 3 rfl) ?_
        refine lv_iload hx hb d_Reader_number_43 (lv_at hl 1 rfl) ?_
        refine vp_callSi (pu_callU (As := [.int (nI o3.1.1)]) (rest := []) ⟨hx, hb, hml, hown, hts⟩ (cC_octet l dC dI sb h res t ki o3.1.1 o3.1.2.1 n o3.1.2.2 pa ma ex ie cB u (nI o3.1.1) hu hn) (cu_of (n := 1) hts tbin q3_114 q3_116 q3_115 q3_117 q1_15 q3_119 rfl (by decide +kernel) ⟨rfl, rfl⟩ ⟨Nat.le_of_ble_eq_true rfl, Nat.le_of_ble_eq_true rfl⟩) rfl ⟨Nat.le_of_ble_eq_true rfl, Nat.le_of_ble_eq_true rfl⟩ hN (hT0.keep hS hAs) hK hP [0, 1] rfl [0] rfl 0 4 rfl rfl rfl hl.1 rfl (Nat.le_of_ble_eq_true rfl) d_Reader_number_45) (fun r45 hr45 => ?_)
        rw [oc_eq (by omega)] at hr45
        refine lv_if_ne (tgt := 56) hx hb d_Reader_number_48 (by decide) (fun c48 => ?_) (fun c48 => ?_)
        · refine lv_aload_n hx hb d_Reader_number_56 rfl (lv_at hl 3 rfl) ?_
          refine lv_iload hx hb d_Reader_number_57 (lv_at hl 1 rfl) ?_
          refine vp_callSi (pu_callU (As := [.int (nI o3.1.1)]) (rest := []) ⟨hx, hb, hml, hown, hts⟩ (cC_octet l dC dI sb h res t ki o3.1.1 o3.1.2.1 n o3.1.2.2 pa ma ex ie cB u (nI o3.1.1) hu hn) (cu_of (n := 1) hts tbin q3_114 q3_116 q3_115 q3_117 q1_15 q3_119 rfl (by decide +kernel) ⟨rfl, rfl⟩ ⟨Nat.le_of_ble_eq_true rfl, Nat.le_of_ble_eq_true rfl⟩) rfl ⟨Nat.le_of_ble_eq_true rfl, Nat.le_of_ble_eq_true rfl⟩ hN (hT0.keep hS hAs) hK hP [0, 1] rfl [0] rfl 0 4 rfl rfl rfl hl.1 rfl (Nat.le_of_ble_eq_true rfl) d_Reader_number_59) (fun r59 hr59 => ?_)
          rw [oc_eq (by omega)] at hr59
          refine lv_sipush (v := 255) hx hb d_Reader_number_62 (by decide) ?_
          refine lv_icmp_ne (tgt := 77) hx hb d_Reader_number_65 (by decide) (fun c65 => ?_) (fun c65 => ?_)
          · refine lv_iconst (v := 0) hx hb d_Reader_number_77 (by decide) ?_
            exact k78 _ (bz_f (fun q => q.2.elim (fun z => c48 (by rw [hr45]; exact z.1)) (fun z => c65 (by rw [hr59]; exact z.1))))
          · refine lv_iload hx hb d_Reader_number_68 (lv_at hl 0 rfl) ?_
            refine lv_if_eq (tgt := 77) hx hb d_Reader_number_70 (by decide) (fun c70 => ?_) (fun c70 => ?_)
            · refine lv_iconst (v := 0) hx hb d_Reader_number_77 (by decide) ?_
              exact k78 _ (bz_f (fun q => q.2.elim (fun z => c48 (by rw [hr45]; exact z.1)) (fun z => bz_0 hv c70 z.2)))
            · refine lv_iconst (v := 1) hx hb d_Reader_number_73 (by decide) ?_
              refine lv_goto (tgt := 78) hx hb d_Reader_number_74 (by decide) ?_
              exact k78 _ (bz_t ⟨hgt, Or.inr ⟨by rw [← hr59]; exact c65, bz_1 hv c70⟩⟩)
        · refine lv_iload hx hb d_Reader_number_51 (lv_at hl 0 rfl) ?_
          refine lv_if_eq (tgt := 73) hx hb d_Reader_number_53 (by decide) (fun c53 => ?_) (fun c53 => ?_)
          · refine lv_iconst (v := 1) hx hb d_Reader_number_73 (by decide) ?_
            refine lv_goto (tgt := 78) hx hb d_Reader_number_74 (by decide) ?_
            exact k78 _ (bz_t ⟨hgt, Or.inl ⟨by rw [← hr45]; exact c48, bz_0 hv c53⟩⟩)
          · refine lv_aload_n hx hb d_Reader_number_56 rfl (lv_at hl 3 rfl) ?_
            refine lv_iload hx hb d_Reader_number_57 (lv_at hl 1 rfl) ?_
            refine vp_callSi (pu_callU (As := [.int (nI o3.1.1)]) (rest := []) ⟨hx, hb, hml, hown, hts⟩ (cC_octet l dC dI sb h res t ki o3.1.1 o3.1.2.1 n o3.1.2.2 pa ma ex ie cB u (nI o3.1.1) hu hn) (cu_of (n := 1) hts tbin q3_114 q3_116 q3_115 q3_117 q1_15 q3_119 rfl (by decide +kernel) ⟨rfl, rfl⟩ ⟨Nat.le_of_ble_eq_true rfl, Nat.le_of_ble_eq_true rfl⟩) rfl ⟨Nat.le_of_ble_eq_true rfl, Nat.le_of_ble_eq_true rfl⟩ hN (hT0.keep hS hAs) hK hP [0, 1] rfl [0] rfl 0 4 rfl rfl rfl hl.1 rfl (Nat.le_of_ble_eq_true rfl) d_Reader_number_59) (fun r59 hr59 => ?_)
            rw [oc_eq (by omega)] at hr59
            refine lv_sipush (v := 255) hx hb d_Reader_number_62 (by decide) ?_
            refine lv_icmp_ne (tgt := 77) hx hb d_Reader_number_65 (by decide) (fun c65 => ?_) (fun c65 => ?_)
            · refine lv_iconst (v := 0) hx hb d_Reader_number_77 (by decide) ?_
              exact k78 _ (bz_f (fun q => q.2.elim (fun z => z.2 (bz_1 hv c53)) (fun z => c65 (by rw [hr59]; exact z.1))))
            · refine lv_iload hx hb d_Reader_number_68 (lv_at hl 0 rfl) ?_
              refine lv_if_eq (tgt := 77) hx hb d_Reader_number_70 (by decide) (fun c70 => ?_) (fun c70 => ?_)
              · refine lv_iconst (v := 0) hx hb d_Reader_number_77 (by decide) ?_
                exact k78 _ (bz_f (fun q => q.2.elim (fun z => z.2 (bz_1 hv c53)) (fun z => bz_0 hv c70 z.2)))
              · refine lv_iconst (v := 1) hx hb d_Reader_number_73 (by decide) ?_
                refine lv_goto (tgt := 78) hx hb d_Reader_number_74 (by decide) ?_
                exact k78 _ (bz_t ⟨hgt, Or.inr ⟨by rw [← hr59]; exact c65, bz_1 hv c70⟩⟩)
  · skip
    have hb1 := hi3.1.1
    have hb2 := hi3.2.1
    have hb3 := hi3.2.2.1
    refine lv_aload_n hx hb d_Reader_number_13 rfl (lv_at hl 2 rfl) ?_
    refine lv_iload hx hb d_Reader_number_14 (lv_at hl 0 rfl) ?_
    refine lv_iconst (v := 1) hx hb d_Reader_number_16 (by decide) ?_
    refine lv_iadd hx hb d_Reader_number_17 ?_
    rw [show ((nI o3.1.1) + 1 : Int32) = nI (o3.1.1 + 1) from nI_add o3.1.1 1]
    refine vp_callSi (pu_callU (As := [.int (nI (o3.1.1 + 1))]) (rest := []) ⟨hx, hb, hml, hown, hts⟩ (cC_octet l dC dI sb h res t ki o3.1.1 o3.1.2.1 n o3.1.2.2 pa ma ex ie cB u (nI (o3.1.1 + 1)) hu hn) (cu_of (n := 1) hts tbin q3_114 q3_116 q3_115 q3_117 q1_15 q3_119 rfl (by decide +kernel) ⟨rfl, rfl⟩ ⟨Nat.le_of_ble_eq_true rfl, Nat.le_of_ble_eq_true rfl⟩) rfl ⟨Nat.le_of_ble_eq_true rfl, Nat.le_of_ble_eq_true rfl⟩ hN (hT0.keep hS hAs) hK hP [0, 1] rfl [0] rfl 0 4 rfl rfl rfl hl.1 rfl (Nat.le_of_ble_eq_true rfl) d_Reader_number_18) (fun r18 hr18 => ?_)
    rw [oc_eq (by omega)] at hr18
    refine lv_sipush (v := 128) hx hb d_Reader_number_21 (by decide) ?_
    refine lv_icmp_lt (tgt := 31) hx hb d_Reader_number_24 (by decide) (fun c24 => ?_) (fun c24 => ?_)
    · refine lv_iconst (v := 0) hx hb d_Reader_number_31 (by decide) ?_
      exact k32 _ (bz_f (fun q => Int32.not_lt.mpr q (by rw [← hr18]; exact c24)))
    · refine lv_iconst (v := 1) hx hb d_Reader_number_27 (by decide) ?_
      refine lv_goto (tgt := 32) hx hb d_Reader_number_28 (by decide) ?_
      exact k32 _ (bz_t (by rw [← hr18]; exact Int32.not_lt.mp c24))
set_option maxHeartbeats 4000000 in
set_option maxRecDepth 100000 in
theorem cC_serial (l : Launch) (dC : Nat → ClassId) (dI : Nat → Nat → Nat) (sb : sB) (h res t ki n : Nat) (x : rS) (pa ma ex ie : Int32) (cB : ClassId) (u : Nat → Nat) (en : Nat) (sz : Nat) (hu : ∀ j, u j < 256) (hn : n < 2 ^ 30) (hi : rdInv n x) (he : en ≤ n) : Met l y_Reader_serial w_Reader_serial ({ frames := 3, cells := 1, slots := 3, locals := 72 }) (mu_P [.ref h, .int (nI en)] (dC, dI) sb [(h, .inr (4, [.ref res, .ref t, .int (nI x.1), .int (nI x.2.1), .int (wI x.2.2), .int pa, .int ma, .int ex, .ref ki])), (t, .inl (cB, n, .inl (tx u)))] [(cB, .byte)] sz) (va_Qr (fun (u' : rS) => u' = (rd_ser u n x en).1) (mu_Br (dC, dI) [(cB, .byte)] (va_A [(h, .inr (4, [.ref res, .ref t, .int (nI x.1), .int (nI x.2.1), .int (wI x.2.2), .int pa, .int ma, .int ex, .ref ki])), (t, .inl (cB, n, .inl (tx u)))] sz) (fun (u' : rS) (q : Nat) => [(h, .inr (4, [.ref res, .ref t, .int (nI u'.1), .int (nI u'.2.1), .int (wI u'.2.2), .int pa, .int ma, .int ex, .ref ki])), (t, .inl (cB, n, .inl (tx u))), (q, .inr (0, [.ref t, .int (nI (rd_ser u n x en).2.1), .int (nI (rd_ser u n x en).2.2)]))])) (va_A [(h, .inr (4, [.ref res, .ref t, .int (nI x.1), .int (nI x.2.1), .int (wI x.2.2), .int pa, .int ma, .int ex, .ref ki])), (t, .inl (cB, n, .inl (tx u)))] sz)) 1 3 (va_A [(h, .inr (4, [.ref res, .ref t, .int (nI x.1), .int (nI x.2.1), .int (wI x.2.2), .int pa, .int ma, .int ex, .ref ki])), (t, .inl (cB, n, .inl (tx u)))] sz) := by
  refine Met.ofW (cc := b_Reader_serial) (maxL := 4) (ret := (some (FieldType.object "TrustChain$Slice"))) (by decide) rfl ?_
  intro p e s m args below meth c s₁ B hml hv
  obtain ⟨rfl, hsz, hB0, hP, hK, hD0, hN, hT0⟩ := hv
  have hx := B.exec
  have hb := B.bytes
  have hr := B.returns
  have hts := atoms_spec (ws := w_Reader_serial) B.pre
  have tbin : ∀ w ∈ tb, w ∈ w_Reader_serial := fun w h => List.mem_cons_of_mem _ h
  have htb : ∀ w ∈ tb, w.before _ s = true := fun w h => hts w (tbin w h)
  have hown : s.vm.findClass "TrustChain$Reader" = some m.cls := findClass_of_methodNamed B.named
  have hlocks := B.notSynchronized
  subst hsz
  have hD := hD0.self (sz := s.heap.size)
  generalize hAe : va_A [(h, .inr (4, [.ref res, .ref t, .int (nI x.1), .int (nI x.2.1), .int (wI x.2.2), .int pa, .int ma, .int ex, .ref ki])), (t, .inl (cB, n, .inl (tx u)))] s.heap.size = A at hD ⊢
  have hA : ∀ q : Nat, s.heap.size ≤ q → A q := fun q h => by rw [← hAe]; exact Or.inr h
  have hAs : ∀ q : Nat, A q → sb.1 ≤ q := fun q h => by
    rw [← hAe] at h
    rcases h with ⟨k, e, h⟩ | h
    · exact hD0.2 k _ h
    · exact Nat.le_trans hB0 h
  have hS : va_S A s.heap s.heap [] := va_S.rf
  have hcs : 1 ≤ (headSpec w_Reader_serial ({ frames := 3, cells := 1, slots := 3, locals := 72 })).room.cells ∧ 3 ≤ (headSpec w_Reader_serial ({ frames := 3, cells := 1, slots := 3, locals := 72 })).room.slots := ⟨Nat.le_refl _, Nat.le_refl _⟩
  have hP : va_P (dC, dI) classes [(h, .inr (4, [.ref res, .ref t, .int (nI x.1), .int (nI x.2.1), .int (wI x.2.2), .int pa, .int ma, .int ex, .ref ki])), (t, .inl (cB, n, .inl (tx u)))] s.heap := hP
  have hl := lv_entry ([.ref h, .int (nI en)]) (n := 4) (Nat.le_of_ble_eq_true rfl)
  rw [lg_entry_eq]
  generalize (lg_sl ([.ref h, .int (nI en)]) ++ List.replicate (4 - (lg_sl ([.ref h, .int (nI en)])).length) Slot.unset).toArray = ls at hl ⊢
  have hl : lv_has ls 4 [(0, .ref h), (1, .int (nI en))] := hl
  refine lv_aload_n hx hb d_Reader_serial_0 rfl (lv_at hl 0 rfl) ?_
  refine lv_iconst (v := 2) hx hb d_Reader_serial_1 (by decide) ?_
  refine lv_iload_n hx hb d_Reader_serial_2 rfl (lv_at hl 1 rfl) ?_
  have hFc := va_free (wc := [(h, .inr (4, [.ref res, .ref t, .int (nI x.1), .int (nI x.2.1), .int (wI x.2.2), .int pa, .int ma, .int ex, .ref ki])), (t, .inl (cB, n, .inl (tx u)))]) hD hS hA [0, 1] rfl
  refine va_callr (mu_runU (As := [.int 2, .int (nI en)]) (rest := []) ⟨hx, hb, hml, hown, hts⟩ (cC_number l dC dI sb h res t ki n x pa ma ex ie cB u 2 en s.heap.size hu hn hi he (by decide)) (cu_of (n := 2) hts tbin q3_171 q9_195 q3_128 q9_196 q1_15 q3_129 rfl (by decide +kernel) ⟨rfl, rfl⟩ ⟨Nat.le_of_ble_eq_true rfl, Nat.le_of_ble_eq_true rfl⟩) rfl ⟨Nat.le_of_ble_eq_true rfl, Nat.le_of_ble_eq_true rfl⟩ hN (hT0.keep hS hAs) hAs (Nat.le_trans hB0 hS.1) hK hP hD [0, 1] (by decide) rfl [0] rfl 0 4 rfl rfl rfl hl.1 rfl (Nat.le_of_ble_eq_true rfl) d_Reader_serial_3) hS (fun q _ h => hFc q h) hFc (fun u3 q3 tS H3 locs ht hvm hw3 hB hz1 hk1 hS => ?_)
  obtain ⟨x3, rfl⟩ : ∃ z, z = u3 := ⟨_, rfl⟩
  obtain ⟨hP1, hK1, hD1⟩ := hB
  rw [ht] at hP1
  obtain ⟨hP, hD⟩ := va_join (wr := []) (w1 := [(h, .inr (4, [.ref res, .ref t, .int (nI x3.1), .int (nI x3.2.1), .int (wI x3.2.2), .int pa, .int ma, .int ex, .ref ki])), (t, .inl (cB, n, .inl (tx u))), (q3, .inr (0, [.ref t, .int (nI (rd_nm u n x 2 en).2.1), .int (nI (rd_nm u n x 2 en).2.2)]))]) hP hD [0, 1] [] rfl rfl (by decide) (by decide) hk1 hFc hP1 hD1
  have hP : va_P (dC, dI) classes [(h, .inr (4, [.ref res, .ref t, .int (nI x3.1), .int (nI x3.2.1), .int (wI x3.2.2), .int pa, .int ma, .int ex, .ref ki])), (t, .inl (cB, n, .inl (tx u))), (q3, .inr (0, [.ref t, .int (nI (rd_nm u n x 2 en).2.1), .int (nI (rd_nm u n x 2 en).2.2)]))] H3 := hP
  have hD : va_D A [(h, .inr (4, [.ref res, .ref t, .int (nI x3.1), .int (nI x3.2.1), .int (wI x3.2.2), .int pa, .int ma, .int ex, .ref ki])), (t, .inl (cB, n, .inl (tx u))), (q3, .inr (0, [.ref t, .int (nI (rd_nm u n x 2 en).2.1), .int (nI (rd_nm u n x 2 en).2.2)]))] := hD
  have hi3 := nm_inv (u := u) (tg := 2) hi he
  obtain ⟨z3, hz3⟩ : ∃ o, o = rd_nm u n x 2 en := ⟨_, rfl⟩
  rw [← hz3] at hw3 hi3 hP hD
  subst hw3
  have hP : va_P (dC, dI) classes [(h, .inr (4, [.ref res, .ref t, .int (nI z3.1.1), .int (nI z3.1.2.1), .int (wI z3.1.2.2), .int pa, .int ma, .int ex, .ref ki])), (t, .inl (cB, n, .inl (tx u))), (q3, .inr (0, [.ref t, .int (nI z3.2.1), .int (nI z3.2.2)]))] H3 := hP
  have hD : va_D A [(h, .inr (4, [.ref res, .ref t, .int (nI z3.1.1), .int (nI z3.1.2.1), .int (wI z3.1.2.2), .int pa, .int ma, .int ex, .ref ki])), (t, .inl (cB, n, .inl (tx u))), (q3, .inr (0, [.ref t, .int (nI z3.2.1), .int (nI z3.2.2)]))] := hD
  refine lv_astore_n (lv' := [(2, .ref q3), (0, .ref h), (1, .int (nI en))]) hx hb d_Reader_serial_6 rfl hl (by decide) rfl (fun ls hl => ?_)
  have hb2 := hi3.2.1
  have hb3 := hi3.2.2
  refine w_join (J := fun v => bz v (¬ 128 ≤ sl_at u z3.2.1 z3.2.2 0 ∧ (0 < sl_at u z3.2.1 z3.2.2 0 ∨ 1 < z3.2.2 - z3.2.1))) (pc := 39) (ls := ls) (rest := []) (fun v hv => ?_) (fun k39 => ?_)
  · skip
    refine lv_istore_n (lv' := [(3, .int v), (2, .ref q3), (0, .ref h), (1, .int (nI en))]) hx hb d_Reader_serial_39 rfl hl (by decide) rfl (fun ls hl => ?_)
    refine lv_aload_n hx hb d_Reader_serial_40 rfl (lv_at hl 2 rfl) ?_
    refine w_join (J := fun v' => bz v' (serOK u z3.2.1 z3.2.2)) (pc := 59) (ls := ls) (rest := [.ref h]) (fun v' hv' => ?_) (fun k59 => ?_)
    · skip
      have hFc := va_free (wc := [(h, .inr (4, [.ref res, .ref t, .int (nI z3.1.1), .int (nI z3.1.2.1), .int (wI z3.1.2.2), .int pa, .int ma, .int ex, .ref ki]))]) hD hS hA [0] rfl
      refine va_callv (mu_runU (As := [.int v']) (rest := []) ⟨hx, hb, hml, hown, hts⟩ (cC_require l dC dI sb h res t ki z3.1.1 z3.1.2.1 n z3.1.2.2 pa ma ex ie cB u v' H3.size ((hi3.1).w hn)) (cu_of (n := 1) hts tbin q3_174 q9_198 q3_157 q9_199 q1_15 q3_158 rfl (by decide +kernel) ⟨rfl, rfl⟩ ⟨Nat.le_of_ble_eq_true rfl, Nat.le_of_ble_eq_true rfl⟩) rfl ⟨Nat.le_of_ble_eq_true rfl, Nat.le_of_ble_eq_true rfl⟩ hN (hT0.keep hS hAs) hAs (Nat.le_trans hB0 hS.1) hK hP hD [0] (by decide) rfl [] rfl 0 4 rfl rfl rfl hl.1 rfl (Nat.le_of_ble_eq_true rfl) d_Reader_serial_59) hS (fun q _ h => hFc q h) hFc (fun u59 tS H59 locs ht hvm hw59 hB hz1 hk1 hS => ?_)
      obtain ⟨x59, rfl⟩ : ∃ z, z = u59 := ⟨_, rfl⟩
      obtain ⟨hP1, hK1, hD1⟩ := hB
      rw [ht] at hP1
      obtain ⟨hP, hD⟩ := va_join (wr := [(t, .inl (cB, n, .inl (tx u))), (q3, .inr (0, [.ref t, .int (nI z3.2.1), .int (nI z3.2.2)]))]) (w1 := [(h, .inr (4, [.ref res, .ref t, .int (nI x59.1), .int (nI x59.2.1), .int (wI x59.2.2), .int pa, .int ma, .int ex, .ref ki]))]) hP hD [0] [1, 2] rfl rfl (by decide) (by decide) hk1 hFc hP1 hD1
      have hP : va_P (dC, dI) classes [(t, .inl (cB, n, .inl (tx u))), (q3, .inr (0, [.ref t, .int (nI z3.2.1), .int (nI z3.2.2)])), (h, .inr (4, [.ref res, .ref t, .int (nI x59.1), .int (nI x59.2.1), .int (wI x59.2.2), .int pa, .int ma, .int ex, .ref ki]))] H59 := hP
      have hD : va_D A [(t, .inl (cB, n, .inl (tx u))), (q3, .inr (0, [.ref t, .int (nI z3.2.1), .int (nI z3.2.2)])), (h, .inr (4, [.ref res, .ref t, .int (nI x59.1), .int (nI x59.2.1), .int (wI x59.2.2), .int pa, .int ma, .int ex, .ref ki]))] := hD
      have hw59 : x59 = rd_req z3.1 v' := hw59
      have hi59 : rdInv n x59 := by rw [hw59]; exact req_inv hi3.1
      refine lv_aload_n hx hb d_Reader_serial_62 rfl (lv_at hl 1 rfl) ?_
      subst hz3
      exact W.aret (v := .ref q3) hx hb hr (Or.inl ⟨_, rfl⟩) (Or.inr ⟨_, rfl⟩) (fun t ht hW => ⟨⟨x59, q3, rfl, hw59.trans (by rw [bz_zP hv']; rfl), by rw [ht]; exact hP.sub [2, 0, 1] rfl, va_K.moved hW.alike hK, hD.sub [2, 0, 1] (by decide) rfl⟩, hS.F ht⟩) hS.2.2 d_Reader_serial_63
    · skip
      refine lv_iload_n hx hb d_Reader_serial_41 rfl (lv_at hl 0 rfl) ?_
      refine lv_if_eq (tgt := 58) hx hb d_Reader_serial_42 (by decide) (fun c42 => ?_) (fun c42 => ?_)
      · refine lv_iconst (v := 0) hx hb d_Reader_serial_58 (by decide) ?_
        exact k59 _ (bz_f (fun q => bz_0 hv c42 q.1))
      · refine lv_aload_n hx hb d_Reader_serial_45 rfl (lv_at hl 1 rfl) ?_
        refine vp_callSi (pu_callV (As := []) (rest := [.ref h]) ⟨hx, hb, hml, hown, hts⟩ tbin (c_Slice_length l dC dI sb q3 t z3.2.1 z3.2.2 hi3.2.1) q3_173 q3_144 q3_145 q1_22 q3_146 (n := 0) (by decide +kernel) rfl ⟨rfl, rfl⟩ ⟨Nat.le_of_ble_eq_true rfl, Nat.le_of_ble_eq_true rfl⟩ ⟨Nat.le_of_ble_eq_true rfl, Nat.le_of_ble_eq_true rfl⟩ hN (hT0.keep hS hAs) hK hP [2] rfl [] rfl 2 0 rfl rfl rfl hl.1 rfl (Nat.le_of_ble_eq_true rfl) d_Reader_serial_46) (fun r46 hr46 => ?_)
        refine lv_bipush (v := 20) hx hb d_Reader_serial_49 (by decide) ?_
        refine lv_icmp_gt (tgt := 58) hx hb d_Reader_serial_51 (by decide) (fun c51 => ?_) (fun c51 => ?_)
        · refine lv_iconst (v := 0) hx hb d_Reader_serial_58 (by decide) ?_
          exact k59 _ (bz_f (fun q => absurd q.2 (by rw [hr46, show (20 : Int32) = nI 20 from rfl, nI_ltI (by omega) (by omega)] at c51; omega)))
        · refine lv_iconst (v := 1) hx hb d_Reader_serial_54 (by decide) ?_
          refine lv_goto (tgt := 59) hx hb d_Reader_serial_55 (by decide) ?_
          exact k59 _ (bz_t ⟨bz_1 hv c42, by rw [hr46, show (20 : Int32) = nI 20 from rfl, nI_ltI (by omega) (by omega)] at c51; omega⟩)
  · skip
    have hb2 := hi3.2.1
    have hb3 := hi3.2.2
    refine lv_aload_n hx hb d_Reader_serial_7 rfl (lv_at hl 0 rfl) ?_
    refine lv_iconst (v := 0) hx hb d_Reader_serial_8 (by decide) ?_
    refine vp_callSi (pu_callV (As := [.int 0]) (rest := []) ⟨hx, hb, hml, hown, hts⟩ tbin (c_Slice_at l dC dI sb q3 t z3.2.1 z3.2.2 n cB u 0 hu hi3.2.1 hi3.2.2 (by omega)) q3_172 q3_149 q3_150 q1_22 q3_151 (n := 1) (by decide +kernel) rfl ⟨rfl, rfl⟩ ⟨Nat.le_of_ble_eq_true rfl, Nat.le_of_ble_eq_true rfl⟩ ⟨Nat.le_of_ble_eq_true rfl, Nat.le_of_ble_eq_true rfl⟩ hN (hT0.keep hS hAs) hK hP [2, 1] rfl [0] rfl 2 0 rfl rfl rfl hl.1 rfl (Nat.le_of_ble_eq_true rfl) d_Reader_serial_9) (fun r9 hr9 => ?_)
    refine lv_sipush (v := 128) hx hb d_Reader_serial_12 (by decide) ?_
    refine lv_icmp_ge (tgt := 38) hx hb d_Reader_serial_15 (by decide) (fun c15 => ?_) (fun c15 => ?_)
    · refine lv_iconst (v := 0) hx hb d_Reader_serial_38 (by decide) ?_
      exact k39 _ (bz_f (fun q => q.1 (by rw [← hr9]; exact c15)))
    · refine lv_aload_n hx hb d_Reader_serial_18 rfl (lv_at hl 0 rfl) ?_
      refine lv_iconst (v := 0) hx hb d_Reader_serial_19 (by decide) ?_
      refine vp_callSi (pu_callV (As := [.int 0]) (rest := []) ⟨hx, hb, hml, hown, hts⟩ tbin (c_Slice_at l dC dI sb q3 t z3.2.1 z3.2.2 n cB u 0 hu hi3.2.1 hi3.2.2 (by omega)) q3_172 q3_149 q3_150 q1_22 q3_151 (n := 1) (by decide +kernel) rfl ⟨rfl, rfl⟩ ⟨Nat.le_of_ble_eq_true rfl, Nat.le_of_ble_eq_true rfl⟩ ⟨Nat.le_of_ble_eq_true rfl, Nat.le_of_ble_eq_true rfl⟩ hN (hT0.keep hS hAs) hK hP [2, 1] rfl [0] rfl 2 0 rfl rfl rfl hl.1 rfl (Nat.le_of_ble_eq_true rfl) d_Reader_serial_20) (fun r20 hr20 => ?_)
      refine lv_if_gt (tgt := 34) hx hb d_Reader_serial_23 (by decide) (fun c23 => ?_) (fun c23 => ?_)
      · refine lv_iconst (v := 1) hx hb d_Reader_serial_34 (by decide) ?_
        refine lv_goto (tgt := 39) hx hb d_Reader_serial_35 (by decide) ?_
        exact k39 _ (bz_t ⟨by rw [← hr9]; exact c15, Or.inl (by rw [← hr20]; exact c23)⟩)
      · refine lv_aload_n hx hb d_Reader_serial_26 rfl (lv_at hl 0 rfl) ?_
        refine vp_callSi (pu_callV (As := []) (rest := []) ⟨hx, hb, hml, hown, hts⟩ tbin (c_Slice_length l dC dI sb q3 t z3.2.1 z3.2.2 hi3.2.1) q3_173 q3_144 q3_145 q1_22 q3_146 (n := 0) (by decide +kernel) rfl ⟨rfl, rfl⟩ ⟨Nat.le_of_ble_eq_true rfl, Nat.le_of_ble_eq_true rfl⟩ ⟨Nat.le_of_ble_eq_true rfl, Nat.le_of_ble_eq_true rfl⟩ hN (hT0.keep hS hAs) hK hP [2] rfl [] rfl 2 0 rfl rfl rfl hl.1 rfl (Nat.le_of_ble_eq_true rfl) d_Reader_serial_27) (fun r27 hr27 => ?_)
        refine lv_iconst (v := 1) hx hb d_Reader_serial_30 (by decide) ?_
        refine lv_icmp_le (tgt := 38) hx hb d_Reader_serial_31 (by decide) (fun c31 => ?_) (fun c31 => ?_)
        · refine lv_iconst (v := 0) hx hb d_Reader_serial_38 (by decide) ?_
          exact k39 _ (bz_f (fun q => q.2.elim (fun z => c23 (by rw [hr20]; exact z)) (fun z => absurd z (by rw [hr27, show (1 : Int32) = nI 1 from rfl, nI_leI (by omega) (by omega)] at c31; omega))))
        · refine lv_iconst (v := 1) hx hb d_Reader_serial_34 (by decide) ?_
          refine lv_goto (tgt := 39) hx hb d_Reader_serial_35 (by decide) ?_
          exact k39 _ (bz_t ⟨by rw [← hr9]; exact c15, Or.inr (by rw [hr27, show (1 : Int32) = nI 1 from rfl, nI_leI (by omega) (by omega)] at c31; omega)⟩)
set_option maxHeartbeats 4000000 in
set_option maxRecDepth 100000 in
theorem cC_issuerKey (l : Launch) (dC : Nat → ClassId) (dI : Nat → Nat → Nat) (sb : sB) (h res t ki n : Nat) (x : rS) (pa ma ex ie : Int32) (cB : ClassId) (u : Nat → Nat) (en : Nat) (sz : Nat) (hu : ∀ j, u j < 256) (hn : n < 2 ^ 30) (hi : rdInv n x) (he : en ≤ n) : Met l y_Reader_issuerKey w_Reader_issuerKey ({ frames := 3, cells := 1, slots := 3, locals := 71 }) (mu_P [.ref h, .int (nI en)] (dC, dI) sb [(h, .inr (4, [.ref res, .ref t, .int (nI x.1), .int (nI x.2.1), .int (wI x.2.2), .int pa, .int ma, .int ex, .ref ki])), (t, .inl (cB, n, .inl (tx u)))] [(cB, .byte)] sz) (va_Qr (fun (u' : rS) => u' = (rd_iky u n x en).1) (mu_Br (dC, dI) [(cB, .byte)] (va_A [(h, .inr (4, [.ref res, .ref t, .int (nI x.1), .int (nI x.2.1), .int (wI x.2.2), .int pa, .int ma, .int ex, .ref ki])), (t, .inl (cB, n, .inl (tx u)))] sz) (fun (u' : rS) (q : Nat) => [(h, .inr (4, [.ref res, .ref t, .int (nI u'.1), .int (nI u'.2.1), .int (wI u'.2.2), .int pa, .int ma, .int ex, .ref ki])), (t, .inl (cB, n, .inl (tx u))), (q, .inr (0, [.ref t, .int (nI (rd_iky u n x en).2.1), .int (nI (rd_iky u n x en).2.2)]))])) (va_A [(h, .inr (4, [.ref res, .ref t, .int (nI x.1), .int (nI x.2.1), .int (wI x.2.2), .int pa, .int ma, .int ex, .ref ki])), (t, .inl (cB, n, .inl (tx u)))] sz)) 1 3 (va_A [(h, .inr (4, [.ref res, .ref t, .int (nI x.1), .int (nI x.2.1), .int (wI x.2.2), .int pa, .int ma, .int ex, .ref ki])), (t, .inl (cB, n, .inl (tx u)))] sz) := by
  refine Met.ofW (cc := b_Reader_issuerKey) (maxL := 4) (ret := (some (FieldType.object "TrustChain$Slice"))) (by decide) rfl ?_
  intro p e s m args below meth c s₁ B hml hv
  obtain ⟨rfl, hsz, hB0, hP, hK, hD0, hN, hT0⟩ := hv
  have hx := B.exec
  have hb := B.bytes
  have hr := B.returns
  have hts := atoms_spec (ws := w_Reader_issuerKey) B.pre
  have tbin : ∀ w ∈ tb, w ∈ w_Reader_issuerKey := fun w h => List.mem_cons_of_mem _ h
  have htb : ∀ w ∈ tb, w.before _ s = true := fun w h => hts w (tbin w h)
  have hown : s.vm.findClass "TrustChain$Reader" = some m.cls := findClass_of_methodNamed B.named
  have hlocks := B.notSynchronized
  subst hsz
  have hD := hD0.self (sz := s.heap.size)
  generalize hAe : va_A [(h, .inr (4, [.ref res, .ref t, .int (nI x.1), .int (nI x.2.1), .int (wI x.2.2), .int pa, .int ma, .int ex, .ref ki])), (t, .inl (cB, n, .inl (tx u)))] s.heap.size = A at hD ⊢
  have hA : ∀ q : Nat, s.heap.size ≤ q → A q := fun q h => by rw [← hAe]; exact Or.inr h
  have hAs : ∀ q : Nat, A q → sb.1 ≤ q := fun q h => by
    rw [← hAe] at h
    rcases h with ⟨k, e, h⟩ | h
    · exact hD0.2 k _ h
    · exact Nat.le_trans hB0 h
  have hS : va_S A s.heap s.heap [] := va_S.rf
  have hcs : 1 ≤ (headSpec w_Reader_issuerKey ({ frames := 3, cells := 1, slots := 3, locals := 71 })).room.cells ∧ 3 ≤ (headSpec w_Reader_issuerKey ({ frames := 3, cells := 1, slots := 3, locals := 71 })).room.slots := ⟨Nat.le_refl _, Nat.le_refl _⟩
  have hP : va_P (dC, dI) classes [(h, .inr (4, [.ref res, .ref t, .int (nI x.1), .int (nI x.2.1), .int (wI x.2.2), .int pa, .int ma, .int ex, .ref ki])), (t, .inl (cB, n, .inl (tx u)))] s.heap := hP
  have hl := lv_entry ([.ref h, .int (nI en)]) (n := 4) (Nat.le_of_ble_eq_true rfl)
  rw [lg_entry_eq]
  generalize (lg_sl ([.ref h, .int (nI en)]) ++ List.replicate (4 - (lg_sl ([.ref h, .int (nI en)])).length) Slot.unset).toArray = ls at hl ⊢
  have hl : lv_has ls 4 [(0, .ref h), (1, .int (nI en))] := hl
  refine lv_aload_n hx hb d_Reader_issuerKey_0 rfl (lv_at hl 0 rfl) ?_
  refine lv_bipush (v := 48) hx hb d_Reader_issuerKey_1 (by decide) ?_
  refine lv_iload_n hx hb d_Reader_issuerKey_3 rfl (lv_at hl 1 rfl) ?_
  have hFc := va_free (wc := [(h, .inr (4, [.ref res, .ref t, .int (nI x.1), .int (nI x.2.1), .int (wI x.2.2), .int pa, .int ma, .int ex, .ref ki])), (t, .inl (cB, n, .inl (tx u)))]) hD hS hA [0, 1] rfl
  refine va_calli (mu_runU (As := [.int 48, .int (nI en)]) (rest := []) ⟨hx, hb, hml, hown, hts⟩ (cC_open l dC dI sb h res t ki x.1 x.2.1 n x.2.2 pa ma ex ie cB u 48 en s.heap.size hu hn ((hi).w hn) he (hi).1 (by decide)) (cu_of (n := 2) hts tbin q3_130 q9_192 q3_112 q9_193 q1_15 q3_113 rfl (by decide +kernel) ⟨rfl, rfl⟩ ⟨Nat.le_of_ble_eq_true rfl, Nat.le_of_ble_eq_true rfl⟩) rfl ⟨Nat.le_of_ble_eq_true rfl, Nat.le_of_ble_eq_true rfl⟩ hN (hT0.keep hS hAs) hAs (Nat.le_trans hB0 hS.1) hK hP hD [0, 1] (by decide) rfl [0] rfl 0 4 rfl rfl rfl hl.1 rfl (Nat.le_of_ble_eq_true rfl) d_Reader_issuerKey_4) hS (fun q _ h => hFc q h) hFc (fun r4 u4 tS H4 locs ht hvm hw4 hB hz1 hk1 hS => ?_)
  obtain ⟨x4, rfl⟩ : ∃ z, z = u4 := ⟨_, rfl⟩
  obtain ⟨hP1, hK1, hD1⟩ := hB
  rw [ht] at hP1
  obtain ⟨hP, hD⟩ := va_join (wr := []) (w1 := [(h, .inr (4, [.ref res, .ref t, .int (nI x4.1), .int (nI x4.2.1), .int (wI x4.2.2), .int pa, .int ma, .int ex, .ref ki])), (t, .inl (cB, n, .inl (tx u)))]) hP hD [0, 1] [] rfl rfl (by decide) (by decide) hk1 hFc hP1 hD1
  have hP : va_P (dC, dI) classes [(h, .inr (4, [.ref res, .ref t, .int (nI x4.1), .int (nI x4.2.1), .int (wI x4.2.2), .int pa, .int ma, .int ex, .ref ki])), (t, .inl (cB, n, .inl (tx u)))] H4 := hP
  have hD : va_D A [(h, .inr (4, [.ref res, .ref t, .int (nI x4.1), .int (nI x4.2.1), .int (wI x4.2.2), .int pa, .int ma, .int ex, .ref ki])), (t, .inl (cB, n, .inl (tx u)))] := hD
  have hw4 : x4 = (rd_opn u n x 48 en).1 ∧ r4 = nI (rd_opn u n x 48 en).2 := hw4
  have hi4 := opn_inv (u := u) (tg := 48) hi he
  obtain ⟨o4, ho4⟩ : ∃ o, o = rd_opn u n x 48 en := ⟨_, rfl⟩
  rw [← ho4] at hw4 hi4
  obtain ⟨rfl, rfl⟩ := hw4
  have hP : va_P (dC, dI) classes [(h, .inr (4, [.ref res, .ref t, .int (nI o4.1.1), .int (nI o4.1.2.1), .int (wI o4.1.2.2), .int pa, .int ma, .int ex, .ref ki])), (t, .inl (cB, n, .inl (tx u)))] H4 := hP
  have hD : va_D A [(h, .inr (4, [.ref res, .ref t, .int (nI o4.1.1), .int (nI o4.1.2.1), .int (wI o4.1.2.2), .int pa, .int ma, .int ex, .ref ki])), (t, .inl (cB, n, .inl (tx u)))] := hD
  refine lv_istore_n (lv' := [(2, .int (nI o4.2)), (0, .ref h), (1, .int (nI en))]) hx hb d_Reader_issuerKey_7 rfl hl (by decide) rfl (fun ls hl => ?_)
  refine lv_aload_n hx hb d_Reader_issuerKey_8 rfl (lv_at hl 1 rfl) ?_
  refine lv_sipush (v := 128) hx hb d_Reader_issuerKey_9 (by decide) ?_
  refine lv_iconst (v := 1) hx hb d_Reader_issuerKey_12 (by decide) ?_
  refine lv_iload_n hx hb d_Reader_issuerKey_13 rfl (lv_at hl 0 rfl) ?_
  have hFc := va_free (wc := [(h, .inr (4, [.ref res, .ref t, .int (nI o4.1.1), .int (nI o4.1.2.1), .int (wI o4.1.2.2), .int pa, .int ma, .int ex, .ref ki])), (t, .inl (cB, n, .inl (tx u)))]) hD hS hA [0, 1] rfl
  refine va_callr (mu_runU (As := [.int 128, .int 1, .int (nI o4.2)]) (rest := []) ⟨hx, hb, hml, hown, hts⟩ (cC_plain l dC dI sb h res t ki n o4.1 pa ma ex ie cB u 128 1 o4.2 H4.size hu hn hi4.1 hi4.2.2.1 (by decide) (by decide)) (cu_of (n := 3) hts tbin q4_186 q9_209 q4_85 q9_210 q1_15 q4_86 rfl (by decide +kernel) ⟨rfl, rfl⟩ ⟨Nat.le_of_ble_eq_true rfl, Nat.le_of_ble_eq_true rfl⟩) rfl ⟨Nat.le_of_ble_eq_true rfl, Nat.le_of_ble_eq_true rfl⟩ hN (hT0.keep hS hAs) hAs (Nat.le_trans hB0 hS.1) hK hP hD [0, 1] (by decide) rfl [0] rfl 0 4 rfl rfl rfl hl.1 rfl (Nat.le_of_ble_eq_true rfl) d_Reader_issuerKey_14) hS (fun q _ h => hFc q h) hFc (fun u14 q14 tS H14 locs ht hvm hw14 hB hz1 hk1 hS => ?_)
  obtain ⟨x14, rfl⟩ : ∃ z, z = u14 := ⟨_, rfl⟩
  obtain ⟨hP1, hK1, hD1⟩ := hB
  rw [ht] at hP1
  obtain ⟨hP, hD⟩ := va_join (wr := []) (w1 := [(h, .inr (4, [.ref res, .ref t, .int (nI x14.1), .int (nI x14.2.1), .int (wI x14.2.2), .int pa, .int ma, .int ex, .ref ki])), (t, .inl (cB, n, .inl (tx u))), (q14, .inr (0, [.ref t, .int (nI (rd_plain u n o4.1 128 1 o4.2).2.1), .int (nI (rd_plain u n o4.1 128 1 o4.2).2.2)]))]) hP hD [0, 1] [] rfl rfl (by decide) (by decide) hk1 hFc hP1 hD1
  have hP : va_P (dC, dI) classes [(h, .inr (4, [.ref res, .ref t, .int (nI x14.1), .int (nI x14.2.1), .int (wI x14.2.2), .int pa, .int ma, .int ex, .ref ki])), (t, .inl (cB, n, .inl (tx u))), (q14, .inr (0, [.ref t, .int (nI (rd_plain u n o4.1 128 1 o4.2).2.1), .int (nI (rd_plain u n o4.1 128 1 o4.2).2.2)]))] H14 := hP
  have hD : va_D A [(h, .inr (4, [.ref res, .ref t, .int (nI x14.1), .int (nI x14.2.1), .int (wI x14.2.2), .int pa, .int ma, .int ex, .ref ki])), (t, .inl (cB, n, .inl (tx u))), (q14, .inr (0, [.ref t, .int (nI (rd_plain u n o4.1 128 1 o4.2).2.1), .int (nI (rd_plain u n o4.1 128 1 o4.2).2.2)]))] := hD
  have hi14 := plain_inv (u := u) (tg := 128) (le := 1) hi4.1 hi4.2.2.1
  obtain ⟨z14, hz14⟩ : ∃ o, o = rd_plain u n o4.1 128 1 o4.2 := ⟨_, rfl⟩
  rw [← hz14] at hw14 hi14 hP hD
  subst hw14
  have hP : va_P (dC, dI) classes [(h, .inr (4, [.ref res, .ref t, .int (nI z14.1.1), .int (nI z14.1.2.1), .int (wI z14.1.2.2), .int pa, .int ma, .int ex, .ref ki])), (t, .inl (cB, n, .inl (tx u))), (q14, .inr (0, [.ref t, .int (nI z14.2.1), .int (nI z14.2.2)]))] H14 := hP
  have hD : va_D A [(h, .inr (4, [.ref res, .ref t, .int (nI z14.1.1), .int (nI z14.1.2.1), .int (wI z14.1.2.2), .int pa, .int ma, .int ex, .ref ki])), (t, .inl (cB, n, .inl (tx u))), (q14, .inr (0, [.ref t, .int (nI z14.2.1), .int (nI z14.2.2)]))] := hD
  refine lv_astore_n (lv' := [(3, .ref q14), (2, .int (nI o4.2)), (0, .ref h), (1, .int (nI en))]) hx hb d_Reader_issuerKey_17 rfl hl (by decide) rfl (fun ls hl => ?_)
  refine lv_aload_n hx hb d_Reader_issuerKey_18 rfl (lv_at hl 2 rfl) ?_
  refine lv_iload_n hx hb d_Reader_issuerKey_19 rfl (lv_at hl 1 rfl) ?_
  have hFc := va_free (wc := [(h, .inr (4, [.ref res, .ref t, .int (nI z14.1.1), .int (nI z14.1.2.1), .int (wI z14.1.2.2), .int pa, .int ma, .int ex, .ref ki]))]) hD hS hA [0] rfl
  refine va_callv (mu_runU (As := [.int (nI o4.2)]) (rest := []) ⟨hx, hb, hml, hown, hts⟩ (cC_finish l dC dI sb h res t ki z14.1.1 z14.1.2.1 n z14.1.2.2 pa ma ex ie cB u o4.2 H14.size ((hi14.1).w hn) (by have := (hi14.1).1; omega) (by have := hi4.2.2.1; omega)) (cu_of (n := 1) hts tbin q3_183 q9_201 q3_163 q9_202 q1_15 q3_164 rfl (by decide +kernel) ⟨rfl, rfl⟩ ⟨Nat.le_of_ble_eq_true rfl, Nat.le_of_ble_eq_true rfl⟩) rfl ⟨Nat.le_of_ble_eq_true rfl, Nat.le_of_ble_eq_true rfl⟩ hN (hT0.keep hS hAs) hAs (Nat.le_trans hB0 hS.1) hK hP hD [0] (by decide) rfl [] rfl 0 4 rfl rfl rfl hl.1 rfl (Nat.le_of_ble_eq_true rfl) d_Reader_issuerKey_20) hS (fun q _ h => hFc q h) hFc (fun u20 tS H20 locs ht hvm hw20 hB hz1 hk1 hS => ?_)
  obtain ⟨x20, rfl⟩ : ∃ z, z = u20 := ⟨_, rfl⟩
  obtain ⟨hP1, hK1, hD1⟩ := hB
  rw [ht] at hP1
  obtain ⟨hP, hD⟩ := va_join (wr := [(t, .inl (cB, n, .inl (tx u))), (q14, .inr (0, [.ref t, .int (nI z14.2.1), .int (nI z14.2.2)]))]) (w1 := [(h, .inr (4, [.ref res, .ref t, .int (nI x20.1), .int (nI x20.2.1), .int (wI x20.2.2), .int pa, .int ma, .int ex, .ref ki]))]) hP hD [0] [1, 2] rfl rfl (by decide) (by decide) hk1 hFc hP1 hD1
  have hP : va_P (dC, dI) classes [(t, .inl (cB, n, .inl (tx u))), (q14, .inr (0, [.ref t, .int (nI z14.2.1), .int (nI z14.2.2)])), (h, .inr (4, [.ref res, .ref t, .int (nI x20.1), .int (nI x20.2.1), .int (wI x20.2.2), .int pa, .int ma, .int ex, .ref ki]))] H20 := hP
  have hD : va_D A [(t, .inl (cB, n, .inl (tx u))), (q14, .inr (0, [.ref t, .int (nI z14.2.1), .int (nI z14.2.2)])), (h, .inr (4, [.ref res, .ref t, .int (nI x20.1), .int (nI x20.2.1), .int (wI x20.2.2), .int pa, .int ma, .int ex, .ref ki]))] := hD
  have hw20 : x20 = rd_fin z14.1 o4.2 := hw20
  have hi20 : rdInv n x20 := by rw [hw20]; exact fin_inv hi14.1
  refine lv_aload_n hx hb d_Reader_issuerKey_23 rfl (lv_at hl 0 rfl) ?_
  subst hz14
  subst ho4
  exact W.aret (v := .ref q14) hx hb hr (Or.inl ⟨_, rfl⟩) (Or.inr ⟨_, rfl⟩) (fun t ht hW => ⟨⟨x20, q14, rfl, hw20, by rw [ht]; exact hP.sub [2, 0, 1] rfl, va_K.moved hW.alike hK, hD.sub [2, 0, 1] (by decide) rfl⟩, hS.F ht⟩) hS.2.2 d_Reader_issuerKey_24
set_option maxHeartbeats 4000000 in
set_option maxRecDepth 100000 in
theorem cL_number (l : Launch) (dC : Nat → ClassId) (dI : Nat → Nat → Nat) (sb : sB) (h res t ki n : Nat) (x : rS) (pa ma ex ie : Int32) (cB : ClassId) (u : Nat → Nat) (tg en : Nat) (sz : Nat) (hu : ∀ j, u j < 256) (hn : n < 2 ^ 30) (hi : rdInv n x) (he : en ≤ n) (hg : tg < 256) : Met l y_Reader_number w_Reader_number ({ frames := 2, cells := 1, slots := 3, locals := 46 }) (mu_P [.ref h, .int (nI tg), .int (nI en)] (dC, dI) sb [(h, .inr (5, [.ref res, .int ie, .ref t, .int (nI x.1), .int (nI x.2.1), .int (wI x.2.2), .int pa, .int ma, .int ex, .ref ki])), (t, .inl (cB, n, .inl (tx u)))] [(cB, .byte)] sz) (va_Qr (fun (u' : rS) => u' = (rd_nm u n x tg en).1) (mu_Br (dC, dI) [(cB, .byte)] (va_A [(h, .inr (5, [.ref res, .int ie, .ref t, .int (nI x.1), .int (nI x.2.1), .int (wI x.2.2), .int pa, .int ma, .int ex, .ref ki])), (t, .inl (cB, n, .inl (tx u)))] sz) (fun (u' : rS) (q : Nat) => [(h, .inr (5, [.ref res, .int ie, .ref t, .int (nI u'.1), .int (nI u'.2.1), .int (wI u'.2.2), .int pa, .int ma, .int ex, .ref ki])), (t, .inl (cB, n, .inl (tx u))), (q, .inr (0, [.ref t, .int (nI (rd_nm u n x tg en).2.1), .int (nI (rd_nm u n x tg en).2.2)]))])) (va_A [(h, .inr (5, [.ref res, .int ie, .ref t, .int (nI x.1), .int (nI x.2.1), .int (wI x.2.2), .int pa, .int ma, .int ex, .ref ki])), (t, .inl (cB, n, .inl (tx u)))] sz)) 1 3 (va_A [(h, .inr (5, [.ref res, .int ie, .ref t, .int (nI x.1), .int (nI x.2.1), .int (wI x.2.2), .int pa, .int ma, .int ex, .ref ki])), (t, .inl (cB, n, .inl (tx u)))] sz) := by
  refine Met.ofW (cc := b_Reader_number) (maxL := 7) (ret := (some (FieldType.object "TrustChain$Slice"))) (by decide) rfl ?_
  intro p e s m args below meth c s₁ B hml hv
  obtain ⟨rfl, hsz, hB0, hP, hK, hD0, hN, hT0⟩ := hv
  have hx := B.exec
  have hb := B.bytes
  have hr := B.returns
  have hts := atoms_spec (ws := w_Reader_number) B.pre
  have tbin : ∀ w ∈ tb, w ∈ w_Reader_number := fun w h => List.mem_cons_of_mem _ h
  have htb : ∀ w ∈ tb, w.before _ s = true := fun w h => hts w (tbin w h)
  have hown : s.vm.findClass "TrustChain$Reader" = some m.cls := findClass_of_methodNamed B.named
  have hlocks := B.notSynchronized
  subst hsz
  have hD := hD0.self (sz := s.heap.size)
  generalize hAe : va_A [(h, .inr (5, [.ref res, .int ie, .ref t, .int (nI x.1), .int (nI x.2.1), .int (wI x.2.2), .int pa, .int ma, .int ex, .ref ki])), (t, .inl (cB, n, .inl (tx u)))] s.heap.size = A at hD ⊢
  have hA : ∀ q : Nat, s.heap.size ≤ q → A q := fun q h => by rw [← hAe]; exact Or.inr h
  have hAs : ∀ q : Nat, A q → sb.1 ≤ q := fun q h => by
    rw [← hAe] at h
    rcases h with ⟨k, e, h⟩ | h
    · exact hD0.2 k _ h
    · exact Nat.le_trans hB0 h
  have hS : va_S A s.heap s.heap [] := va_S.rf
  have hcs : 1 ≤ (headSpec w_Reader_number ({ frames := 2, cells := 1, slots := 3, locals := 46 })).room.cells ∧ 3 ≤ (headSpec w_Reader_number ({ frames := 2, cells := 1, slots := 3, locals := 46 })).room.slots := ⟨Nat.le_refl _, Nat.le_refl _⟩
  have hP : va_P (dC, dI) classes [(h, .inr (5, [.ref res, .int ie, .ref t, .int (nI x.1), .int (nI x.2.1), .int (wI x.2.2), .int pa, .int ma, .int ex, .ref ki])), (t, .inl (cB, n, .inl (tx u)))] s.heap := hP
  have hl := lv_entry ([.ref h, .int (nI tg), .int (nI en)]) (n := 7) (Nat.le_of_ble_eq_true rfl)
  rw [lg_entry_eq]
  generalize (lg_sl ([.ref h, .int (nI tg), .int (nI en)]) ++ List.replicate (7 - (lg_sl ([.ref h, .int (nI tg), .int (nI en)])).length) Slot.unset).toArray = ls at hl ⊢
  have hl : lv_has ls 7 [(0, .ref h), (1, .int (nI tg)), (2, .int (nI en))] := hl
  refine lv_aload_n hx hb d_Reader_number_0 rfl (lv_at hl 0 rfl) ?_
  refine lv_iload_n hx hb d_Reader_number_1 rfl (lv_at hl 1 rfl) ?_
  refine lv_iload_n hx hb d_Reader_number_2 rfl (lv_at hl 2 rfl) ?_
  have hFc := va_free (wc := [(h, .inr (5, [.ref res, .int ie, .ref t, .int (nI x.1), .int (nI x.2.1), .int (wI x.2.2), .int pa, .int ma, .int ex, .ref ki])), (t, .inl (cB, n, .inl (tx u)))]) hD hS hA [0, 1] rfl
  refine va_calli (mu_runU (As := [.int (nI tg), .int (nI en)]) (rest := []) ⟨hx, hb, hml, hown, hts⟩ (cL_open l dC dI sb h res t ki x.1 x.2.1 n x.2.2 pa ma ex ie cB u tg en s.heap.size hu hn ((hi).w hn) he (hi).1 (by omega)) (cu_of (n := 2) hts tbin q3_130 q9_192 q3_112 q9_194 q1_15 q3_113 rfl (by decide +kernel) ⟨rfl, rfl⟩ ⟨Nat.le_of_ble_eq_true rfl, Nat.le_of_ble_eq_true rfl⟩) rfl ⟨Nat.le_of_ble_eq_true rfl, Nat.le_of_ble_eq_true rfl⟩ hN (hT0.keep hS hAs) hAs (Nat.le_trans hB0 hS.1) hK hP hD [0, 1] (by decide) rfl [0] rfl 0 5 rfl rfl rfl hl.1 rfl (Nat.le_of_ble_eq_true rfl) d_Reader_number_3) hS (fun q _ h => hFc q h) hFc (fun r3 u3 tS H3 locs ht hvm hw3 hB hz1 hk1 hS => ?_)
  obtain ⟨x3, rfl⟩ : ∃ z, z = u3 := ⟨_, rfl⟩
  obtain ⟨hP1, hK1, hD1⟩ := hB
  rw [ht] at hP1
  obtain ⟨hP, hD⟩ := va_join (wr := []) (w1 := [(h, .inr (5, [.ref res, .int ie, .ref t, .int (nI x3.1), .int (nI x3.2.1), .int (wI x3.2.2), .int pa, .int ma, .int ex, .ref ki])), (t, .inl (cB, n, .inl (tx u)))]) hP hD [0, 1] [] rfl rfl (by decide) (by decide) hk1 hFc hP1 hD1
  have hP : va_P (dC, dI) classes [(h, .inr (5, [.ref res, .int ie, .ref t, .int (nI x3.1), .int (nI x3.2.1), .int (wI x3.2.2), .int pa, .int ma, .int ex, .ref ki])), (t, .inl (cB, n, .inl (tx u)))] H3 := hP
  have hD : va_D A [(h, .inr (5, [.ref res, .int ie, .ref t, .int (nI x3.1), .int (nI x3.2.1), .int (wI x3.2.2), .int pa, .int ma, .int ex, .ref ki])), (t, .inl (cB, n, .inl (tx u)))] := hD
  have hw3 : x3 = (rd_opn u n x tg en).1 ∧ r3 = nI (rd_opn u n x tg en).2 := hw3
  have hi3 := opn_inv (u := u) (tg := tg) hi he
  obtain ⟨o3, ho3⟩ : ∃ o, o = rd_opn u n x tg en := ⟨_, rfl⟩
  rw [← ho3] at hw3 hi3
  obtain ⟨rfl, rfl⟩ := hw3
  have hP : va_P (dC, dI) classes [(h, .inr (5, [.ref res, .int ie, .ref t, .int (nI o3.1.1), .int (nI o3.1.2.1), .int (wI o3.1.2.2), .int pa, .int ma, .int ex, .ref ki])), (t, .inl (cB, n, .inl (tx u)))] H3 := hP
  have hD : va_D A [(h, .inr (5, [.ref res, .int ie, .ref t, .int (nI o3.1.1), .int (nI o3.1.2.1), .int (wI o3.1.2.2), .int pa, .int ma, .int ex, .ref ki])), (t, .inl (cB, n, .inl (tx u)))] := hD
  refine lv_istore_n (lv' := [(3, .int (nI o3.2)), (0, .ref h), (1, .int (nI tg)), (2, .int (nI en))]) hx hb d_Reader_number_6 rfl hl (by decide) rfl (fun ls hl => ?_)
  refine lv_aload_n hx hb d_Reader_number_7 rfl (lv_at hl 1 rfl) ?_
  refine va_get (v := .int (nI o3.1.1)) hx hb htb i_ListReader hown hK hP 0 rfl rfl 3 (by decide) (htb _ q3_62) (fun _ h9 => h9) rfl d_Reader_number_8 ?_
  refine lv_istore (lv' := [(4, .int (nI o3.1.1)), (3, .int (nI o3.2)), (0, .ref h), (1, .int (nI tg)), (2, .int (nI en))]) hx hb d_Reader_number_11 hl (by decide) rfl (fun ls hl => ?_)
  have hb1 := hi3.1.1
  have hb2 := hi3.2.1
  have hb3 := hi3.2.2.1
  refine w_join (J := fun v => bz v (128 ≤ oc u n (o3.1.1 + 1))) (pc := 32) (ls := ls) (rest := []) (fun v hv => ?_) (fun k32 => ?_)
  · skip
    refine lv_istore (lv' := [(5, .int v), (4, .int (nI o3.1.1)), (3, .int (nI o3.2)), (0, .ref h), (1, .int (nI tg)), (2, .int (nI en))]) hx hb d_Reader_number_32 hl (by decide) rfl (fun ls hl => ?_)
    refine w_join (J := fun v' => bz v' (1 < o3.2 - o3.1.1 ∧ ((oc u n o3.1.1 = 0 ∧ ¬ 128 ≤ oc u n (o3.1.1 + 1)) ∨ (oc u n o3.1.1 = 255 ∧ 128 ≤ oc u n (o3.1.1 + 1))))) (pc := 78) (ls := ls) (rest := []) (fun v' hv' => ?_) (fun k78 => ?_)
    · skip
      refine lv_istore (lv' := [(6, .int v'), (5, .int v), (4, .int (nI o3.1.1)), (3, .int (nI o3.2)), (0, .ref h), (1, .int (nI tg)), (2, .int (nI en))]) hx hb d_Reader_number_78 hl (by decide) rfl (fun ls hl => ?_)
      refine lv_aload_n hx hb d_Reader_number_80 rfl (lv_at hl 4 rfl) ?_
      refine lv_iload_n hx hb d_Reader_number_81 rfl (lv_at hl 3 rfl) ?_
      refine w_join (J := fun v'' => bz v'' (numOK u n o3.1.1 o3.2)) (pc := 98) (ls := ls) (rest := [.int (nI o3.2), .ref h]) (fun v'' hv'' => ?_) (fun k98 => ?_)
      · skip
        have hFc := va_free (wc := [(h, .inr (5, [.ref res, .int ie, .ref t, .int (nI o3.1.1), .int (nI o3.1.2.1), .int (wI o3.1.2.2), .int pa, .int ma, .int ex, .ref ki]))]) hD hS hA [0] rfl
        refine va_callv (mu_runU (As := [.int (nI o3.2), .int v'']) (rest := []) ⟨hx, hb, hml, hown, hts⟩ (cL_leave l dC dI sb h res t ki o3.1.1 o3.1.2.1 n o3.1.2.2 pa ma ex ie cB u o3.2 v'' H3.size ((hi3.1).w hn)) (cu_of (n := 2) hts tbin q3_131 q3_133 q3_132 q3_135 q1_15 q3_136 rfl (by decide +kernel) ⟨rfl, rfl⟩ ⟨Nat.le_of_ble_eq_true rfl, Nat.le_of_ble_eq_true rfl⟩) rfl ⟨Nat.le_of_ble_eq_true rfl, Nat.le_of_ble_eq_true rfl⟩ hN (hT0.keep hS hAs) hAs (Nat.le_trans hB0 hS.1) hK hP hD [0] (by decide) rfl [] rfl 0 5 rfl rfl rfl hl.1 rfl (Nat.le_of_ble_eq_true rfl) d_Reader_number_98) hS (fun q _ h => hFc q h) hFc (fun u98 tS H98 locs ht hvm hw98 hB hz1 hk1 hS => ?_)
        obtain ⟨x98, rfl⟩ : ∃ z, z = u98 := ⟨_, rfl⟩
        obtain ⟨hP1, hK1, hD1⟩ := hB
        rw [ht] at hP1
        obtain ⟨hP, hD⟩ := va_join (wr := [(t, .inl (cB, n, .inl (tx u)))]) (w1 := [(h, .inr (5, [.ref res, .int ie, .ref t, .int (nI x98.1), .int (nI x98.2.1), .int (wI x98.2.2), .int pa, .int ma, .int ex, .ref ki]))]) hP hD [0] [1] rfl rfl (by decide) (by decide) hk1 hFc hP1 hD1
        have hP : va_P (dC, dI) classes [(t, .inl (cB, n, .inl (tx u))), (h, .inr (5, [.ref res, .int ie, .ref t, .int (nI x98.1), .int (nI x98.2.1), .int (wI x98.2.2), .int pa, .int ma, .int ex, .ref ki]))] H98 := hP
        have hD : va_D A [(t, .inl (cB, n, .inl (tx u))), (h, .inr (5, [.ref res, .int ie, .ref t, .int (nI x98.1), .int (nI x98.2.1), .int (wI x98.2.2), .int pa, .int ma, .int ex, .ref ki]))] := hD
        have hw98 : x98 = rd_lea o3.1 o3.2 v'' := hw98
        have hi98 : rdInv n x98 := by rw [hw98]; exact lea_inv hi3.1 hi3.2.2.1
        refine va_new (ci := 0) (fs := [.null, .int 0, .int 0]) hx hb htb i_Slice t_Slice t_Slice_ok hown (htb _ q3_137) (htb _ q2_92) (htb _ q1_22) hK hP hD hS hA rfl (fun j hj => by rcases (show j = 0 ∨ j = 1 ∨ j = 2 by omega) with rfl | rfl | rfl <;> rfl) (Nat.le_of_ble_eq_true rfl) (Nat.le_of_ble_eq_true rfl) d_Reader_number_101 (fun q101 H101 hP hD hS => ?_)
        have hP : va_P (dC, dI) classes [(t, .inl (cB, n, .inl (tx u))), (h, .inr (5, [.ref res, .int ie, .ref t, .int (nI x98.1), .int (nI x98.2.1), .int (wI x98.2.2), .int pa, .int ma, .int ex, .ref ki])), (q101, .inr (0, [.null, .int 0, .int 0]))] H101 := hP
        have hD : va_D A [(t, .inl (cB, n, .inl (tx u))), (h, .inr (5, [.ref res, .int ie, .ref t, .int (nI x98.1), .int (nI x98.2.1), .int (wI x98.2.2), .int pa, .int ma, .int ex, .ref ki])), (q101, .inr (0, [.null, .int 0, .int 0]))] := hD
        refine lv_dup hx hb d_Reader_number_104 rfl ?_
        refine lv_aload_n hx hb d_Reader_number_105 rfl (lv_at hl 4 rfl) ?_
        refine va_get (v := .ref t) hx hb htb i_ListReader hown hK hP 1 rfl rfl 2 (by decide) (htb _ q3_57) (fun _ h9 => h9) rfl d_Reader_number_106 ?_
        refine lv_iload hx hb d_Reader_number_109 (lv_at hl 2 rfl) ?_
        refine lv_iload_n hx hb d_Reader_number_111 rfl (lv_at hl 3 rfl) ?_
        have hFc := va_free (wc := [(q101, .inr (0, [.null, .int 0, .int 0]))]) hD hS hA [2] rfl
        refine va_callv (mu_runI (As := [.ref t, .int (nI o3.1.1), .int (nI o3.2)]) (rest := [.ref q101]) ⟨hx, hb, hml, hown, hts⟩ tbin (c_Slice_init l dC dI sb q101 t (nI o3.1.1) (nI o3.2) H101.size) q3_138 q2_94 q1_22 q2_95 rfl (n := 3) (by decide +kernel) rfl ⟨rfl, rfl⟩ ⟨Nat.le_of_ble_eq_true rfl, Nat.le_of_ble_eq_true rfl⟩ ⟨Nat.le_of_ble_eq_true rfl, Nat.le_of_ble_eq_true rfl⟩ hN (hT0.keep hS hAs) hAs (Nat.le_trans hB0 hS.1) hK hP hD [2] (by decide) rfl [] rfl hl.1 rfl (Nat.le_of_ble_eq_true rfl) d_Reader_number_112) hS (fun q _ h => hFc q h) hFc (fun u112 tS H112 locs ht hvm hw112 hB hz1 hk1 hS => ?_)
        skip
        obtain ⟨hP1, hK1, hD1⟩ := hB
        rw [ht] at hP1
        obtain ⟨hP, hD⟩ := va_join (wr := [(t, .inl (cB, n, .inl (tx u))), (h, .inr (5, [.ref res, .int ie, .ref t, .int (nI x98.1), .int (nI x98.2.1), .int (wI x98.2.2), .int pa, .int ma, .int ex, .ref ki]))]) (w1 := [(q101, .inr (0, [.ref t, .int (nI o3.1.1), .int (nI o3.2)]))]) hP hD [2] [0, 1] rfl rfl (by decide) (by decide) hk1 hFc hP1 hD1
        have hP : va_P (dC, dI) classes [(t, .inl (cB, n, .inl (tx u))), (h, .inr (5, [.ref res, .int ie, .ref t, .int (nI x98.1), .int (nI x98.2.1), .int (wI x98.2.2), .int pa, .int ma, .int ex, .ref ki])), (q101, .inr (0, [.ref t, .int (nI o3.1.1), .int (nI o3.2)]))] H112 := hP
        have hD : va_D A [(t, .inl (cB, n, .inl (tx u))), (h, .inr (5, [.ref res, .int ie, .ref t, .int (nI x98.1), .int (nI x98.2.1), .int (wI x98.2.2), .int pa, .int ma, .int ex, .ref ki])), (q101, .inr (0, [.ref t, .int (nI o3.1.1), .int (nI o3.2)]))] := hD
        subst ho3
        exact W.aret (v := .ref q101) hx hb hr (Or.inl ⟨_, rfl⟩) (Or.inr ⟨_, rfl⟩) (fun t ht hW => ⟨⟨x98, q101, rfl, hw98.trans (by rw [bz_zP hv'']; rfl), by rw [ht]; exact hP.sub [1, 0, 2] rfl, va_K.moved hW.alike hK, hD.sub [1, 0, 2] (by decide) rfl⟩, hS.F ht⟩) hS.2.2 d_Reader_number_115
      · skip
        refine lv_iload_n hx hb d_Reader_number_82 rfl (lv_at hl 3 rfl) ?_
        refine lv_iload hx hb d_Reader_number_83 (lv_at hl 2 rfl) ?_
        refine lv_icmp_le (tgt := 97) hx hb d_Reader_number_85 (by decide) (fun c85 => ?_) (fun c85 => ?_)
        · refine lv_iconst (v := 0) hx hb d_Reader_number_97 (by decide) ?_
          exact k98 _ (bz_f (fun q => absurd q.1 (by rw [nI_leI (by omega) (by omega)] at c85; omega)))
        · refine lv_iload hx hb d_Reader_number_88 (lv_at hl 0 rfl) ?_
          refine lv_if_ne (tgt := 97) hx hb d_Reader_number_90 (by decide) (fun c90 => ?_) (fun c90 => ?_)
          · refine lv_iconst (v := 0) hx hb d_Reader_number_97 (by decide) ?_
            exact k98 _ (bz_f (fun q => q.2 (bz_1 hv' c90)))
          · refine lv_iconst (v := 1) hx hb d_Reader_number_93 (by decide) ?_
            refine lv_goto (tgt := 98) hx hb d_Reader_number_94 (by decide) ?_
            exact k98 _ (bz_t ⟨by rw [nI_leI (by omega) (by omega)] at c85; omega, bz_0 hv' c90⟩)
    · skip
      refine lv_iload_n hx hb d_Reader_number_34 rfl (lv_at hl 2 rfl) ?_
      refine lv_iload hx hb d_Reader_number_35 (lv_at hl 1 rfl) ?_
      refine lv_isub hx hb d_Reader_number_37 ?_
      refine lv_iconst (v := 1) hx hb d_Reader_number_38 (by decide) ?_
      refine lv_icmp_le (tgt := 77) hx hb d_Reader_number_39 (by decide) (fun c39 => ?_) (fun c39 => ?_)
      · refine lv_iconst (v := 0) hx hb d_Reader_number_77 (by decide) ?_
        exact k78 _ (bz_f (fun q => absurd q.1 (by rw [pk_sub hi3.2.1, show (1 : Int32) = nI 1 from rfl, nI_leI (by omega) (by omega)] at c39; omega)))
      · have hgt : 1 < o3.2 - o3.1.1 := by rw [pk_sub hi3.2.1, show (1 : Int32) = nI 1 from rfl, nI_leI (by omega) (by omega)] at c39; omega
        refine lv_aload_n hx hb d_Reader_number_42 rfl (lv_at hl 3 rfl) ?_
        refine lv_iload hx hb d_Reader_number_43 (lv_at hl 1 rfl) ?_
        refine vp_callSi (pu_callU (As := [.int (nI o3.1.1)]) (rest := []) ⟨hx, hb, hml, hown, hts⟩ (cL_octet l dC dI sb h res t ki o3.1.1 o3.1.2.1 n o3.1.2.2 pa ma ex ie cB u (nI o3.1.1) hu hn) (cu_of (n := 1) hts tbin q3_114 q3_116 q3_115 q3_118 q1_15 q3_119 rfl (by decide +kernel) ⟨rfl, rfl⟩ ⟨Nat.le_of_ble_eq_true rfl, Nat.le_of_ble_eq_true rfl⟩) rfl ⟨Nat.le_of_ble_eq_true rfl, Nat.le_of_ble_eq_true rfl⟩ hN (hT0.keep hS hAs) hK hP [0, 1] rfl [0] rfl 0 5 rfl rfl rfl hl.1 rfl (Nat.le_of_ble_eq_true rfl) d_Reader_number_45) (fun r45 hr45 => ?_)
        rw [oc_eq (by omega)] at hr45
        refine lv_if_ne (tgt := 56) hx hb d_Reader_number_48 (by decide) (fun c48 => ?_) (fun c48 => ?_)
        · refine lv_aload_n hx hb d_Reader_number_56 rfl (lv_at hl 3 rfl) ?_
          refine lv_iload hx hb d_Reader_number_57 (lv_at hl 1 rfl) ?_
          refine vp_callSi (pu_callU (As := [.int (nI o3.1.1)]) (rest := []) ⟨hx, hb, hml, hown, hts⟩ (cL_octet l dC dI sb h res t ki o3.1.1 o3.1.2.1 n o3.1.2.2 pa ma ex ie cB u (nI o3.1.1) hu hn) (cu_of (n := 1) hts tbin q3_114 q3_116 q3_115 q3_118 q1_15 q3_119 rfl (by decide +kernel) ⟨rfl, rfl⟩ ⟨Nat.le_of_ble_eq_true rfl, Nat.le_of_ble_eq_true rfl⟩) rfl ⟨Nat.le_of_ble_eq_true rfl, Nat.le_of_ble_eq_true rfl⟩ hN (hT0.keep hS hAs) hK hP [0, 1] rfl [0] rfl 0 5 rfl rfl rfl hl.1 rfl (Nat.le_of_ble_eq_true rfl) d_Reader_number_59) (fun r59 hr59 => ?_)
          rw [oc_eq (by omega)] at hr59
          refine lv_sipush (v := 255) hx hb d_Reader_number_62 (by decide) ?_
          refine lv_icmp_ne (tgt := 77) hx hb d_Reader_number_65 (by decide) (fun c65 => ?_) (fun c65 => ?_)
          · refine lv_iconst (v := 0) hx hb d_Reader_number_77 (by decide) ?_
            exact k78 _ (bz_f (fun q => q.2.elim (fun z => c48 (by rw [hr45]; exact z.1)) (fun z => c65 (by rw [hr59]; exact z.1))))
          · refine lv_iload hx hb d_Reader_number_68 (lv_at hl 0 rfl) ?_
            refine lv_if_eq (tgt := 77) hx hb d_Reader_number_70 (by decide) (fun c70 => ?_) (fun c70 => ?_)
            · refine lv_iconst (v := 0) hx hb d_Reader_number_77 (by decide) ?_
              exact k78 _ (bz_f (fun q => q.2.elim (fun z => c48 (by rw [hr45]; exact z.1)) (fun z => bz_0 hv c70 z.2)))
            · refine lv_iconst (v := 1) hx hb d_Reader_number_73 (by decide) ?_
              refine lv_goto (tgt := 78) hx hb d_Reader_number_74 (by decide) ?_
              exact k78 _ (bz_t ⟨hgt, Or.inr ⟨by rw [← hr59]; exact c65, bz_1 hv c70⟩⟩)
        · refine lv_iload hx hb d_Reader_number_51 (lv_at hl 0 rfl) ?_
          refine lv_if_eq (tgt := 73) hx hb d_Reader_number_53 (by decide) (fun c53 => ?_) (fun c53 => ?_)
          · refine lv_iconst (v := 1) hx hb d_Reader_number_73 (by decide) ?_
            refine lv_goto (tgt := 78) hx hb d_Reader_number_74 (by decide) ?_
            exact k78 _ (bz_t ⟨hgt, Or.inl ⟨by rw [← hr45]; exact c48, bz_0 hv c53⟩⟩)
          · refine lv_aload_n hx hb d_Reader_number_56 rfl (lv_at hl 3 rfl) ?_
            refine lv_iload hx hb d_Reader_number_57 (lv_at hl 1 rfl) ?_
            refine vp_callSi (pu_callU (As := [.int (nI o3.1.1)]) (rest := []) ⟨hx, hb, hml, hown, hts⟩ (cL_octet l dC dI sb h res t ki o3.1.1 o3.1.2.1 n o3.1.2.2 pa ma ex ie cB u (nI o3.1.1) hu hn) (cu_of (n := 1) hts tbin q3_114 q3_116 q3_115 q3_118 q1_15 q3_119 rfl (by decide +kernel) ⟨rfl, rfl⟩ ⟨Nat.le_of_ble_eq_true rfl, Nat.le_of_ble_eq_true rfl⟩) rfl ⟨Nat.le_of_ble_eq_true rfl, Nat.le_of_ble_eq_true rfl⟩ hN (hT0.keep hS hAs) hK hP [0, 1] rfl [0] rfl 0 5 rfl rfl rfl hl.1 rfl (Nat.le_of_ble_eq_true rfl) d_Reader_number_59) (fun r59 hr59 => ?_)
            rw [oc_eq (by omega)] at hr59
            refine lv_sipush (v := 255) hx hb d_Reader_number_62 (by decide) ?_
            refine lv_icmp_ne (tgt := 77) hx hb d_Reader_number_65 (by decide) (fun c65 => ?_) (fun c65 => ?_)
            · refine lv_iconst (v := 0) hx hb d_Reader_number_77 (by decide) ?_
              exact k78 _ (bz_f (fun q => q.2.elim (fun z => z.2 (bz_1 hv c53)) (fun z => c65 (by rw [hr59]; exact z.1))))
            · refine lv_iload hx hb d_Reader_number_68 (lv_at hl 0 rfl) ?_
              refine lv_if_eq (tgt := 77) hx hb d_Reader_number_70 (by decide) (fun c70 => ?_) (fun c70 => ?_)
              · refine lv_iconst (v := 0) hx hb d_Reader_number_77 (by decide) ?_
                exact k78 _ (bz_f (fun q => q.2.elim (fun z => z.2 (bz_1 hv c53)) (fun z => bz_0 hv c70 z.2)))
              · refine lv_iconst (v := 1) hx hb d_Reader_number_73 (by decide) ?_
                refine lv_goto (tgt := 78) hx hb d_Reader_number_74 (by decide) ?_
                exact k78 _ (bz_t ⟨hgt, Or.inr ⟨by rw [← hr59]; exact c65, bz_1 hv c70⟩⟩)
  · skip
    have hb1 := hi3.1.1
    have hb2 := hi3.2.1
    have hb3 := hi3.2.2.1
    refine lv_aload_n hx hb d_Reader_number_13 rfl (lv_at hl 2 rfl) ?_
    refine lv_iload hx hb d_Reader_number_14 (lv_at hl 0 rfl) ?_
    refine lv_iconst (v := 1) hx hb d_Reader_number_16 (by decide) ?_
    refine lv_iadd hx hb d_Reader_number_17 ?_
    rw [show ((nI o3.1.1) + 1 : Int32) = nI (o3.1.1 + 1) from nI_add o3.1.1 1]
    refine vp_callSi (pu_callU (As := [.int (nI (o3.1.1 + 1))]) (rest := []) ⟨hx, hb, hml, hown, hts⟩ (cL_octet l dC dI sb h res t ki o3.1.1 o3.1.2.1 n o3.1.2.2 pa ma ex ie cB u (nI (o3.1.1 + 1)) hu hn) (cu_of (n := 1) hts tbin q3_114 q3_116 q3_115 q3_118 q1_15 q3_119 rfl (by decide +kernel) ⟨rfl, rfl⟩ ⟨Nat.le_of_ble_eq_true rfl, Nat.le_of_ble_eq_true rfl⟩) rfl ⟨Nat.le_of_ble_eq_true rfl, Nat.le_of_ble_eq_true rfl⟩ hN (hT0.keep hS hAs) hK hP [0, 1] rfl [0] rfl 0 5 rfl rfl rfl hl.1 rfl (Nat.le_of_ble_eq_true rfl) d_Reader_number_18) (fun r18 hr18 => ?_)
    rw [oc_eq (by omega)] at hr18
    refine lv_sipush (v := 128) hx hb d_Reader_number_21 (by decide) ?_
    refine lv_icmp_lt (tgt := 31) hx hb d_Reader_number_24 (by decide) (fun c24 => ?_) (fun c24 => ?_)
    · refine lv_iconst (v := 0) hx hb d_Reader_number_31 (by decide) ?_
      exact k32 _ (bz_f (fun q => Int32.not_lt.mpr q (by rw [← hr18]; exact c24)))
    · refine lv_iconst (v := 1) hx hb d_Reader_number_27 (by decide) ?_
      refine lv_goto (tgt := 32) hx hb d_Reader_number_28 (by decide) ?_
      exact k32 _ (bz_t (by rw [← hr18]; exact Int32.not_lt.mp c24))
set_option maxHeartbeats 4000000 in
set_option maxRecDepth 100000 in
theorem cL_serial (l : Launch) (dC : Nat → ClassId) (dI : Nat → Nat → Nat) (sb : sB) (h res t ki n : Nat) (x : rS) (pa ma ex ie : Int32) (cB : ClassId) (u : Nat → Nat) (en : Nat) (sz : Nat) (hu : ∀ j, u j < 256) (hn : n < 2 ^ 30) (hi : rdInv n x) (he : en ≤ n) : Met l y_Reader_serial w_Reader_serial ({ frames := 3, cells := 1, slots := 3, locals := 72 }) (mu_P [.ref h, .int (nI en)] (dC, dI) sb [(h, .inr (5, [.ref res, .int ie, .ref t, .int (nI x.1), .int (nI x.2.1), .int (wI x.2.2), .int pa, .int ma, .int ex, .ref ki])), (t, .inl (cB, n, .inl (tx u)))] [(cB, .byte)] sz) (va_Qr (fun (u' : rS) => u' = (rd_ser u n x en).1) (mu_Br (dC, dI) [(cB, .byte)] (va_A [(h, .inr (5, [.ref res, .int ie, .ref t, .int (nI x.1), .int (nI x.2.1), .int (wI x.2.2), .int pa, .int ma, .int ex, .ref ki])), (t, .inl (cB, n, .inl (tx u)))] sz) (fun (u' : rS) (q : Nat) => [(h, .inr (5, [.ref res, .int ie, .ref t, .int (nI u'.1), .int (nI u'.2.1), .int (wI u'.2.2), .int pa, .int ma, .int ex, .ref ki])), (t, .inl (cB, n, .inl (tx u))), (q, .inr (0, [.ref t, .int (nI (rd_ser u n x en).2.1), .int (nI (rd_ser u n x en).2.2)]))])) (va_A [(h, .inr (5, [.ref res, .int ie, .ref t, .int (nI x.1), .int (nI x.2.1), .int (wI x.2.2), .int pa, .int ma, .int ex, .ref ki])), (t, .inl (cB, n, .inl (tx u)))] sz)) 1 3 (va_A [(h, .inr (5, [.ref res, .int ie, .ref t, .int (nI x.1), .int (nI x.2.1), .int (wI x.2.2), .int pa, .int ma, .int ex, .ref ki])), (t, .inl (cB, n, .inl (tx u)))] sz) := by
  refine Met.ofW (cc := b_Reader_serial) (maxL := 4) (ret := (some (FieldType.object "TrustChain$Slice"))) (by decide) rfl ?_
  intro p e s m args below meth c s₁ B hml hv
  obtain ⟨rfl, hsz, hB0, hP, hK, hD0, hN, hT0⟩ := hv
  have hx := B.exec
  have hb := B.bytes
  have hr := B.returns
  have hts := atoms_spec (ws := w_Reader_serial) B.pre
  have tbin : ∀ w ∈ tb, w ∈ w_Reader_serial := fun w h => List.mem_cons_of_mem _ h
  have htb : ∀ w ∈ tb, w.before _ s = true := fun w h => hts w (tbin w h)
  have hown : s.vm.findClass "TrustChain$Reader" = some m.cls := findClass_of_methodNamed B.named
  have hlocks := B.notSynchronized
  subst hsz
  have hD := hD0.self (sz := s.heap.size)
  generalize hAe : va_A [(h, .inr (5, [.ref res, .int ie, .ref t, .int (nI x.1), .int (nI x.2.1), .int (wI x.2.2), .int pa, .int ma, .int ex, .ref ki])), (t, .inl (cB, n, .inl (tx u)))] s.heap.size = A at hD ⊢
  have hA : ∀ q : Nat, s.heap.size ≤ q → A q := fun q h => by rw [← hAe]; exact Or.inr h
  have hAs : ∀ q : Nat, A q → sb.1 ≤ q := fun q h => by
    rw [← hAe] at h
    rcases h with ⟨k, e, h⟩ | h
    · exact hD0.2 k _ h
    · exact Nat.le_trans hB0 h
  have hS : va_S A s.heap s.heap [] := va_S.rf
  have hcs : 1 ≤ (headSpec w_Reader_serial ({ frames := 3, cells := 1, slots := 3, locals := 72 })).room.cells ∧ 3 ≤ (headSpec w_Reader_serial ({ frames := 3, cells := 1, slots := 3, locals := 72 })).room.slots := ⟨Nat.le_refl _, Nat.le_refl _⟩
  have hP : va_P (dC, dI) classes [(h, .inr (5, [.ref res, .int ie, .ref t, .int (nI x.1), .int (nI x.2.1), .int (wI x.2.2), .int pa, .int ma, .int ex, .ref ki])), (t, .inl (cB, n, .inl (tx u)))] s.heap := hP
  have hl := lv_entry ([.ref h, .int (nI en)]) (n := 4) (Nat.le_of_ble_eq_true rfl)
  rw [lg_entry_eq]
  generalize (lg_sl ([.ref h, .int (nI en)]) ++ List.replicate (4 - (lg_sl ([.ref h, .int (nI en)])).length) Slot.unset).toArray = ls at hl ⊢
  have hl : lv_has ls 4 [(0, .ref h), (1, .int (nI en))] := hl
  refine lv_aload_n hx hb d_Reader_serial_0 rfl (lv_at hl 0 rfl) ?_
  refine lv_iconst (v := 2) hx hb d_Reader_serial_1 (by decide) ?_
  refine lv_iload_n hx hb d_Reader_serial_2 rfl (lv_at hl 1 rfl) ?_
  have hFc := va_free (wc := [(h, .inr (5, [.ref res, .int ie, .ref t, .int (nI x.1), .int (nI x.2.1), .int (wI x.2.2), .int pa, .int ma, .int ex, .ref ki])), (t, .inl (cB, n, .inl (tx u)))]) hD hS hA [0, 1] rfl
  refine va_callr (mu_runU (As := [.int 2, .int (nI en)]) (rest := []) ⟨hx, hb, hml, hown, hts⟩ (cL_number l dC dI sb h res t ki n x pa ma ex ie cB u 2 en s.heap.size hu hn hi he (by decide)) (cu_of (n := 2) hts tbin q3_171 q9_195 q3_128 q9_197 q1_15 q3_129 rfl (by decide +kernel) ⟨rfl, rfl⟩ ⟨Nat.le_of_ble_eq_true rfl, Nat.le_of_ble_eq_true rfl⟩) rfl ⟨Nat.le_of_ble_eq_true rfl, Nat.le_of_ble_eq_true rfl⟩ hN (hT0.keep hS hAs) hAs (Nat.le_trans hB0 hS.1) hK hP hD [0, 1] (by decide) rfl [0] rfl 0 5 rfl rfl rfl hl.1 rfl (Nat.le_of_ble_eq_true rfl) d_Reader_serial_3) hS (fun q _ h => hFc q h) hFc (fun u3 q3 tS H3 locs ht hvm hw3 hB hz1 hk1 hS => ?_)
  obtain ⟨x3, rfl⟩ : ∃ z, z = u3 := ⟨_, rfl⟩
  obtain ⟨hP1, hK1, hD1⟩ := hB
  rw [ht] at hP1
  obtain ⟨hP, hD⟩ := va_join (wr := []) (w1 := [(h, .inr (5, [.ref res, .int ie, .ref t, .int (nI x3.1), .int (nI x3.2.1), .int (wI x3.2.2), .int pa, .int ma, .int ex, .ref ki])), (t, .inl (cB, n, .inl (tx u))), (q3, .inr (0, [.ref t, .int (nI (rd_nm u n x 2 en).2.1), .int (nI (rd_nm u n x 2 en).2.2)]))]) hP hD [0, 1] [] rfl rfl (by decide) (by decide) hk1 hFc hP1 hD1
  have hP : va_P (dC, dI) classes [(h, .inr (5, [.ref res, .int ie, .ref t, .int (nI x3.1), .int (nI x3.2.1), .int (wI x3.2.2), .int pa, .int ma, .int ex, .ref ki])), (t, .inl (cB, n, .inl (tx u))), (q3, .inr (0, [.ref t, .int (nI (rd_nm u n x 2 en).2.1), .int (nI (rd_nm u n x 2 en).2.2)]))] H3 := hP
  have hD : va_D A [(h, .inr (5, [.ref res, .int ie, .ref t, .int (nI x3.1), .int (nI x3.2.1), .int (wI x3.2.2), .int pa, .int ma, .int ex, .ref ki])), (t, .inl (cB, n, .inl (tx u))), (q3, .inr (0, [.ref t, .int (nI (rd_nm u n x 2 en).2.1), .int (nI (rd_nm u n x 2 en).2.2)]))] := hD
  have hi3 := nm_inv (u := u) (tg := 2) hi he
  obtain ⟨z3, hz3⟩ : ∃ o, o = rd_nm u n x 2 en := ⟨_, rfl⟩
  rw [← hz3] at hw3 hi3 hP hD
  subst hw3
  have hP : va_P (dC, dI) classes [(h, .inr (5, [.ref res, .int ie, .ref t, .int (nI z3.1.1), .int (nI z3.1.2.1), .int (wI z3.1.2.2), .int pa, .int ma, .int ex, .ref ki])), (t, .inl (cB, n, .inl (tx u))), (q3, .inr (0, [.ref t, .int (nI z3.2.1), .int (nI z3.2.2)]))] H3 := hP
  have hD : va_D A [(h, .inr (5, [.ref res, .int ie, .ref t, .int (nI z3.1.1), .int (nI z3.1.2.1), .int (wI z3.1.2.2), .int pa, .int ma, .int ex, .ref ki])), (t, .inl (cB, n, .inl (tx u))), (q3, .inr (0, [.ref t, .int (nI z3.2.1), .int (nI z3.2.2)]))] := hD
  refine lv_astore_n (lv' := [(2, .ref q3), (0, .ref h), (1, .int (nI en))]) hx hb d_Reader_serial_6 rfl hl (by decide) rfl (fun ls hl => ?_)
  have hb2 := hi3.2.1
  have hb3 := hi3.2.2
  refine w_join (J := fun v => bz v (¬ 128 ≤ sl_at u z3.2.1 z3.2.2 0 ∧ (0 < sl_at u z3.2.1 z3.2.2 0 ∨ 1 < z3.2.2 - z3.2.1))) (pc := 39) (ls := ls) (rest := []) (fun v hv => ?_) (fun k39 => ?_)
  · skip
    refine lv_istore_n (lv' := [(3, .int v), (2, .ref q3), (0, .ref h), (1, .int (nI en))]) hx hb d_Reader_serial_39 rfl hl (by decide) rfl (fun ls hl => ?_)
    refine lv_aload_n hx hb d_Reader_serial_40 rfl (lv_at hl 2 rfl) ?_
    refine w_join (J := fun v' => bz v' (serOK u z3.2.1 z3.2.2)) (pc := 59) (ls := ls) (rest := [.ref h]) (fun v' hv' => ?_) (fun k59 => ?_)
    · skip
      have hFc := va_free (wc := [(h, .inr (5, [.ref res, .int ie, .ref t, .int (nI z3.1.1), .int (nI z3.1.2.1), .int (wI z3.1.2.2), .int pa, .int ma, .int ex, .ref ki]))]) hD hS hA [0] rfl
      refine va_callv (mu_runU (As := [.int v']) (rest := []) ⟨hx, hb, hml, hown, hts⟩ (cL_require l dC dI sb h res t ki z3.1.1 z3.1.2.1 n z3.1.2.2 pa ma ex ie cB u v' H3.size ((hi3.1).w hn)) (cu_of (n := 1) hts tbin q3_174 q9_198 q3_157 q9_200 q1_15 q3_158 rfl (by decide +kernel) ⟨rfl, rfl⟩ ⟨Nat.le_of_ble_eq_true rfl, Nat.le_of_ble_eq_true rfl⟩) rfl ⟨Nat.le_of_ble_eq_true rfl, Nat.le_of_ble_eq_true rfl⟩ hN (hT0.keep hS hAs) hAs (Nat.le_trans hB0 hS.1) hK hP hD [0] (by decide) rfl [] rfl 0 5 rfl rfl rfl hl.1 rfl (Nat.le_of_ble_eq_true rfl) d_Reader_serial_59) hS (fun q _ h => hFc q h) hFc (fun u59 tS H59 locs ht hvm hw59 hB hz1 hk1 hS => ?_)
      obtain ⟨x59, rfl⟩ : ∃ z, z = u59 := ⟨_, rfl⟩
      obtain ⟨hP1, hK1, hD1⟩ := hB
      rw [ht] at hP1
      obtain ⟨hP, hD⟩ := va_join (wr := [(t, .inl (cB, n, .inl (tx u))), (q3, .inr (0, [.ref t, .int (nI z3.2.1), .int (nI z3.2.2)]))]) (w1 := [(h, .inr (5, [.ref res, .int ie, .ref t, .int (nI x59.1), .int (nI x59.2.1), .int (wI x59.2.2), .int pa, .int ma, .int ex, .ref ki]))]) hP hD [0] [1, 2] rfl rfl (by decide) (by decide) hk1 hFc hP1 hD1
      have hP : va_P (dC, dI) classes [(t, .inl (cB, n, .inl (tx u))), (q3, .inr (0, [.ref t, .int (nI z3.2.1), .int (nI z3.2.2)])), (h, .inr (5, [.ref res, .int ie, .ref t, .int (nI x59.1), .int (nI x59.2.1), .int (wI x59.2.2), .int pa, .int ma, .int ex, .ref ki]))] H59 := hP
      have hD : va_D A [(t, .inl (cB, n, .inl (tx u))), (q3, .inr (0, [.ref t, .int (nI z3.2.1), .int (nI z3.2.2)])), (h, .inr (5, [.ref res, .int ie, .ref t, .int (nI x59.1), .int (nI x59.2.1), .int (wI x59.2.2), .int pa, .int ma, .int ex, .ref ki]))] := hD
      have hw59 : x59 = rd_req z3.1 v' := hw59
      have hi59 : rdInv n x59 := by rw [hw59]; exact req_inv hi3.1
      refine lv_aload_n hx hb d_Reader_serial_62 rfl (lv_at hl 1 rfl) ?_
      subst hz3
      exact W.aret (v := .ref q3) hx hb hr (Or.inl ⟨_, rfl⟩) (Or.inr ⟨_, rfl⟩) (fun t ht hW => ⟨⟨x59, q3, rfl, hw59.trans (by rw [bz_zP hv']; rfl), by rw [ht]; exact hP.sub [2, 0, 1] rfl, va_K.moved hW.alike hK, hD.sub [2, 0, 1] (by decide) rfl⟩, hS.F ht⟩) hS.2.2 d_Reader_serial_63
    · skip
      refine lv_iload_n hx hb d_Reader_serial_41 rfl (lv_at hl 0 rfl) ?_
      refine lv_if_eq (tgt := 58) hx hb d_Reader_serial_42 (by decide) (fun c42 => ?_) (fun c42 => ?_)
      · refine lv_iconst (v := 0) hx hb d_Reader_serial_58 (by decide) ?_
        exact k59 _ (bz_f (fun q => bz_0 hv c42 q.1))
      · refine lv_aload_n hx hb d_Reader_serial_45 rfl (lv_at hl 1 rfl) ?_
        refine vp_callSi (pu_callV (As := []) (rest := [.ref h]) ⟨hx, hb, hml, hown, hts⟩ tbin (c_Slice_length l dC dI sb q3 t z3.2.1 z3.2.2 hi3.2.1) q3_173 q3_144 q3_145 q1_22 q3_146 (n := 0) (by decide +kernel) rfl ⟨rfl, rfl⟩ ⟨Nat.le_of_ble_eq_true rfl, Nat.le_of_ble_eq_true rfl⟩ ⟨Nat.le_of_ble_eq_true rfl, Nat.le_of_ble_eq_true rfl⟩ hN (hT0.keep hS hAs) hK hP [2] rfl [] rfl 2 0 rfl rfl rfl hl.1 rfl (Nat.le_of_ble_eq_true rfl) d_Reader_serial_46) (fun r46 hr46 => ?_)
        refine lv_bipush (v := 20) hx hb d_Reader_serial_49 (by decide) ?_
        refine lv_icmp_gt (tgt := 58) hx hb d_Reader_serial_51 (by decide) (fun c51 => ?_) (fun c51 => ?_)
        · refine lv_iconst (v := 0) hx hb d_Reader_serial_58 (by decide) ?_
          exact k59 _ (bz_f (fun q => absurd q.2 (by rw [hr46, show (20 : Int32) = nI 20 from rfl, nI_ltI (by omega) (by omega)] at c51; omega)))
        · refine lv_iconst (v := 1) hx hb d_Reader_serial_54 (by decide) ?_
          refine lv_goto (tgt := 59) hx hb d_Reader_serial_55 (by decide) ?_
          exact k59 _ (bz_t ⟨bz_1 hv c42, by rw [hr46, show (20 : Int32) = nI 20 from rfl, nI_ltI (by omega) (by omega)] at c51; omega⟩)
  · skip
    have hb2 := hi3.2.1
    have hb3 := hi3.2.2
    refine lv_aload_n hx hb d_Reader_serial_7 rfl (lv_at hl 0 rfl) ?_
    refine lv_iconst (v := 0) hx hb d_Reader_serial_8 (by decide) ?_
    refine vp_callSi (pu_callV (As := [.int 0]) (rest := []) ⟨hx, hb, hml, hown, hts⟩ tbin (c_Slice_at l dC dI sb q3 t z3.2.1 z3.2.2 n cB u 0 hu hi3.2.1 hi3.2.2 (by omega)) q3_172 q3_149 q3_150 q1_22 q3_151 (n := 1) (by decide +kernel) rfl ⟨rfl, rfl⟩ ⟨Nat.le_of_ble_eq_true rfl, Nat.le_of_ble_eq_true rfl⟩ ⟨Nat.le_of_ble_eq_true rfl, Nat.le_of_ble_eq_true rfl⟩ hN (hT0.keep hS hAs) hK hP [2, 1] rfl [0] rfl 2 0 rfl rfl rfl hl.1 rfl (Nat.le_of_ble_eq_true rfl) d_Reader_serial_9) (fun r9 hr9 => ?_)
    refine lv_sipush (v := 128) hx hb d_Reader_serial_12 (by decide) ?_
    refine lv_icmp_ge (tgt := 38) hx hb d_Reader_serial_15 (by decide) (fun c15 => ?_) (fun c15 => ?_)
    · refine lv_iconst (v := 0) hx hb d_Reader_serial_38 (by decide) ?_
      exact k39 _ (bz_f (fun q => q.1 (by rw [← hr9]; exact c15)))
    · refine lv_aload_n hx hb d_Reader_serial_18 rfl (lv_at hl 0 rfl) ?_
      refine lv_iconst (v := 0) hx hb d_Reader_serial_19 (by decide) ?_
      refine vp_callSi (pu_callV (As := [.int 0]) (rest := []) ⟨hx, hb, hml, hown, hts⟩ tbin (c_Slice_at l dC dI sb q3 t z3.2.1 z3.2.2 n cB u 0 hu hi3.2.1 hi3.2.2 (by omega)) q3_172 q3_149 q3_150 q1_22 q3_151 (n := 1) (by decide +kernel) rfl ⟨rfl, rfl⟩ ⟨Nat.le_of_ble_eq_true rfl, Nat.le_of_ble_eq_true rfl⟩ ⟨Nat.le_of_ble_eq_true rfl, Nat.le_of_ble_eq_true rfl⟩ hN (hT0.keep hS hAs) hK hP [2, 1] rfl [0] rfl 2 0 rfl rfl rfl hl.1 rfl (Nat.le_of_ble_eq_true rfl) d_Reader_serial_20) (fun r20 hr20 => ?_)
      refine lv_if_gt (tgt := 34) hx hb d_Reader_serial_23 (by decide) (fun c23 => ?_) (fun c23 => ?_)
      · refine lv_iconst (v := 1) hx hb d_Reader_serial_34 (by decide) ?_
        refine lv_goto (tgt := 39) hx hb d_Reader_serial_35 (by decide) ?_
        exact k39 _ (bz_t ⟨by rw [← hr9]; exact c15, Or.inl (by rw [← hr20]; exact c23)⟩)
      · refine lv_aload_n hx hb d_Reader_serial_26 rfl (lv_at hl 0 rfl) ?_
        refine vp_callSi (pu_callV (As := []) (rest := []) ⟨hx, hb, hml, hown, hts⟩ tbin (c_Slice_length l dC dI sb q3 t z3.2.1 z3.2.2 hi3.2.1) q3_173 q3_144 q3_145 q1_22 q3_146 (n := 0) (by decide +kernel) rfl ⟨rfl, rfl⟩ ⟨Nat.le_of_ble_eq_true rfl, Nat.le_of_ble_eq_true rfl⟩ ⟨Nat.le_of_ble_eq_true rfl, Nat.le_of_ble_eq_true rfl⟩ hN (hT0.keep hS hAs) hK hP [2] rfl [] rfl 2 0 rfl rfl rfl hl.1 rfl (Nat.le_of_ble_eq_true rfl) d_Reader_serial_27) (fun r27 hr27 => ?_)
        refine lv_iconst (v := 1) hx hb d_Reader_serial_30 (by decide) ?_
        refine lv_icmp_le (tgt := 38) hx hb d_Reader_serial_31 (by decide) (fun c31 => ?_) (fun c31 => ?_)
        · refine lv_iconst (v := 0) hx hb d_Reader_serial_38 (by decide) ?_
          exact k39 _ (bz_f (fun q => q.2.elim (fun z => c23 (by rw [hr20]; exact z)) (fun z => absurd z (by rw [hr27, show (1 : Int32) = nI 1 from rfl, nI_leI (by omega) (by omega)] at c31; omega))))
        · refine lv_iconst (v := 1) hx hb d_Reader_serial_34 (by decide) ?_
          refine lv_goto (tgt := 39) hx hb d_Reader_serial_35 (by decide) ?_
          exact k39 _ (bz_t ⟨by rw [← hr9]; exact c15, Or.inr (by rw [hr27, show (1 : Int32) = nI 1 from rfl, nI_leI (by omega) (by omega)] at c31; omega)⟩)
set_option maxHeartbeats 4000000 in
set_option maxRecDepth 100000 in
theorem cL_issuerKey (l : Launch) (dC : Nat → ClassId) (dI : Nat → Nat → Nat) (sb : sB) (h res t ki n : Nat) (x : rS) (pa ma ex ie : Int32) (cB : ClassId) (u : Nat → Nat) (en : Nat) (sz : Nat) (hu : ∀ j, u j < 256) (hn : n < 2 ^ 30) (hi : rdInv n x) (he : en ≤ n) : Met l y_Reader_issuerKey w_Reader_issuerKey ({ frames := 3, cells := 1, slots := 3, locals := 71 }) (mu_P [.ref h, .int (nI en)] (dC, dI) sb [(h, .inr (5, [.ref res, .int ie, .ref t, .int (nI x.1), .int (nI x.2.1), .int (wI x.2.2), .int pa, .int ma, .int ex, .ref ki])), (t, .inl (cB, n, .inl (tx u)))] [(cB, .byte)] sz) (va_Qr (fun (u' : rS) => u' = (rd_iky u n x en).1) (mu_Br (dC, dI) [(cB, .byte)] (va_A [(h, .inr (5, [.ref res, .int ie, .ref t, .int (nI x.1), .int (nI x.2.1), .int (wI x.2.2), .int pa, .int ma, .int ex, .ref ki])), (t, .inl (cB, n, .inl (tx u)))] sz) (fun (u' : rS) (q : Nat) => [(h, .inr (5, [.ref res, .int ie, .ref t, .int (nI u'.1), .int (nI u'.2.1), .int (wI u'.2.2), .int pa, .int ma, .int ex, .ref ki])), (t, .inl (cB, n, .inl (tx u))), (q, .inr (0, [.ref t, .int (nI (rd_iky u n x en).2.1), .int (nI (rd_iky u n x en).2.2)]))])) (va_A [(h, .inr (5, [.ref res, .int ie, .ref t, .int (nI x.1), .int (nI x.2.1), .int (wI x.2.2), .int pa, .int ma, .int ex, .ref ki])), (t, .inl (cB, n, .inl (tx u)))] sz)) 1 3 (va_A [(h, .inr (5, [.ref res, .int ie, .ref t, .int (nI x.1), .int (nI x.2.1), .int (wI x.2.2), .int pa, .int ma, .int ex, .ref ki])), (t, .inl (cB, n, .inl (tx u)))] sz) := by
  refine Met.ofW (cc := b_Reader_issuerKey) (maxL := 4) (ret := (some (FieldType.object "TrustChain$Slice"))) (by decide) rfl ?_
  intro p e s m args below meth c s₁ B hml hv
  obtain ⟨rfl, hsz, hB0, hP, hK, hD0, hN, hT0⟩ := hv
  have hx := B.exec
  have hb := B.bytes
  have hr := B.returns
  have hts := atoms_spec (ws := w_Reader_issuerKey) B.pre
  have tbin : ∀ w ∈ tb, w ∈ w_Reader_issuerKey := fun w h => List.mem_cons_of_mem _ h
  have htb : ∀ w ∈ tb, w.before _ s = true := fun w h => hts w (tbin w h)
  have hown : s.vm.findClass "TrustChain$Reader" = some m.cls := findClass_of_methodNamed B.named
  have hlocks := B.notSynchronized
  subst hsz
  have hD := hD0.self (sz := s.heap.size)
  generalize hAe : va_A [(h, .inr (5, [.ref res, .int ie, .ref t, .int (nI x.1), .int (nI x.2.1), .int (wI x.2.2), .int pa, .int ma, .int ex, .ref ki])), (t, .inl (cB, n, .inl (tx u)))] s.heap.size = A at hD ⊢
  have hA : ∀ q : Nat, s.heap.size ≤ q → A q := fun q h => by rw [← hAe]; exact Or.inr h
  have hAs : ∀ q : Nat, A q → sb.1 ≤ q := fun q h => by
    rw [← hAe] at h
    rcases h with ⟨k, e, h⟩ | h
    · exact hD0.2 k _ h
    · exact Nat.le_trans hB0 h
  have hS : va_S A s.heap s.heap [] := va_S.rf
  have hcs : 1 ≤ (headSpec w_Reader_issuerKey ({ frames := 3, cells := 1, slots := 3, locals := 71 })).room.cells ∧ 3 ≤ (headSpec w_Reader_issuerKey ({ frames := 3, cells := 1, slots := 3, locals := 71 })).room.slots := ⟨Nat.le_refl _, Nat.le_refl _⟩
  have hP : va_P (dC, dI) classes [(h, .inr (5, [.ref res, .int ie, .ref t, .int (nI x.1), .int (nI x.2.1), .int (wI x.2.2), .int pa, .int ma, .int ex, .ref ki])), (t, .inl (cB, n, .inl (tx u)))] s.heap := hP
  have hl := lv_entry ([.ref h, .int (nI en)]) (n := 4) (Nat.le_of_ble_eq_true rfl)
  rw [lg_entry_eq]
  generalize (lg_sl ([.ref h, .int (nI en)]) ++ List.replicate (4 - (lg_sl ([.ref h, .int (nI en)])).length) Slot.unset).toArray = ls at hl ⊢
  have hl : lv_has ls 4 [(0, .ref h), (1, .int (nI en))] := hl
  refine lv_aload_n hx hb d_Reader_issuerKey_0 rfl (lv_at hl 0 rfl) ?_
  refine lv_bipush (v := 48) hx hb d_Reader_issuerKey_1 (by decide) ?_
  refine lv_iload_n hx hb d_Reader_issuerKey_3 rfl (lv_at hl 1 rfl) ?_
  have hFc := va_free (wc := [(h, .inr (5, [.ref res, .int ie, .ref t, .int (nI x.1), .int (nI x.2.1), .int (wI x.2.2), .int pa, .int ma, .int ex, .ref ki])), (t, .inl (cB, n, .inl (tx u)))]) hD hS hA [0, 1] rfl
  refine va_calli (mu_runU (As := [.int 48, .int (nI en)]) (rest := []) ⟨hx, hb, hml, hown, hts⟩ (cL_open l dC dI sb h res t ki x.1 x.2.1 n x.2.2 pa ma ex ie cB u 48 en s.heap.size hu hn ((hi).w hn) he (hi).1 (by decide)) (cu_of (n := 2) hts tbin q3_130 q9_192 q3_112 q9_194 q1_15 q3_113 rfl (by decide +kernel) ⟨rfl, rfl⟩ ⟨Nat.le_of_ble_eq_true rfl, Nat.le_of_ble_eq_true rfl⟩) rfl ⟨Nat.le_of_ble_eq_true rfl, Nat.le_of_ble_eq_true rfl⟩ hN (hT0.keep hS hAs) hAs (Nat.le_trans hB0 hS.1) hK hP hD [0, 1] (by decide) rfl [0] rfl 0 5 rfl rfl rfl hl.1 rfl (Nat.le_of_ble_eq_true rfl) d_Reader_issuerKey_4) hS (fun q _ h => hFc q h) hFc (fun r4 u4 tS H4 locs ht hvm hw4 hB hz1 hk1 hS => ?_)
  obtain ⟨x4, rfl⟩ : ∃ z, z = u4 := ⟨_, rfl⟩
  obtain ⟨hP1, hK1, hD1⟩ := hB
  rw [ht] at hP1
  obtain ⟨hP, hD⟩ := va_join (wr := []) (w1 := [(h, .inr (5, [.ref res, .int ie, .ref t, .int (nI x4.1), .int (nI x4.2.1), .int (wI x4.2.2), .int pa, .int ma, .int ex, .ref ki])), (t, .inl (cB, n, .inl (tx u)))]) hP hD [0, 1] [] rfl rfl (by decide) (by decide) hk1 hFc hP1 hD1
  have hP : va_P (dC, dI) classes [(h, .inr (5, [.ref res, .int ie, .ref t, .int (nI x4.1), .int (nI x4.2.1), .int (wI x4.2.2), .int pa, .int ma, .int ex, .ref ki])), (t, .inl (cB, n, .inl (tx u)))] H4 := hP
  have hD : va_D A [(h, .inr (5, [.ref res, .int ie, .ref t, .int (nI x4.1), .int (nI x4.2.1), .int (wI x4.2.2), .int pa, .int ma, .int ex, .ref ki])), (t, .inl (cB, n, .inl (tx u)))] := hD
  have hw4 : x4 = (rd_opn u n x 48 en).1 ∧ r4 = nI (rd_opn u n x 48 en).2 := hw4
  have hi4 := opn_inv (u := u) (tg := 48) hi he
  obtain ⟨o4, ho4⟩ : ∃ o, o = rd_opn u n x 48 en := ⟨_, rfl⟩
  rw [← ho4] at hw4 hi4
  obtain ⟨rfl, rfl⟩ := hw4
  have hP : va_P (dC, dI) classes [(h, .inr (5, [.ref res, .int ie, .ref t, .int (nI o4.1.1), .int (nI o4.1.2.1), .int (wI o4.1.2.2), .int pa, .int ma, .int ex, .ref ki])), (t, .inl (cB, n, .inl (tx u)))] H4 := hP
  have hD : va_D A [(h, .inr (5, [.ref res, .int ie, .ref t, .int (nI o4.1.1), .int (nI o4.1.2.1), .int (wI o4.1.2.2), .int pa, .int ma, .int ex, .ref ki])), (t, .inl (cB, n, .inl (tx u)))] := hD
  refine lv_istore_n (lv' := [(2, .int (nI o4.2)), (0, .ref h), (1, .int (nI en))]) hx hb d_Reader_issuerKey_7 rfl hl (by decide) rfl (fun ls hl => ?_)
  refine lv_aload_n hx hb d_Reader_issuerKey_8 rfl (lv_at hl 1 rfl) ?_
  refine lv_sipush (v := 128) hx hb d_Reader_issuerKey_9 (by decide) ?_
  refine lv_iconst (v := 1) hx hb d_Reader_issuerKey_12 (by decide) ?_
  refine lv_iload_n hx hb d_Reader_issuerKey_13 rfl (lv_at hl 0 rfl) ?_
  have hFc := va_free (wc := [(h, .inr (5, [.ref res, .int ie, .ref t, .int (nI o4.1.1), .int (nI o4.1.2.1), .int (wI o4.1.2.2), .int pa, .int ma, .int ex, .ref ki])), (t, .inl (cB, n, .inl (tx u)))]) hD hS hA [0, 1] rfl
  refine va_callr (mu_runU (As := [.int 128, .int 1, .int (nI o4.2)]) (rest := []) ⟨hx, hb, hml, hown, hts⟩ (cL_plain l dC dI sb h res t ki n o4.1 pa ma ex ie cB u 128 1 o4.2 H4.size hu hn hi4.1 hi4.2.2.1 (by decide) (by decide)) (cu_of (n := 3) hts tbin q4_186 q9_209 q4_85 q9_211 q1_15 q4_86 rfl (by decide +kernel) ⟨rfl, rfl⟩ ⟨Nat.le_of_ble_eq_true rfl, Nat.le_of_ble_eq_true rfl⟩) rfl ⟨Nat.le_of_ble_eq_true rfl, Nat.le_of_ble_eq_true rfl⟩ hN (hT0.keep hS hAs) hAs (Nat.le_trans hB0 hS.1) hK hP hD [0, 1] (by decide) rfl [0] rfl 0 5 rfl rfl rfl hl.1 rfl (Nat.le_of_ble_eq_true rfl) d_Reader_issuerKey_14) hS (fun q _ h => hFc q h) hFc (fun u14 q14 tS H14 locs ht hvm hw14 hB hz1 hk1 hS => ?_)
  obtain ⟨x14, rfl⟩ : ∃ z, z = u14 := ⟨_, rfl⟩
  obtain ⟨hP1, hK1, hD1⟩ := hB
  rw [ht] at hP1
  obtain ⟨hP, hD⟩ := va_join (wr := []) (w1 := [(h, .inr (5, [.ref res, .int ie, .ref t, .int (nI x14.1), .int (nI x14.2.1), .int (wI x14.2.2), .int pa, .int ma, .int ex, .ref ki])), (t, .inl (cB, n, .inl (tx u))), (q14, .inr (0, [.ref t, .int (nI (rd_plain u n o4.1 128 1 o4.2).2.1), .int (nI (rd_plain u n o4.1 128 1 o4.2).2.2)]))]) hP hD [0, 1] [] rfl rfl (by decide) (by decide) hk1 hFc hP1 hD1
  have hP : va_P (dC, dI) classes [(h, .inr (5, [.ref res, .int ie, .ref t, .int (nI x14.1), .int (nI x14.2.1), .int (wI x14.2.2), .int pa, .int ma, .int ex, .ref ki])), (t, .inl (cB, n, .inl (tx u))), (q14, .inr (0, [.ref t, .int (nI (rd_plain u n o4.1 128 1 o4.2).2.1), .int (nI (rd_plain u n o4.1 128 1 o4.2).2.2)]))] H14 := hP
  have hD : va_D A [(h, .inr (5, [.ref res, .int ie, .ref t, .int (nI x14.1), .int (nI x14.2.1), .int (wI x14.2.2), .int pa, .int ma, .int ex, .ref ki])), (t, .inl (cB, n, .inl (tx u))), (q14, .inr (0, [.ref t, .int (nI (rd_plain u n o4.1 128 1 o4.2).2.1), .int (nI (rd_plain u n o4.1 128 1 o4.2).2.2)]))] := hD
  have hi14 := plain_inv (u := u) (tg := 128) (le := 1) hi4.1 hi4.2.2.1
  obtain ⟨z14, hz14⟩ : ∃ o, o = rd_plain u n o4.1 128 1 o4.2 := ⟨_, rfl⟩
  rw [← hz14] at hw14 hi14 hP hD
  subst hw14
  have hP : va_P (dC, dI) classes [(h, .inr (5, [.ref res, .int ie, .ref t, .int (nI z14.1.1), .int (nI z14.1.2.1), .int (wI z14.1.2.2), .int pa, .int ma, .int ex, .ref ki])), (t, .inl (cB, n, .inl (tx u))), (q14, .inr (0, [.ref t, .int (nI z14.2.1), .int (nI z14.2.2)]))] H14 := hP
  have hD : va_D A [(h, .inr (5, [.ref res, .int ie, .ref t, .int (nI z14.1.1), .int (nI z14.1.2.1), .int (wI z14.1.2.2), .int pa, .int ma, .int ex, .ref ki])), (t, .inl (cB, n, .inl (tx u))), (q14, .inr (0, [.ref t, .int (nI z14.2.1), .int (nI z14.2.2)]))] := hD
  refine lv_astore_n (lv' := [(3, .ref q14), (2, .int (nI o4.2)), (0, .ref h), (1, .int (nI en))]) hx hb d_Reader_issuerKey_17 rfl hl (by decide) rfl (fun ls hl => ?_)
  refine lv_aload_n hx hb d_Reader_issuerKey_18 rfl (lv_at hl 2 rfl) ?_
  refine lv_iload_n hx hb d_Reader_issuerKey_19 rfl (lv_at hl 1 rfl) ?_
  have hFc := va_free (wc := [(h, .inr (5, [.ref res, .int ie, .ref t, .int (nI z14.1.1), .int (nI z14.1.2.1), .int (wI z14.1.2.2), .int pa, .int ma, .int ex, .ref ki]))]) hD hS hA [0] rfl
  refine va_callv (mu_runU (As := [.int (nI o4.2)]) (rest := []) ⟨hx, hb, hml, hown, hts⟩ (cL_finish l dC dI sb h res t ki z14.1.1 z14.1.2.1 n z14.1.2.2 pa ma ex ie cB u o4.2 H14.size ((hi14.1).w hn) (by have := (hi14.1).1; omega) (by have := hi4.2.2.1; omega)) (cu_of (n := 1) hts tbin q3_183 q9_201 q3_163 q9_203 q1_15 q3_164 rfl (by decide +kernel) ⟨rfl, rfl⟩ ⟨Nat.le_of_ble_eq_true rfl, Nat.le_of_ble_eq_true rfl⟩) rfl ⟨Nat.le_of_ble_eq_true rfl, Nat.le_of_ble_eq_true rfl⟩ hN (hT0.keep hS hAs) hAs (Nat.le_trans hB0 hS.1) hK hP hD [0] (by decide) rfl [] rfl 0 5 rfl rfl rfl hl.1 rfl (Nat.le_of_ble_eq_true rfl) d_Reader_issuerKey_20) hS (fun q _ h => hFc q h) hFc (fun u20 tS H20 locs ht hvm hw20 hB hz1 hk1 hS => ?_)
  obtain ⟨x20, rfl⟩ : ∃ z, z = u20 := ⟨_, rfl⟩
  obtain ⟨hP1, hK1, hD1⟩ := hB
  rw [ht] at hP1
  obtain ⟨hP, hD⟩ := va_join (wr := [(t, .inl (cB, n, .inl (tx u))), (q14, .inr (0, [.ref t, .int (nI z14.2.1), .int (nI z14.2.2)]))]) (w1 := [(h, .inr (5, [.ref res, .int ie, .ref t, .int (nI x20.1), .int (nI x20.2.1), .int (wI x20.2.2), .int pa, .int ma, .int ex, .ref ki]))]) hP hD [0] [1, 2] rfl rfl (by decide) (by decide) hk1 hFc hP1 hD1
  have hP : va_P (dC, dI) classes [(t, .inl (cB, n, .inl (tx u))), (q14, .inr (0, [.ref t, .int (nI z14.2.1), .int (nI z14.2.2)])), (h, .inr (5, [.ref res, .int ie, .ref t, .int (nI x20.1), .int (nI x20.2.1), .int (wI x20.2.2), .int pa, .int ma, .int ex, .ref ki]))] H20 := hP
  have hD : va_D A [(t, .inl (cB, n, .inl (tx u))), (q14, .inr (0, [.ref t, .int (nI z14.2.1), .int (nI z14.2.2)])), (h, .inr (5, [.ref res, .int ie, .ref t, .int (nI x20.1), .int (nI x20.2.1), .int (wI x20.2.2), .int pa, .int ma, .int ex, .ref ki]))] := hD
  have hw20 : x20 = rd_fin z14.1 o4.2 := hw20
  have hi20 : rdInv n x20 := by rw [hw20]; exact fin_inv hi14.1
  refine lv_aload_n hx hb d_Reader_issuerKey_23 rfl (lv_at hl 0 rfl) ?_
  subst hz14
  subst ho4
  exact W.aret (v := .ref q14) hx hb hr (Or.inl ⟨_, rfl⟩) (Or.inr ⟨_, rfl⟩) (fun t ht hW => ⟨⟨x20, q14, rfl, hw20, by rw [ht]; exact hP.sub [2, 0, 1] rfl, va_K.moved hW.alike hK, hD.sub [2, 0, 1] (by decide) rfl⟩, hS.F ht⟩) hS.2.2 d_Reader_issuerKey_24
