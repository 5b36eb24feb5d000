/-! The readers on an empty text. -/
theorem bz_fit {r : Int32} {P : Prop} (h : bz r P) : fits .boolean (.int r) = true := by
  rcases h with ⟨h1, _⟩ | ⟨h1, _⟩ <;> rw [h1] <;> rfl
def eU : Nat → Nat := fun _ => 0
theorem eU_lt : ∀ j, eU j < 256 := fun _ => Nat.zero_lt_succ _
theorem ew_0 : ∀ k, (some 0 : Option Nat) = some k → k < 2 ^ 31 := fun k q => by cases q; decide
theorem ew_n : ∀ k, (none : Option Nat) = some k → k < 2 ^ 31 := fun k q => nomatch q
theorem ei_0 : rdInv 0 (0, 0, some 0) := ⟨Nat.le_refl _, Nat.le_refl _, fun k q => by cases q; exact Nat.le_refl _⟩
theorem ei_n : rdInv 0 (0, 0, none) := ⟨Nat.le_refl _, Nat.le_refl _, fun k q => nomatch q⟩
theorem sl_e (i : Int32) : sl_at eU 0 0 i = -1 := by
  by_cases h : i < 0
  · exact (sl_at_1 h).symm
  · obtain ⟨k, hk, rfl⟩ := nI_of h
    rw [sl_at_nI hk, if_neg (by omega)]
def y_Reader_name : MethodName := ⟨"TrustChain$Reader", "name", "(I)LTrustChain$Slice;"⟩
abbrev b_Reader_name : ByteArray := prog_8_method_17_code
def w_Reader_name : List Cond := Cond.code y_Reader_name b_Reader_name 11 ((some (FieldType.object "TrustChain$Slice"))) :: tb
theorem d_Reader_name_0 : decode b_Reader_name 0 = .ok (.aload_n 0, 1) := by decide +kernel
theorem d_Reader_name_1 : decode b_Reader_name 1 = .ok (.bipush 48, 2) := by decide +kernel
theorem d_Reader_name_3 : decode b_Reader_name 3 = .ok (.iload_n 1, 1) := by decide +kernel
theorem d_Reader_name_4 : decode b_Reader_name 4 = .ok (.invokevirtual 49, 3) := by decide +kernel
theorem d_Reader_name_7 : decode b_Reader_name 7 = .ok (.istore_n 2, 1) := by decide +kernel
theorem d_Reader_name_8 : decode b_Reader_name 8 = .ok (.aload_n 0, 1) := by decide +kernel
theorem d_Reader_name_9 : decode b_Reader_name 9 = .ok (.getfield 9, 3) := by decide +kernel
theorem d_Reader_name_12 : decode b_Reader_name 12 = .ok (.istore_n 3, 1) := by decide +kernel
theorem d_Reader_name_13 : decode b_Reader_name 13 = .ok (.aload_n 0, 1) := by decide +kernel
theorem d_Reader_name_14 : decode b_Reader_name 14 = .ok (.iconst 0, 1) := by decide +kernel
theorem d_Reader_name_15 : decode b_Reader_name 15 = .ok (.putfield 21, 3) := by decide +kernel
theorem d_Reader_name_18 : decode b_Reader_name 18 = .ok (.iconst 0, 1) := by decide +kernel
theorem d_Reader_name_19 : decode b_Reader_name 19 = .ok (.istore 4, 2) := by decide +kernel
theorem d_Reader_name_21 : decode b_Reader_name 21 = .ok (.iload 4, 2) := by decide +kernel
theorem d_Reader_name_23 : decode b_Reader_name 23 = .ok (.sipush 2048, 3) := by decide +kernel
theorem d_Reader_name_26 : decode b_Reader_name 26 = .ok (.if_icmp .ge 189, 3) := by decide +kernel
theorem d_Reader_name_29 : decode b_Reader_name 29 = .ok (.aload_n 0, 1) := by decide +kernel
theorem d_Reader_name_30 : decode b_Reader_name 30 = .ok (.iload_n 2, 1) := by decide +kernel
theorem d_Reader_name_31 : decode b_Reader_name 31 = .ok (.invokevirtual 41, 3) := by decide +kernel
theorem d_Reader_name_34 : decode b_Reader_name 34 = .ok (.ifCond .eq 181, 3) := by decide +kernel
theorem d_Reader_name_37 : decode b_Reader_name 37 = .ok (.aload_n 0, 1) := by decide +kernel
theorem d_Reader_name_38 : decode b_Reader_name 38 = .ok (.bipush 49, 2) := by decide +kernel
theorem d_Reader_name_40 : decode b_Reader_name 40 = .ok (.iload_n 2, 1) := by decide +kernel
theorem d_Reader_name_41 : decode b_Reader_name 41 = .ok (.invokevirtual 49, 3) := by decide +kernel
theorem d_Reader_name_44 : decode b_Reader_name 44 = .ok (.istore 5, 2) := by decide +kernel
theorem d_Reader_name_46 : decode b_Reader_name 46 = .ok (.aload_n 0, 1) := by decide +kernel
theorem d_Reader_name_47 : decode b_Reader_name 47 = .ok (.bipush 48, 2) := by decide +kernel
theorem d_Reader_name_49 : decode b_Reader_name 49 = .ok (.iload 5, 2) := by decide +kernel
theorem d_Reader_name_51 : decode b_Reader_name 51 = .ok (.invokevirtual 49, 3) := by decide +kernel
theorem d_Reader_name_54 : decode b_Reader_name 54 = .ok (.istore 6, 2) := by decide +kernel
theorem d_Reader_name_56 : decode b_Reader_name 56 = .ok (.aload_n 0, 1) := by decide +kernel
theorem d_Reader_name_57 : decode b_Reader_name 57 = .ok (.bipush 6, 2) := by decide +kernel
theorem d_Reader_name_59 : decode b_Reader_name 59 = .ok (.iload 6, 2) := by decide +kernel
theorem d_Reader_name_61 : decode b_Reader_name 61 = .ok (.invokevirtual 49, 3) := by decide +kernel
theorem d_Reader_name_64 : decode b_Reader_name 64 = .ok (.istore 7, 2) := by decide +kernel
theorem d_Reader_name_66 : decode b_Reader_name 66 = .ok (.aload_n 0, 1) := by decide +kernel
theorem d_Reader_name_67 : decode b_Reader_name 67 = .ok (.iload 7, 2) := by decide +kernel
theorem d_Reader_name_69 : decode b_Reader_name 69 = .ok (.aload_n 0, 1) := by decide +kernel
theorem d_Reader_name_70 : decode b_Reader_name 70 = .ok (.aload_n 0, 1) := by decide +kernel
theorem d_Reader_name_71 : decode b_Reader_name 71 = .ok (.getfield 9, 3) := by decide +kernel
theorem d_Reader_name_74 : decode b_Reader_name 74 = .ok (.iload 7, 2) := by decide +kernel
theorem d_Reader_name_76 : decode b_Reader_name 76 = .ok (.invokevirtual 85, 3) := by decide +kernel
theorem d_Reader_name_79 : decode b_Reader_name 79 = .ok (.invokevirtual 53, 3) := by decide +kernel
theorem d_Reader_name_82 : decode b_Reader_name 82 = .ok (.aload_n 0, 1) := by decide +kernel
theorem d_Reader_name_83 : decode b_Reader_name 83 = .ok (.bipush 12, 2) := by decide +kernel
theorem d_Reader_name_85 : decode b_Reader_name 85 = .ok (.iload 6, 2) := by decide +kernel
theorem d_Reader_name_87 : decode b_Reader_name 87 = .ok (.invokevirtual 89, 3) := by decide +kernel
theorem d_Reader_name_90 : decode b_Reader_name 90 = .ok (.ifCond .eq 8, 3) := by decide +kernel
theorem d_Reader_name_93 : decode b_Reader_name 93 = .ok (.bipush 12, 2) := by decide +kernel
theorem d_Reader_name_95 : decode b_Reader_name 95 = .ok (.goto 21, 3) := by decide +kernel
theorem d_Reader_name_98 : decode b_Reader_name 98 = .ok (.aload_n 0, 1) := by decide +kernel
theorem d_Reader_name_99 : decode b_Reader_name 99 = .ok (.bipush 22, 2) := by decide +kernel
theorem d_Reader_name_101 : decode b_Reader_name 101 = .ok (.iload 6, 2) := by decide +kernel
theorem d_Reader_name_103 : decode b_Reader_name 103 = .ok (.invokevirtual 89, 3) := by decide +kernel
theorem d_Reader_name_106 : decode b_Reader_name 106 = .ok (.ifCond .eq 8, 3) := by decide +kernel
theorem d_Reader_name_109 : decode b_Reader_name 109 = .ok (.bipush 22, 2) := by decide +kernel
theorem d_Reader_name_111 : decode b_Reader_name 111 = .ok (.goto 5, 3) := by decide +kernel
theorem d_Reader_name_114 : decode b_Reader_name 114 = .ok (.bipush 19, 2) := by decide +kernel
theorem d_Reader_name_116 : decode b_Reader_name 116 = .ok (.istore 8, 2) := by decide +kernel
theorem d_Reader_name_118 : decode b_Reader_name 118 = .ok (.aload_n 0, 1) := by decide +kernel
theorem d_Reader_name_119 : decode b_Reader_name 119 = .ok (.iload 8, 2) := by decide +kernel
theorem d_Reader_name_121 : decode b_Reader_name 121 = .ok (.iload 6, 2) := by decide +kernel
theorem d_Reader_name_123 : decode b_Reader_name 123 = .ok (.invokevirtual 49, 3) := by decide +kernel
theorem d_Reader_name_126 : decode b_Reader_name 126 = .ok (.istore 9, 2) := by decide +kernel
theorem d_Reader_name_128 : decode b_Reader_name 128 = .ok (.iload 8, 2) := by decide +kernel
theorem d_Reader_name_130 : decode b_Reader_name 130 = .ok (.bipush 12, 2) := by decide +kernel
theorem d_Reader_name_132 : decode b_Reader_name 132 = .ok (.if_icmp .ne 16, 3) := by decide +kernel
theorem d_Reader_name_135 : decode b_Reader_name 135 = .ok (.aload_n 0, 1) := by decide +kernel
theorem d_Reader_name_136 : decode b_Reader_name 136 = .ok (.aload_n 0, 1) := by decide +kernel
theorem d_Reader_name_137 : decode b_Reader_name 137 = .ok (.getfield 9, 3) := by decide +kernel
theorem d_Reader_name_140 : decode b_Reader_name 140 = .ok (.iload 9, 2) := by decide +kernel
theorem d_Reader_name_142 : decode b_Reader_name 142 = .ok (.invokevirtual 92, 3) := by decide +kernel
theorem d_Reader_name_145 : decode b_Reader_name 145 = .ok (.goto 15, 3) := by decide +kernel
theorem d_Reader_name_148 : decode b_Reader_name 148 = .ok (.aload_n 0, 1) := by decide +kernel
theorem d_Reader_name_149 : decode b_Reader_name 149 = .ok (.iload 8, 2) := by decide +kernel
theorem d_Reader_name_151 : decode b_Reader_name 151 = .ok (.aload_n 0, 1) := by decide +kernel
theorem d_Reader_name_152 : decode b_Reader_name 152 = .ok (.getfield 9, 3) := by decide +kernel
theorem d_Reader_name_155 : decode b_Reader_name 155 = .ok (.iload 9, 2) := by decide +kernel
theorem d_Reader_name_157 : decode b_Reader_name 157 = .ok (.invokevirtual 95, 3) := by decide +kernel
theorem d_Reader_name_160 : decode b_Reader_name 160 = .ok (.istore 10, 2) := by decide +kernel
theorem d_Reader_name_162 : decode b_Reader_name 162 = .ok (.aload_n 0, 1) := by decide +kernel
theorem d_Reader_name_163 : decode b_Reader_name 163 = .ok (.iload 9, 2) := by decide +kernel
theorem d_Reader_name_165 : decode b_Reader_name 165 = .ok (.iload 9, 2) := by decide +kernel
theorem d_Reader_name_167 : decode b_Reader_name 167 = .ok (.aload_n 0, 1) := by decide +kernel
theorem d_Reader_name_168 : decode b_Reader_name 168 = .ok (.getfield 9, 3) := by decide +kernel
theorem d_Reader_name_171 : decode b_Reader_name 171 = .ok (.if_icmp .le 12, 3) := by decide +kernel
theorem d_Reader_name_174 : decode b_Reader_name 174 = .ok (.iload 10, 2) := by decide +kernel
theorem d_Reader_name_176 : decode b_Reader_name 176 = .ok (.ifCond .eq 7, 3) := by decide +kernel
theorem d_Reader_name_179 : decode b_Reader_name 179 = .ok (.iconst 1, 1) := by decide +kernel
theorem d_Reader_name_180 : decode b_Reader_name 180 = .ok (.goto 4, 3) := by decide +kernel
theorem d_Reader_name_183 : decode b_Reader_name 183 = .ok (.iconst 0, 1) := by decide +kernel
theorem d_Reader_name_184 : decode b_Reader_name 184 = .ok (.invokevirtual 53, 3) := by decide +kernel
theorem d_Reader_name_187 : decode b_Reader_name 187 = .ok (.aload_n 0, 1) := by decide +kernel
theorem d_Reader_name_188 : decode b_Reader_name 188 = .ok (.iload 6, 2) := by decide +kernel
theorem d_Reader_name_190 : decode b_Reader_name 190 = .ok (.invokevirtual 81, 3) := by decide +kernel
theorem d_Reader_name_193 : decode b_Reader_name 193 = .ok (.aload_n 0, 1) := by decide +kernel
theorem d_Reader_name_194 : decode b_Reader_name 194 = .ok (.iload 5, 2) := by decide +kernel
theorem d_Reader_name_196 : decode b_Reader_name 196 = .ok (.invokevirtual 81, 3) := by decide +kernel
theorem d_Reader_name_199 : decode b_Reader_name 199 = .ok (.aload_n 0, 1) := by decide +kernel
theorem d_Reader_name_200 : decode b_Reader_name 200 = .ok (.dup, 1) := by decide +kernel
theorem d_Reader_name_201 : decode b_Reader_name 201 = .ok (.getfield 21, 3) := by decide +kernel
theorem d_Reader_name_204 : decode b_Reader_name 204 = .ok (.iconst 1, 1) := by decide +kernel
theorem d_Reader_name_205 : decode b_Reader_name 205 = .ok (.iadd, 1) := by decide +kernel
theorem d_Reader_name_206 : decode b_Reader_name 206 = .ok (.putfield 21, 3) := by decide +kernel
theorem d_Reader_name_209 : decode b_Reader_name 209 = .ok (.iinc 4 1, 3) := by decide +kernel
theorem d_Reader_name_212 : decode b_Reader_name 212 = .ok (.goto (-191), 3) := by decide +kernel
theorem d_Reader_name_215 : decode b_Reader_name 215 = .ok (.new 57, 3) := by decide +kernel
theorem d_Reader_name_218 : decode b_Reader_name 218 = .ok (.dup, 1) := by decide +kernel
theorem d_Reader_name_219 : decode b_Reader_name 219 = .ok (.aload_n 0, 1) := by decide +kernel
theorem d_Reader_name_220 : decode b_Reader_name 220 = .ok (.getfield 37, 3) := by decide +kernel
theorem d_Reader_name_223 : decode b_Reader_name 223 = .ok (.iload_n 3, 1) := by decide +kernel
theorem d_Reader_name_224 : decode b_Reader_name 224 = .ok (.iload_n 2, 1) := by decide +kernel
theorem d_Reader_name_225 : decode b_Reader_name 225 = .ok (.invokespecial 59, 3) := by decide +kernel
theorem d_Reader_name_228 : decode b_Reader_name 228 = .ok (.areturn, 1) := by decide +kernel
set_option maxHeartbeats 4000000 in
set_option maxRecDepth 100000 in
theorem eC_name (l : Launch) (dC : Nat → ClassId) (dI : Nat → Nat → Nat) (sb : sB) (h res t ki : Nat) (pa ma ex : Int32) (cB : ClassId) (sz : Nat) : Met l y_Reader_name w_Reader_name ({ frames := 2, cells := 1, slots := 3, locals := 46 }) (mu_P [.ref h, .int (nI 0)] (dC, dI) sb [(h, .inr (4, [.ref res, .ref t, .int (nI 0), .int (nI 0), .int (wI (some 0)), .int pa, .int ma, .int ex, .ref ki])), (t, .inl (cB, 0, .inl (tx eU)))] [(cB, .byte)] sz) (va_Qr (fun (_u : Unit) => True) (mu_Br (dC, dI) [(cB, .byte)] (va_A [(h, .inr (4, [.ref res, .ref t, .int (nI 0), .int (nI 0), .int (wI (some 0)), .int pa, .int ma, .int ex, .ref ki])), (t, .inl (cB, 0, .inl (tx eU)))] sz) (fun (_ : Unit) (q : Nat) => [(h, .inr (4, [.ref res, .ref t, .int (nI 0), .int (nI 0), .int (wI (some 0)), .int 0, .int ma, .int ex, .ref ki])), (t, .inl (cB, 0, .inl (tx eU))), (q, .inr (0, [.ref t, .int (nI 0), .int (nI 0)]))])) (va_A [(h, .inr (4, [.ref res, .ref t, .int (nI 0), .int (nI 0), .int (wI (some 0)), .int pa, .int ma, .int ex, .ref ki])), (t, .inl (cB, 0, .inl (tx eU)))] sz)) 1 3 (va_A [(h, .inr (4, [.ref res, .ref t, .int (nI 0), .int (nI 0), .int (wI (some 0)), .int pa, .int ma, .int ex, .ref ki])), (t, .inl (cB, 0, .inl (tx eU)))] sz) := by
  refine Met.ofW (cc := b_Reader_name) (maxL := 11) (ret := (some (FieldType.object "TrustChain$Slice"))) (by decide) rfl ?_
  intro p e s m args below meth c s₁ B hml hv
  obtain ⟨rfl, hsz, hB0, hP, hK, hD0, hN, hT0⟩ := hv
  have hx := B.exec
  have hb := B.bytes
  have hr := B.returns
  have hts := atoms_spec (ws := w_Reader_name) B.pre
  have tbin : ∀ w ∈ tb, w ∈ w_Reader_name := fun w h => List.mem_cons_of_mem _ h
  have htb : ∀ w ∈ tb, w.before _ s = true := fun w h => hts w (tbin w h)
  have hown : s.vm.findClass "TrustChain$Reader" = some m.cls := findClass_of_methodNamed B.named
  have hlocks := B.notSynchronized
  subst hsz
  have hD := hD0.self (sz := s.heap.size)
  generalize hAe : va_A [(h, .inr (4, [.ref res, .ref t, .int (nI 0), .int (nI 0), .int (wI (some 0)), .int pa, .int ma, .int ex, .ref ki])), (t, .inl (cB, 0, .inl (tx eU)))] s.heap.size = A at hD ⊢
  have hA : ∀ q : Nat, s.heap.size ≤ q → A q := fun q h => by rw [← hAe]; exact Or.inr h
  have hAs : ∀ q : Nat, A q → sb.1 ≤ q := fun q h => by
    rw [← hAe] at h
    rcases h with ⟨k, e, h⟩ | h
    · exact hD0.2 k _ h
    · exact Nat.le_trans hB0 h
  have hS : va_S A s.heap s.heap [] := va_S.rf
  have hcs : 1 ≤ (headSpec w_Reader_name ({ frames := 2, cells := 1, slots := 3, locals := 46 })).room.cells ∧ 3 ≤ (headSpec w_Reader_name ({ frames := 2, cells := 1, slots := 3, locals := 46 })).room.slots := ⟨Nat.le_refl _, Nat.le_refl _⟩
  have hP : va_P (dC, dI) classes [(h, .inr (4, [.ref res, .ref t, .int (nI 0), .int (nI 0), .int (wI (some 0)), .int pa, .int ma, .int ex, .ref ki])), (t, .inl (cB, 0, .inl (tx eU)))] s.heap := hP
  have hl := lv_entry ([.ref h, .int (nI 0)]) (n := 11) (Nat.le_of_ble_eq_true rfl)
  rw [lg_entry_eq]
  generalize (lg_sl ([.ref h, .int (nI 0)]) ++ List.replicate (11 - (lg_sl ([.ref h, .int (nI 0)])).length) Slot.unset).toArray = ls at hl ⊢
  have hl : lv_has ls 11 [(0, .ref h), (1, .int (nI 0))] := hl
  refine lv_aload_n hx hb d_Reader_name_0 rfl (lv_at hl 0 rfl) ?_
  refine lv_bipush (v := 48) hx hb d_Reader_name_1 (by decide) ?_
  refine lv_iload_n hx hb d_Reader_name_3 rfl (lv_at hl 1 rfl) ?_
  have hFc := va_free (wc := [(h, .inr (4, [.ref res, .ref t, .int (nI 0), .int (nI 0), .int (wI (some 0)), .int pa, .int ma, .int ex, .ref ki])), (t, .inl (cB, 0, .inl (tx eU)))]) hD hS hA [0, 1] rfl
  refine va_calli (mu_runU (As := [.int 48, .int (nI 0)]) (rest := []) ⟨hx, hb, hml, hown, hts⟩ (cC_open l dC dI sb h res t ki 0 0 0 (some 0) pa ma ex 0 cB eU 48 0 s.heap.size eU_lt (by decide) ew_0 (Nat.le_refl 0) (Nat.le_refl 0) (by decide)) (cu_of (n := 2) hts tbin q3_130 q9_192 q3_112 q9_193 q1_15 q3_113 rfl (by decide +kernel) ⟨rfl, rfl⟩ ⟨Nat.le_of_ble_eq_true rfl, Nat.le_of_ble_eq_true rfl⟩) rfl ⟨Nat.le_of_ble_eq_true rfl, Nat.le_of_ble_eq_true rfl⟩ hN (hT0.keep hS hAs) hAs (Nat.le_trans hB0 hS.1) hK hP hD [0, 1] (by decide) rfl [0] rfl 0 4 rfl rfl rfl hl.1 rfl (Nat.le_of_ble_eq_true rfl) d_Reader_name_4) hS (fun q _ h => hFc q h) hFc (fun r4 u4 tS H4 locs ht hvm hw4 hB hz1 hk1 hS => ?_)
  obtain ⟨x4, rfl⟩ : ∃ z, z = u4 := ⟨_, rfl⟩
  obtain ⟨hP1, hK1, hD1⟩ := hB
  rw [ht] at hP1
  obtain ⟨hP, hD⟩ := va_join (wr := []) (w1 := [(h, .inr (4, [.ref res, .ref t, .int (nI x4.1), .int (nI x4.2.1), .int (wI x4.2.2), .int pa, .int ma, .int ex, .ref ki])), (t, .inl (cB, 0, .inl (tx eU)))]) hP hD [0, 1] [] rfl rfl (by decide) (by decide) hk1 hFc hP1 hD1
  have hP : va_P (dC, dI) classes [(h, .inr (4, [.ref res, .ref t, .int (nI x4.1), .int (nI x4.2.1), .int (wI x4.2.2), .int pa, .int ma, .int ex, .ref ki])), (t, .inl (cB, 0, .inl (tx eU)))] H4 := hP
  have hD : va_D A [(h, .inr (4, [.ref res, .ref t, .int (nI x4.1), .int (nI x4.2.1), .int (wI x4.2.2), .int pa, .int ma, .int ex, .ref ki])), (t, .inl (cB, 0, .inl (tx eU)))] := hD
  obtain ⟨rfl, rfl⟩ : x4 = ((0, 0, some 0) : rS) ∧ r4 = nI 0 := hw4
  have hP : va_P (dC, dI) classes [(h, .inr (4, [.ref res, .ref t, .int (nI 0), .int (nI 0), .int (wI (some 0)), .int pa, .int ma, .int ex, .ref ki])), (t, .inl (cB, 0, .inl (tx eU)))] H4 := hP
  have hD : va_D A [(h, .inr (4, [.ref res, .ref t, .int (nI 0), .int (nI 0), .int (wI (some 0)), .int pa, .int ma, .int ex, .ref ki])), (t, .inl (cB, 0, .inl (tx eU)))] := hD
  refine lv_istore_n (lv' := [(2, .int (nI 0)), (0, .ref h), (1, .int (nI 0))]) hx hb d_Reader_name_7 rfl hl (by decide) rfl (fun ls hl => ?_)
  refine lv_aload_n hx hb d_Reader_name_8 rfl (lv_at hl 1 rfl) ?_
  refine va_get (v := .int (nI 0)) hx hb htb i_CertificateReader hown hK hP 0 rfl rfl 2 (by decide) (htb _ q3_62) (fun _ h9 => h9) rfl d_Reader_name_9 ?_
  refine lv_istore_n (lv' := [(3, .int (nI 0)), (2, .int (nI 0)), (0, .ref h), (1, .int (nI 0))]) hx hb d_Reader_name_12 rfl hl (by decide) rfl (fun ls hl => ?_)
  refine lv_aload_n hx hb d_Reader_name_13 rfl (lv_at hl 2 rfl) ?_
  refine lv_iconst (v := 0) hx hb d_Reader_name_14 (by decide) ?_
  refine va_put (v := .int 0) (ty := .int) hx hb htb i_CertificateReader t_CertificateReader t_CertificateReader_ok n_CertificateReader hown hK hP hD hS 0 rfl rfl 5 (by decide) (htb _ q3_73) (fun _ h9 => h9) rfl (by decide +kernel) rfl rfl (Nat.le_of_ble_eq_true rfl) d_Reader_name_15 (fun H15 locs hP hD hS => ?_)
  have hP : va_P (dC, dI) classes [(h, .inr (4, [.ref res, .ref t, .int (nI 0), .int (nI 0), .int (wI (some 0)), .int 0, .int ma, .int ex, .ref ki])), (t, .inl (cB, 0, .inl (tx eU)))] H15 := hP
  have hD : va_D A [(h, .inr (4, [.ref res, .ref t, .int (nI 0), .int (nI 0), .int (wI (some 0)), .int 0, .int ma, .int ex, .ref ki])), (t, .inl (cB, 0, .inl (tx eU)))] := hD
  refine lv_iconst (v := 0) hx hb d_Reader_name_18 (by decide) ?_
  refine lv_istore (lv' := [(4, .int 0), (3, .int (nI 0)), (2, .int (nI 0)), (0, .ref h), (1, .int (nI 0))]) hx hb d_Reader_name_19 hl (by decide) rfl (fun ls hl => ?_)
  refine lv_iload hx hb d_Reader_name_21 (lv_at hl 0 rfl) ?_
  refine lv_sipush (v := 2048) hx hb d_Reader_name_23 (by decide) ?_
  refine lv_icmp_ge (tgt := 215) hx hb d_Reader_name_26 (by decide) (fun c26 => ?_) (fun c26 => ?_)
  · exact absurd c26 (by decide)
  refine lv_aload_n hx hb d_Reader_name_29 rfl (lv_at hl 3 rfl) ?_
  refine lv_iload_n hx hb d_Reader_name_30 rfl (lv_at hl 2 rfl) ?_
  refine vp_callSi (pu_callU (As := [.int (nI 0)]) (rest := []) ⟨hx, hb, hml, hown, hts⟩ (cC_more l dC dI sb h res t ki 0 0 0 (some 0) 0 ma ex 0 cB eU 0 ew_0 (by decide) (by decide)) (cu_of (n := 1) hts tbin q3_196 q3_198 q3_197 q3_199 q1_15 q3_201 rfl (by decide +kernel) ⟨rfl, rfl⟩ ⟨Nat.le_of_ble_eq_true rfl, Nat.le_of_ble_eq_true rfl⟩) rfl ⟨Nat.le_of_ble_eq_true rfl, Nat.le_of_ble_eq_true rfl⟩ hN (hT0.keep hS hAs) hK hP [0] rfl [] rfl 0 4 rfl rfl rfl hl.1 rfl (Nat.le_of_ble_eq_true rfl) d_Reader_name_31) (fun r31 hr31 => ?_)
  refine lv_if_eq (tgt := 215) hx hb d_Reader_name_34 (by decide) (fun c34 => ?_) (fun c34 => ?_)
  rotate_left
  · exact nomatch (bz_1 hr31 c34).1
  refine va_new (ci := 0) (fs := [.null, .int 0, .int 0]) hx hb htb i_Slice t_Slice t_Slice_ok hown (htb _ q3_137) (htb _ q2_92) (htb _ q1_22) hK hP hD hS hA rfl (fun j hj => by rcases (show j = 0 ∨ j = 1 ∨ j = 2 by omega) with rfl | rfl | rfl <;> rfl) (Nat.le_of_ble_eq_true rfl) (Nat.le_of_ble_eq_true rfl) d_Reader_name_215 (fun q215 H215 hP hD hS => ?_)
  have hP : va_P (dC, dI) classes [(h, .inr (4, [.ref res, .ref t, .int (nI 0), .int (nI 0), .int (wI (some 0)), .int 0, .int ma, .int ex, .ref ki])), (t, .inl (cB, 0, .inl (tx eU))), (q215, .inr (0, [.null, .int 0, .int 0]))] H215 := hP
  have hD : va_D A [(h, .inr (4, [.ref res, .ref t, .int (nI 0), .int (nI 0), .int (wI (some 0)), .int 0, .int ma, .int ex, .ref ki])), (t, .inl (cB, 0, .inl (tx eU))), (q215, .inr (0, [.null, .int 0, .int 0]))] := hD
  refine lv_dup hx hb d_Reader_name_218 rfl ?_
  refine lv_aload_n hx hb d_Reader_name_219 rfl (lv_at hl 3 rfl) ?_
  refine va_get (v := .ref t) hx hb htb i_CertificateReader hown hK hP 0 rfl rfl 1 (by decide) (htb _ q3_57) (fun _ h9 => h9) rfl d_Reader_name_220 ?_
  refine lv_iload_n hx hb d_Reader_name_223 rfl (lv_at hl 1 rfl) ?_
  refine lv_iload_n hx hb d_Reader_name_224 rfl (lv_at hl 2 rfl) ?_
  have hFc := va_free (wc := [(q215, .inr (0, [.null, .int 0, .int 0]))]) hD hS hA [2] rfl
  refine va_callv (mu_runI (As := [.ref t, .int (nI 0), .int (nI 0)]) (rest := [.ref q215]) ⟨hx, hb, hml, hown, hts⟩ tbin (c_Slice_init l dC dI sb q215 t (nI 0) (nI 0) H215.size) q3_138 q2_94 q1_22 q2_95 rfl (n := 3) (by decide +kernel) rfl ⟨rfl, rfl⟩ ⟨Nat.le_of_ble_eq_true rfl, Nat.le_of_ble_eq_true rfl⟩ ⟨Nat.le_of_ble_eq_true rfl, Nat.le_of_ble_eq_true rfl⟩ hN (hT0.keep hS hAs) hAs (Nat.le_trans hB0 hS.1) hK hP hD [2] (by decide) rfl [] rfl hl.1 rfl (Nat.le_of_ble_eq_true rfl) d_Reader_name_225) hS (fun q _ h => hFc q h) hFc (fun u225 tS H225 locs ht hvm hw225 hB hz1 hk1 hS => ?_)
  skip
  obtain ⟨hP1, hK1, hD1⟩ := hB
  rw [ht] at hP1
  obtain ⟨hP, hD⟩ := va_join (wr := [(h, .inr (4, [.ref res, .ref t, .int (nI 0), .int (nI 0), .int (wI (some 0)), .int 0, .int ma, .int ex, .ref ki])), (t, .inl (cB, 0, .inl (tx eU)))]) (w1 := [(q215, .inr (0, [.ref t, .int (nI 0), .int (nI 0)]))]) hP hD [2] [0, 1] rfl rfl (by decide) (by decide) hk1 hFc hP1 hD1
  have hP : va_P (dC, dI) classes [(h, .inr (4, [.ref res, .ref t, .int (nI 0), .int (nI 0), .int (wI (some 0)), .int 0, .int ma, .int ex, .ref ki])), (t, .inl (cB, 0, .inl (tx eU))), (q215, .inr (0, [.ref t, .int (nI 0), .int (nI 0)]))] H225 := hP
  have hD : va_D A [(h, .inr (4, [.ref res, .ref t, .int (nI 0), .int (nI 0), .int (wI (some 0)), .int 0, .int ma, .int ex, .ref ki])), (t, .inl (cB, 0, .inl (tx eU))), (q215, .inr (0, [.ref t, .int (nI 0), .int (nI 0)]))] := hD
  exact W.aret (v := .ref q215) hx hb hr (Or.inl ⟨_, rfl⟩) (Or.inr ⟨_, rfl⟩) (fun t ht hW => ⟨⟨(), q215, rfl, trivial, by rw [ht]; exact hP, va_K.moved hW.alike hK, hD⟩, hS.F ht⟩) hS.2.2 d_Reader_name_228
def y_Reader_fullName : MethodName := ⟨"TrustChain$Reader", "fullName", "(I)LTrustChain$Slice;"⟩
abbrev b_Reader_fullName : ByteArray := prog_8_method_18_code
def w_Reader_fullName : List Cond := Cond.code y_Reader_fullName b_Reader_fullName 4 ((some (FieldType.object "TrustChain$Slice"))) :: tb
theorem d_Reader_fullName_0 : decode b_Reader_fullName 0 = .ok (.aload_n 0, 1) := by decide +kernel
theorem d_Reader_fullName_1 : decode b_Reader_fullName 1 = .ok (.getfield 9, 3) := by decide +kernel
theorem d_Reader_fullName_4 : decode b_Reader_fullName 4 = .ok (.istore_n 2, 1) := by decide +kernel
theorem d_Reader_fullName_5 : decode b_Reader_fullName 5 = .ok (.aload_n 0, 1) := by decide +kernel
theorem d_Reader_fullName_6 : decode b_Reader_fullName 6 = .ok (.iload_n 1, 1) := by decide +kernel
theorem d_Reader_fullName_7 : decode b_Reader_fullName 7 = .ok (.invokevirtual 99, 3) := by decide +kernel
theorem d_Reader_fullName_10 : decode b_Reader_fullName 10 = .ok (.astore_n 3, 1) := by decide +kernel
theorem d_Reader_fullName_11 : decode b_Reader_fullName 11 = .ok (.aload_n 3, 1) := by decide +kernel
theorem d_Reader_fullName_12 : decode b_Reader_fullName 12 = .ok (.invokevirtual 69, 3) := by decide +kernel
theorem d_Reader_fullName_15 : decode b_Reader_fullName 15 = .ok (.ifCond .ne 8, 3) := by decide +kernel
theorem d_Reader_fullName_18 : decode b_Reader_fullName 18 = .ok (.aload_n 0, 1) := by decide +kernel
theorem d_Reader_fullName_19 : decode b_Reader_fullName 19 = .ok (.iload_n 2, 1) := by decide +kernel
theorem d_Reader_fullName_20 : decode b_Reader_fullName 20 = .ok (.invokevirtual 103, 3) := by decide +kernel
theorem d_Reader_fullName_23 : decode b_Reader_fullName 23 = .ok (.aload_n 3, 1) := by decide +kernel
theorem d_Reader_fullName_24 : decode b_Reader_fullName 24 = .ok (.areturn, 1) := by decide +kernel
set_option maxHeartbeats 4000000 in
set_option maxRecDepth 100000 in
theorem eC_fullName (l : Launch) (dC : Nat → ClassId) (dI : Nat → Nat → Nat) (sb : sB) (h res t ki : Nat) (pa ma ex : Int32) (cB : ClassId) (sz : Nat) : Met l y_Reader_fullName w_Reader_fullName ({ frames := 3, cells := 1, slots := 3, locals := 76 }) (mu_P [.ref h, .int (nI 0)] (dC, dI) sb [(h, .inr (4, [.ref res, .ref t, .int (nI 0), .int (nI 0), .int (wI (some 0)), .int pa, .int ma, .int ex, .ref ki])), (t, .inl (cB, 0, .inl (tx eU)))] [(cB, .byte)] sz) (va_Qr (fun (_u : Unit) => True) (mu_Br (dC, dI) [(cB, .byte)] (va_A [(h, .inr (4, [.ref res, .ref t, .int (nI 0), .int (nI 0), .int (wI (some 0)), .int pa, .int ma, .int ex, .ref ki])), (t, .inl (cB, 0, .inl (tx eU)))] sz) (fun (_ : Unit) (q : Nat) => [(h, .inr (4, [.ref res, .ref t, .int (nI 0), .int (nI 0), .int (wI (some 0)), .int 0, .int ma, .int ex, .ref ki])), (t, .inl (cB, 0, .inl (tx eU))), (q, .inr (0, [.ref t, .int (nI 0), .int (nI 0)]))])) (va_A [(h, .inr (4, [.ref res, .ref t, .int (nI 0), .int (nI 0), .int (wI (some 0)), .int pa, .int ma, .int ex, .ref ki])), (t, .inl (cB, 0, .inl (tx eU)))] sz)) 1 3 (va_A [(h, .inr (4, [.ref res, .ref t, .int (nI 0), .int (nI 0), .int (wI (some 0)), .int pa, .int ma, .int ex, .ref ki])), (t, .inl (cB, 0, .inl (tx eU)))] sz) := by
  refine Met.ofW (cc := b_Reader_fullName) (maxL := 4) (ret := (some (FieldType.object "TrustChain$Slice"))) (by decide) rfl ?_
  intro p e s m args below meth c s₁ B hml hv
  obtain ⟨rfl, hsz, hB0, hP, hK, hD0, hN, hT0⟩ := hv
  have hx := B.exec
  have hb := B.bytes
  have hr := B.returns
  have hts := atoms_spec (ws := w_Reader_fullName) B.pre
  have tbin : ∀ w ∈ tb, w ∈ w_Reader_fullName := fun w h => List.mem_cons_of_mem _ h
  have htb : ∀ w ∈ tb, w.before _ s = true := fun w h => hts w (tbin w h)
  have hown : s.vm.findClass "TrustChain$Reader" = some m.cls := findClass_of_methodNamed B.named
  have hlocks := B.notSynchronized
  subst hsz
  have hD := hD0.self (sz := s.heap.size)
  generalize hAe : va_A [(h, .inr (4, [.ref res, .ref t, .int (nI 0), .int (nI 0), .int (wI (some 0)), .int pa, .int ma, .int ex, .ref ki])), (t, .inl (cB, 0, .inl (tx eU)))] s.heap.size = A at hD ⊢
  have hA : ∀ q : Nat, s.heap.size ≤ q → A q := fun q h => by rw [← hAe]; exact Or.inr h
  have hAs : ∀ q : Nat, A q → sb.1 ≤ q := fun q h => by
    rw [← hAe] at h
    rcases h with ⟨k, e, h⟩ | h
    · exact hD0.2 k _ h
    · exact Nat.le_trans hB0 h
  have hS : va_S A s.heap s.heap [] := va_S.rf
  have hcs : 1 ≤ (headSpec w_Reader_fullName ({ frames := 3, cells := 1, slots := 3, locals := 76 })).room.cells ∧ 3 ≤ (headSpec w_Reader_fullName ({ frames := 3, cells := 1, slots := 3, locals := 76 })).room.slots := ⟨Nat.le_refl _, Nat.le_refl _⟩
  have hP : va_P (dC, dI) classes [(h, .inr (4, [.ref res, .ref t, .int (nI 0), .int (nI 0), .int (wI (some 0)), .int pa, .int ma, .int ex, .ref ki])), (t, .inl (cB, 0, .inl (tx eU)))] s.heap := hP
  have hl := lv_entry ([.ref h, .int (nI 0)]) (n := 4) (Nat.le_of_ble_eq_true rfl)
  rw [lg_entry_eq]
  generalize (lg_sl ([.ref h, .int (nI 0)]) ++ List.replicate (4 - (lg_sl ([.ref h, .int (nI 0)])).length) Slot.unset).toArray = ls at hl ⊢
  have hl : lv_has ls 4 [(0, .ref h), (1, .int (nI 0))] := hl
  refine lv_aload_n hx hb d_Reader_fullName_0 rfl (lv_at hl 0 rfl) ?_
  refine va_get (v := .int (nI 0)) hx hb htb i_CertificateReader hown hK hP 0 rfl rfl 2 (by decide) (htb _ q3_62) (fun _ h9 => h9) rfl d_Reader_fullName_1 ?_
  refine lv_istore_n (lv' := [(2, .int (nI 0)), (0, .ref h), (1, .int (nI 0))]) hx hb d_Reader_fullName_4 rfl hl (by decide) rfl (fun ls hl => ?_)
  refine lv_aload_n hx hb d_Reader_fullName_5 rfl (lv_at hl 1 rfl) ?_
  refine lv_iload_n hx hb d_Reader_fullName_6 rfl (lv_at hl 2 rfl) ?_
  have hFc := va_free (wc := [(h, .inr (4, [.ref res, .ref t, .int (nI 0), .int (nI 0), .int (wI (some 0)), .int pa, .int ma, .int ex, .ref ki])), (t, .inl (cB, 0, .inl (tx eU)))]) hD hS hA [0, 1] rfl
  refine va_callr (mu_runU (As := [.int (nI 0)]) (rest := []) ⟨hx, hb, hml, hown, hts⟩ (eC_name l dC dI sb h res t ki pa ma ex cB s.heap.size) (cu_of (n := 1) hts tbin q3_190 q3_192 q3_191 q3_193 q1_15 q3_195 rfl (by decide +kernel) ⟨rfl, rfl⟩ ⟨Nat.le_of_ble_eq_true rfl, Nat.le_of_ble_eq_true rfl⟩) rfl ⟨Nat.le_of_ble_eq_true rfl, Nat.le_of_ble_eq_true rfl⟩ hN (hT0.keep hS hAs) hAs (Nat.le_trans hB0 hS.1) hK hP hD [0, 1] (by decide) rfl [0] rfl 0 4 rfl rfl rfl hl.1 rfl (Nat.le_of_ble_eq_true rfl) d_Reader_fullName_7) hS (fun q _ h => hFc q h) hFc (fun u7 q7 tS H7 locs ht hvm hw7 hB hz1 hk1 hS => ?_)
  skip
  obtain ⟨hP1, hK1, hD1⟩ := hB
  rw [ht] at hP1
  obtain ⟨hP, hD⟩ := va_join (wr := []) (w1 := [(h, .inr (4, [.ref res, .ref t, .int (nI 0), .int (nI 0), .int (wI (some 0)), .int 0, .int ma, .int ex, .ref ki])), (t, .inl (cB, 0, .inl (tx eU))), (q7, .inr (0, [.ref t, .int (nI 0), .int (nI 0)]))]) hP hD [0, 1] [] rfl rfl (by decide) (by decide) hk1 hFc hP1 hD1
  have hP : va_P (dC, dI) classes [(h, .inr (4, [.ref res, .ref t, .int (nI 0), .int (nI 0), .int (wI (some 0)), .int 0, .int ma, .int ex, .ref ki])), (t, .inl (cB, 0, .inl (tx eU))), (q7, .inr (0, [.ref t, .int (nI 0), .int (nI 0)]))] H7 := hP
  have hD : va_D A [(h, .inr (4, [.ref res, .ref t, .int (nI 0), .int (nI 0), .int (wI (some 0)), .int 0, .int ma, .int ex, .ref ki])), (t, .inl (cB, 0, .inl (tx eU))), (q7, .inr (0, [.ref t, .int (nI 0), .int (nI 0)]))] := hD
  refine lv_astore_n (lv' := [(3, .ref q7), (2, .int (nI 0)), (0, .ref h), (1, .int (nI 0))]) hx hb d_Reader_fullName_10 rfl hl (by decide) rfl (fun ls hl => ?_)
  refine lv_aload_n hx hb d_Reader_fullName_11 rfl (lv_at hl 0 rfl) ?_
  refine vp_callSi (pu_callV (As := []) (rest := []) ⟨hx, hb, hml, hown, hts⟩ tbin (c_Slice_length l dC dI sb q7 t 0 0 (Nat.le_refl 0)) q3_173 q3_144 q3_145 q1_22 q3_146 (n := 0) (by decide +kernel) rfl ⟨rfl, rfl⟩ ⟨Nat.le_of_ble_eq_true rfl, Nat.le_of_ble_eq_true rfl⟩ ⟨Nat.le_of_ble_eq_true rfl, Nat.le_of_ble_eq_true rfl⟩ hN (hT0.keep hS hAs) hK hP [2] rfl [] rfl 2 0 rfl rfl rfl hl.1 rfl (Nat.le_of_ble_eq_true rfl) d_Reader_fullName_12) (fun r12 hr12 => ?_)
  subst hr12
  refine lv_if_ne (tgt := 23) hx hb d_Reader_fullName_15 (by decide) (fun c15 => ?_) (fun c15 => ?_)
  · exact absurd c15 (by decide)
  refine lv_aload_n hx hb d_Reader_fullName_18 rfl (lv_at hl 2 rfl) ?_
  refine lv_iload_n hx hb d_Reader_fullName_19 rfl (lv_at hl 1 rfl) ?_
  have hFc := va_free (wc := [(h, .inr (4, [.ref res, .ref t, .int (nI 0), .int (nI 0), .int (wI (some 0)), .int 0, .int ma, .int ex, .ref ki]))]) hD hS hA [0] rfl
  refine va_callv (mu_runU (As := [.int (nI 0)]) (rest := []) ⟨hx, hb, hml, hown, hts⟩ (cC_refuse l dC dI sb h res t ki 0 0 0 (some 0) 0 ma ex 0 cB eU 0 H7.size ew_0) (cu_of (n := 1) hts tbin q3_227 q3_229 q3_228 q3_230 q1_15 q3_232 rfl (by decide +kernel) ⟨rfl, rfl⟩ ⟨Nat.le_of_ble_eq_true rfl, Nat.le_of_ble_eq_true rfl⟩) rfl ⟨Nat.le_of_ble_eq_true rfl, Nat.le_of_ble_eq_true rfl⟩ hN (hT0.keep hS hAs) hAs (Nat.le_trans hB0 hS.1) hK hP hD [0] (by decide) rfl [] rfl 0 4 rfl rfl rfl hl.1 rfl (Nat.le_of_ble_eq_true rfl) d_Reader_fullName_20) hS (fun q _ h => hFc q h) hFc (fun u20 tS H20 locs ht hvm hw20 hB hz1 hk1 hS => ?_)
  obtain ⟨x20, rfl⟩ : ∃ z, z = u20 := ⟨_, rfl⟩
  obtain ⟨hP1, hK1, hD1⟩ := hB
  rw [ht] at hP1
  obtain ⟨hP, hD⟩ := va_join (wr := [(t, .inl (cB, 0, .inl (tx eU))), (q7, .inr (0, [.ref t, .int (nI 0), .int (nI 0)]))]) (w1 := [(h, .inr (4, [.ref res, .ref t, .int (nI x20.1), .int (nI x20.2.1), .int (wI x20.2.2), .int 0, .int ma, .int ex, .ref ki]))]) hP hD [0] [1, 2] rfl rfl (by decide) (by decide) hk1 hFc hP1 hD1
  have hP : va_P (dC, dI) classes [(t, .inl (cB, 0, .inl (tx eU))), (q7, .inr (0, [.ref t, .int (nI 0), .int (nI 0)])), (h, .inr (4, [.ref res, .ref t, .int (nI x20.1), .int (nI x20.2.1), .int (wI x20.2.2), .int 0, .int ma, .int ex, .ref ki]))] H20 := hP
  have hD : va_D A [(t, .inl (cB, 0, .inl (tx eU))), (q7, .inr (0, [.ref t, .int (nI 0), .int (nI 0)])), (h, .inr (4, [.ref res, .ref t, .int (nI x20.1), .int (nI x20.2.1), .int (wI x20.2.2), .int 0, .int ma, .int ex, .ref ki]))] := hD
  obtain rfl : x20 = ((0, 0, some 0) : rS) := hw20
  have hP : va_P (dC, dI) classes [(t, .inl (cB, 0, .inl (tx eU))), (q7, .inr (0, [.ref t, .int (nI 0), .int (nI 0)])), (h, .inr (4, [.ref res, .ref t, .int (nI 0), .int (nI 0), .int (wI (some 0)), .int 0, .int ma, .int ex, .ref ki]))] H20 := hP
  have hD : va_D A [(t, .inl (cB, 0, .inl (tx eU))), (q7, .inr (0, [.ref t, .int (nI 0), .int (nI 0)])), (h, .inr (4, [.ref res, .ref t, .int (nI 0), .int (nI 0), .int (wI (some 0)), .int 0, .int ma, .int ex, .ref ki]))] := hD
  refine lv_aload_n hx hb d_Reader_fullName_23 rfl (lv_at hl 0 rfl) ?_
  exact W.aret (v := .ref q7) hx hb hr (Or.inl ⟨_, rfl⟩) (Or.inr ⟨_, rfl⟩) (fun t ht hW => ⟨⟨(), q7, rfl, trivial, by rw [ht]; exact hP.sub [2, 0, 1] rfl, va_K.moved hW.alike hK, hD.sub [2, 0, 1] (by decide) rfl⟩, hS.F ht⟩) hS.2.2 d_Reader_fullName_24
def y_Reader_readSignature : MethodName := ⟨"TrustChain$Reader", "readSignature", "(LTrustChain$Paper;I)V"⟩
abbrev b_Reader_readSignature : ByteArray := prog_8_method_20_code
def w_Reader_readSignature : List Cond := Cond.code y_Reader_readSignature b_Reader_readSignature 4 (none) :: tb
theorem d_Reader_readSignature_0 : decode b_Reader_readSignature 0 = .ok (.aload_n 0, 1) := by decide +kernel
theorem d_Reader_readSignature_1 : decode b_Reader_readSignature 1 = .ok (.bipush 11, 2) := by decide +kernel
theorem d_Reader_readSignature_3 : decode b_Reader_readSignature 3 = .ok (.iload_n 2, 1) := by decide +kernel
theorem d_Reader_readSignature_4 : decode b_Reader_readSignature 4 = .ok (.invokevirtual 127, 3) := by decide +kernel
theorem d_Reader_readSignature_7 : decode b_Reader_readSignature 7 = .ok (.aload_n 0, 1) := by decide +kernel
theorem d_Reader_readSignature_8 : decode b_Reader_readSignature 8 = .ok (.iload_n 2, 1) := by decide +kernel
theorem d_Reader_readSignature_9 : decode b_Reader_readSignature 9 = .ok (.invokevirtual 131, 3) := by decide +kernel
theorem d_Reader_readSignature_12 : decode b_Reader_readSignature 12 = .ok (.istore_n 3, 1) := by decide +kernel
theorem d_Reader_readSignature_13 : decode b_Reader_readSignature 13 = .ok (.aload_n 1, 1) := by decide +kernel
theorem d_Reader_readSignature_14 : decode b_Reader_readSignature 14 = .ok (.new 57, 3) := by decide +kernel
theorem d_Reader_readSignature_17 : decode b_Reader_readSignature 17 = .ok (.dup, 1) := by decide +kernel
theorem d_Reader_readSignature_18 : decode b_Reader_readSignature 18 = .ok (.aload_n 0, 1) := by decide +kernel
theorem d_Reader_readSignature_19 : decode b_Reader_readSignature 19 = .ok (.getfield 37, 3) := by decide +kernel
theorem d_Reader_readSignature_22 : decode b_Reader_readSignature 22 = .ok (.aload_n 0, 1) := by decide +kernel
theorem d_Reader_readSignature_23 : decode b_Reader_readSignature 23 = .ok (.getfield 9, 3) := by decide +kernel
theorem d_Reader_readSignature_26 : decode b_Reader_readSignature 26 = .ok (.iload_n 3, 1) := by decide +kernel
theorem d_Reader_readSignature_27 : decode b_Reader_readSignature 27 = .ok (.invokespecial 59, 3) := by decide +kernel
theorem d_Reader_readSignature_30 : decode b_Reader_readSignature 30 = .ok (.putfield 134, 3) := by decide +kernel
theorem d_Reader_readSignature_33 : decode b_Reader_readSignature 33 = .ok (.aload_n 0, 1) := by decide +kernel
theorem d_Reader_readSignature_34 : decode b_Reader_readSignature 34 = .ok (.iload_n 3, 1) := by decide +kernel
theorem d_Reader_readSignature_35 : decode b_Reader_readSignature 35 = .ok (.iconst 1, 1) := by decide +kernel
theorem d_Reader_readSignature_36 : decode b_Reader_readSignature 36 = .ok (.invokevirtual 53, 3) := by decide +kernel
theorem d_Reader_readSignature_39 : decode b_Reader_readSignature 39 = .ok (.aload_n 0, 1) := by decide +kernel
theorem d_Reader_readSignature_40 : decode b_Reader_readSignature 40 = .ok (.iload_n 2, 1) := by decide +kernel
theorem d_Reader_readSignature_41 : decode b_Reader_readSignature 41 = .ok (.invokevirtual 81, 3) := by decide +kernel
theorem d_Reader_readSignature_44 : decode b_Reader_readSignature 44 = .ok (.aload_n 0, 1) := by decide +kernel
theorem d_Reader_readSignature_45 : decode b_Reader_readSignature 45 = .ok (.aload_n 0, 1) := by decide +kernel
theorem d_Reader_readSignature_46 : decode b_Reader_readSignature 46 = .ok (.getfield 37, 3) := by decide +kernel
theorem d_Reader_readSignature_49 : decode b_Reader_readSignature 49 = .ok (.arraylength, 1) := by decide +kernel
theorem d_Reader_readSignature_50 : decode b_Reader_readSignature 50 = .ok (.invokevirtual 81, 3) := by decide +kernel
theorem d_Reader_readSignature_53 : decode b_Reader_readSignature 53 = .ok (.return_, 1) := by decide +kernel
set_option maxHeartbeats 4000000 in
set_option maxRecDepth 100000 in
theorem eC_readSignature (l : Launch) (dC : Nat → ClassId) (dI : Nat → Nat → Nat) (sb : sB) (h res t ki : Nat) (pa ma ex : Int32) (cB : ClassId) (k0 k1 k2 k3 k4 k5 k6 k7 k19 k20 k21 k22 k23 k24 : Nat) (k8 k9 k10 k11 k12 k13 k14 k15 k16 k17 k18 k27 : Int32) (k25 k26 : Int64) (sz : Nat) : Met l y_Reader_readSignature w_Reader_readSignature ({ frames := 3, cells := 1, slots := 3, locals := 72 }) (mu_P [.ref h, .ref res, .int (nI 0)] (dC, dI) sb [(h, .inr (4, [.ref res, .ref t, .int (nI 0), .int (nI 0), .int (wI (some 0)), .int pa, .int ma, .int ex, .ref ki])), (t, .inl (cB, 0, .inl (tx eU))), (res, .inr (3, [.ref k0, .ref k1, .ref k2, .ref k3, .ref k4, .ref k5, .ref k6, .ref k7, .int k8, .int k9, .int k10, .int k11, .int k12, .int k13, .int k14, .int k15, .int k16, .int k17, .int k18, .ref k19, .ref k20, .ref k21, .ref k22, .ref k23, .ref k24, .long k25, .long k26, .int k27]))] [(cB, .byte)] sz) (va_Qv (fun (_u : Nat) => True) (mu_B (dC, dI) [(cB, .byte)] (va_A [(h, .inr (4, [.ref res, .ref t, .int (nI 0), .int (nI 0), .int (wI (some 0)), .int pa, .int ma, .int ex, .ref ki])), (t, .inl (cB, 0, .inl (tx eU))), (res, .inr (3, [.ref k0, .ref k1, .ref k2, .ref k3, .ref k4, .ref k5, .ref k6, .ref k7, .int k8, .int k9, .int k10, .int k11, .int k12, .int k13, .int k14, .int k15, .int k16, .int k17, .int k18, .ref k19, .ref k20, .ref k21, .ref k22, .ref k23, .ref k24, .long k25, .long k26, .int k27]))] sz) (fun u' : Nat => [(h, .inr (4, [.ref res, .ref t, .int (nI 0), .int (nI 0), .int (wI (some 0)), .int pa, .int ma, .int ex, .ref ki])), (t, .inl (cB, 0, .inl (tx eU))), (res, .inr (3, [.ref k0, .ref k1, .ref k2, .ref k3, .ref k4, .ref k5, .ref k6, .ref k7, .int k8, .int k9, .int k10, .int k11, .int k12, .int k13, .int k14, .int k15, .int k16, .int k17, .int k18, .ref k19, .ref k20, .ref k21, .ref k22, .ref u', .ref k24, .long k25, .long k26, .int k27]))])) (va_A [(h, .inr (4, [.ref res, .ref t, .int (nI 0), .int (nI 0), .int (wI (some 0)), .int pa, .int ma, .int ex, .ref ki])), (t, .inl (cB, 0, .inl (tx eU))), (res, .inr (3, [.ref k0, .ref k1, .ref k2, .ref k3, .ref k4, .ref k5, .ref k6, .ref k7, .int k8, .int k9, .int k10, .int k11, .int k12, .int k13, .int k14, .int k15, .int k16, .int k17, .int k18, .ref k19, .ref k20, .ref k21, .ref k22, .ref k23, .ref k24, .long k25, .long k26, .int k27]))] sz)) 1 3 (va_A [(h, .inr (4, [.ref res, .ref t, .int (nI 0), .int (nI 0), .int (wI (some 0)), .int pa, .int ma, .int ex, .ref ki])), (t, .inl (cB, 0, .inl (tx eU))), (res, .inr (3, [.ref k0, .ref k1, .ref k2, .ref k3, .ref k4, .ref k5, .ref k6, .ref k7, .int k8, .int k9, .int k10, .int k11, .int k12, .int k13, .int k14, .int k15, .int k16, .int k17, .int k18, .ref k19, .ref k20, .ref k21, .ref k22, .ref k23, .ref k24, .long k25, .long k26, .int k27]))] sz) := by
  refine Met.ofW (cc := b_Reader_readSignature) (maxL := 4) (ret := none) (by decide) rfl ?_
  intro p e s m args below meth c s₁ B hml hv
  obtain ⟨rfl, hsz, hB0, hP, hK, hD0, hN, hT0⟩ := hv
  have hx := B.exec
  have hb := B.bytes
  have hr := B.returns
  have hts := atoms_spec (ws := w_Reader_readSignature) B.pre
  have tbin : ∀ w ∈ tb, w ∈ w_Reader_readSignature := fun w h => List.mem_cons_of_mem _ h
  have htb : ∀ w ∈ tb, w.before _ s = true := fun w h => hts w (tbin w h)
  have hown : s.vm.findClass "TrustChain$Reader" = some m.cls := findClass_of_methodNamed B.named
  have hlocks := B.notSynchronized
  subst hsz
  have hD := hD0.self (sz := s.heap.size)
  generalize hAe : va_A [(h, .inr (4, [.ref res, .ref t, .int (nI 0), .int (nI 0), .int (wI (some 0)), .int pa, .int ma, .int ex, .ref ki])), (t, .inl (cB, 0, .inl (tx eU))), (res, .inr (3, [.ref k0, .ref k1, .ref k2, .ref k3, .ref k4, .ref k5, .ref k6, .ref k7, .int k8, .int k9, .int k10, .int k11, .int k12, .int k13, .int k14, .int k15, .int k16, .int k17, .int k18, .ref k19, .ref k20, .ref k21, .ref k22, .ref k23, .ref k24, .long k25, .long k26, .int k27]))] s.heap.size = A at hD ⊢
  have hA : ∀ q : Nat, s.heap.size ≤ q → A q := fun q h => by rw [← hAe]; exact Or.inr h
  have hAs : ∀ q : Nat, A q → sb.1 ≤ q := fun q h => by
    rw [← hAe] at h
    rcases h with ⟨k, e, h⟩ | h
    · exact hD0.2 k _ h
    · exact Nat.le_trans hB0 h
  have hS : va_S A s.heap s.heap [] := va_S.rf
  have hcs : 1 ≤ (headSpec w_Reader_readSignature ({ frames := 3, cells := 1, slots := 3, locals := 72 })).room.cells ∧ 3 ≤ (headSpec w_Reader_readSignature ({ frames := 3, cells := 1, slots := 3, locals := 72 })).room.slots := ⟨Nat.le_refl _, Nat.le_refl _⟩
  have hP : va_P (dC, dI) classes [(h, .inr (4, [.ref res, .ref t, .int (nI 0), .int (nI 0), .int (wI (some 0)), .int pa, .int ma, .int ex, .ref ki])), (t, .inl (cB, 0, .inl (tx eU))), (res, .inr (3, [.ref k0, .ref k1, .ref k2, .ref k3, .ref k4, .ref k5, .ref k6, .ref k7, .int k8, .int k9, .int k10, .int k11, .int k12, .int k13, .int k14, .int k15, .int k16, .int k17, .int k18, .ref k19, .ref k20, .ref k21, .ref k22, .ref k23, .ref k24, .long k25, .long k26, .int k27]))] s.heap := hP
  have hl := lv_entry ([.ref h, .ref res, .int (nI 0)]) (n := 4) (Nat.le_of_ble_eq_true rfl)
  rw [lg_entry_eq]
  generalize (lg_sl ([.ref h, .ref res, .int (nI 0)]) ++ List.replicate (4 - (lg_sl ([.ref h, .ref res, .int (nI 0)])).length) Slot.unset).toArray = ls at hl ⊢
  have hl : lv_has ls 4 [(0, .ref h), (1, .ref res), (2, .int (nI 0))] := hl
  refine lv_aload_n hx hb d_Reader_readSignature_0 rfl (lv_at hl 0 rfl) ?_
  refine lv_bipush (v := 11) hx hb d_Reader_readSignature_1 (by decide) ?_
  refine lv_iload_n hx hb d_Reader_readSignature_3 rfl (lv_at hl 2 rfl) ?_
  have hFc := va_free (wc := [(h, .inr (4, [.ref res, .ref t, .int (nI 0), .int (nI 0), .int (wI (some 0)), .int pa, .int ma, .int ex, .ref ki])), (t, .inl (cB, 0, .inl (tx eU)))]) hD hS hA [0, 1] rfl
  refine va_callv (mu_runU (As := [.int 11, .int (nI 0)]) (rest := []) ⟨hx, hb, hml, hown, hts⟩ (cC_algorithm l dC dI sb h res t ki 0 (0, 0, (some 0)) pa ma ex 0 cB eU 11 0 s.heap.size eU_lt (by decide) ei_0 (Nat.le_refl 0) (by decide)) (cu_of (n := 2) hts tbin q4_231 q9_213 q3_179 q9_214 q1_15 q3_180 rfl (by decide +kernel) ⟨rfl, rfl⟩ ⟨Nat.le_of_ble_eq_true rfl, Nat.le_of_ble_eq_true rfl⟩) rfl ⟨Nat.le_of_ble_eq_true rfl, Nat.le_of_ble_eq_true rfl⟩ hN (hT0.keep hS hAs) hAs (Nat.le_trans hB0 hS.1) hK hP hD [0, 1] (by decide) rfl [0] rfl 0 4 rfl rfl rfl hl.1 rfl (Nat.le_of_ble_eq_true rfl) d_Reader_readSignature_4) hS (fun q _ h => hFc q h) hFc (fun u4 tS H4 locs ht hvm hw4 hB hz1 hk1 hS => ?_)
  obtain ⟨x4, rfl⟩ : ∃ z, z = u4 := ⟨_, rfl⟩
  obtain ⟨hP1, hK1, hD1⟩ := hB
  rw [ht] at hP1
  obtain ⟨hP, hD⟩ := va_join (wr := [(res, .inr (3, [.ref k0, .ref k1, .ref k2, .ref k3, .ref k4, .ref k5, .ref k6, .ref k7, .int k8, .int k9, .int k10, .int k11, .int k12, .int k13, .int k14, .int k15, .int k16, .int k17, .int k18, .ref k19, .ref k20, .ref k21, .ref k22, .ref k23, .ref k24, .long k25, .long k26, .int k27]))]) (w1 := [(h, .inr (4, [.ref res, .ref t, .int (nI x4.1), .int (nI x4.2.1), .int (wI x4.2.2), .int pa, .int ma, .int ex, .ref ki])), (t, .inl (cB, 0, .inl (tx eU)))]) hP hD [0, 1] [2] rfl rfl (by decide) (by decide) hk1 hFc hP1 hD1
  have hP : va_P (dC, dI) classes [(res, .inr (3, [.ref k0, .ref k1, .ref k2, .ref k3, .ref k4, .ref k5, .ref k6, .ref k7, .int k8, .int k9, .int k10, .int k11, .int k12, .int k13, .int k14, .int k15, .int k16, .int k17, .int k18, .ref k19, .ref k20, .ref k21, .ref k22, .ref k23, .ref k24, .long k25, .long k26, .int k27])), (h, .inr (4, [.ref res, .ref t, .int (nI x4.1), .int (nI x4.2.1), .int (wI x4.2.2), .int pa, .int ma, .int ex, .ref ki])), (t, .inl (cB, 0, .inl (tx eU)))] H4 := hP
  have hD : va_D A [(res, .inr (3, [.ref k0, .ref k1, .ref k2, .ref k3, .ref k4, .ref k5, .ref k6, .ref k7, .int k8, .int k9, .int k10, .int k11, .int k12, .int k13, .int k14, .int k15, .int k16, .int k17, .int k18, .ref k19, .ref k20, .ref k21, .ref k22, .ref k23, .ref k24, .long k25, .long k26, .int k27])), (h, .inr (4, [.ref res, .ref t, .int (nI x4.1), .int (nI x4.2.1), .int (wI x4.2.2), .int pa, .int ma, .int ex, .ref ki])), (t, .inl (cB, 0, .inl (tx eU)))] := hD
  obtain rfl : x4 = ((0, 0, some 0) : rS) := hw4
  have hP : va_P (dC, dI) classes [(res, .inr (3, [.ref k0, .ref k1, .ref k2, .ref k3, .ref k4, .ref k5, .ref k6, .ref k7, .int k8, .int k9, .int k10, .int k11, .int k12, .int k13, .int k14, .int k15, .int k16, .int k17, .int k18, .ref k19, .ref k20, .ref k21, .ref k22, .ref k23, .ref k24, .long k25, .long k26, .int k27])), (h, .inr (4, [.ref res, .ref t, .int (nI 0), .int (nI 0), .int (wI (some 0)), .int pa, .int ma, .int ex, .ref ki])), (t, .inl (cB, 0, .inl (tx eU)))] H4 := hP
  have hD : va_D A [(res, .inr (3, [.ref k0, .ref k1, .ref k2, .ref k3, .ref k4, .ref k5, .ref k6, .ref k7, .int k8, .int k9, .int k10, .int k11, .int k12, .int k13, .int k14, .int k15, .int k16, .int k17, .int k18, .ref k19, .ref k20, .ref k21, .ref k22, .ref k23, .ref k24, .long k25, .long k26, .int k27])), (h, .inr (4, [.ref res, .ref t, .int (nI 0), .int (nI 0), .int (wI (some 0)), .int pa, .int ma, .int ex, .ref ki])), (t, .inl (cB, 0, .inl (tx eU)))] := hD
  refine lv_aload_n hx hb d_Reader_readSignature_7 rfl (lv_at hl 0 rfl) ?_
  refine lv_iload_n hx hb d_Reader_readSignature_8 rfl (lv_at hl 2 rfl) ?_
  have hFc := va_free (wc := [(h, .inr (4, [.ref res, .ref t, .int (nI 0), .int (nI 0), .int (wI (some 0)), .int pa, .int ma, .int ex, .ref ki])), (t, .inl (cB, 0, .inl (tx eU)))]) hD hS hA [1, 2] rfl
  refine va_calli (mu_runU (As := [.int (nI 0)]) (rest := []) ⟨hx, hb, hml, hown, hts⟩ (cC_openBits l dC dI sb h res t ki 0 (0, 0, (some 0)) pa ma ex 0 cB eU 0 H4.size eU_lt (by decide) ei_0 (Nat.le_refl 0)) (cu_of (n := 1) hts tbin q4_232 q9_216 q4_42 q9_217 q1_15 q4_43 rfl (by decide +kernel) ⟨rfl, rfl⟩ ⟨Nat.le_of_ble_eq_true rfl, Nat.le_of_ble_eq_true rfl⟩) rfl ⟨Nat.le_of_ble_eq_true rfl, Nat.le_of_ble_eq_true rfl⟩ hN (hT0.keep hS hAs) hAs (Nat.le_trans hB0 hS.1) hK hP hD [1, 2] (by decide) rfl [0] rfl 1 4 rfl rfl rfl hl.1 rfl (Nat.le_of_ble_eq_true rfl) d_Reader_readSignature_9) hS (fun q _ h => hFc q h) hFc (fun r9 u9 tS H9 locs ht hvm hw9 hB hz1 hk1 hS => ?_)
  obtain ⟨x9, rfl⟩ : ∃ z, z = u9 := ⟨_, rfl⟩
  obtain ⟨hP1, hK1, hD1⟩ := hB
  rw [ht] at hP1
  obtain ⟨hP, hD⟩ := va_join (wr := [(res, .inr (3, [.ref k0, .ref k1, .ref k2, .ref k3, .ref k4, .ref k5, .ref k6, .ref k7, .int k8, .int k9, .int k10, .int k11, .int k12, .int k13, .int k14, .int k15, .int k16, .int k17, .int k18, .ref k19, .ref k20, .ref k21, .ref k22, .ref k23, .ref k24, .long k25, .long k26, .int k27]))]) (w1 := [(h, .inr (4, [.ref res, .ref t, .int (nI x9.1), .int (nI x9.2.1), .int (wI x9.2.2), .int pa, .int ma, .int ex, .ref ki])), (t, .inl (cB, 0, .inl (tx eU)))]) hP hD [1, 2] [0] rfl rfl (by decide) (by decide) hk1 hFc hP1 hD1
  have hP : va_P (dC, dI) classes [(res, .inr (3, [.ref k0, .ref k1, .ref k2, .ref k3, .ref k4, .ref k5, .ref k6, .ref k7, .int k8, .int k9, .int k10, .int k11, .int k12, .int k13, .int k14, .int k15, .int k16, .int k17, .int k18, .ref k19, .ref k20, .ref k21, .ref k22, .ref k23, .ref k24, .long k25, .long k26, .int k27])), (h, .inr (4, [.ref res, .ref t, .int (nI x9.1), .int (nI x9.2.1), .int (wI x9.2.2), .int pa, .int ma, .int ex, .ref ki])), (t, .inl (cB, 0, .inl (tx eU)))] H9 := hP
  have hD : va_D A [(res, .inr (3, [.ref k0, .ref k1, .ref k2, .ref k3, .ref k4, .ref k5, .ref k6, .ref k7, .int k8, .int k9, .int k10, .int k11, .int k12, .int k13, .int k14, .int k15, .int k16, .int k17, .int k18, .ref k19, .ref k20, .ref k21, .ref k22, .ref k23, .ref k24, .long k25, .long k26, .int k27])), (h, .inr (4, [.ref res, .ref t, .int (nI x9.1), .int (nI x9.2.1), .int (wI x9.2.2), .int pa, .int ma, .int ex, .ref ki])), (t, .inl (cB, 0, .inl (tx eU)))] := hD
  obtain ⟨rfl, rfl⟩ : x9 = ((0, 0, some 0) : rS) ∧ r9 = nI 0 := hw9
  have hP : va_P (dC, dI) classes [(res, .inr (3, [.ref k0, .ref k1, .ref k2, .ref k3, .ref k4, .ref k5, .ref k6, .ref k7, .int k8, .int k9, .int k10, .int k11, .int k12, .int k13, .int k14, .int k15, .int k16, .int k17, .int k18, .ref k19, .ref k20, .ref k21, .ref k22, .ref k23, .ref k24, .long k25, .long k26, .int k27])), (h, .inr (4, [.ref res, .ref t, .int (nI 0), .int (nI 0), .int (wI (some 0)), .int pa, .int ma, .int ex, .ref ki])), (t, .inl (cB, 0, .inl (tx eU)))] H9 := hP
  have hD : va_D A [(res, .inr (3, [.ref k0, .ref k1, .ref k2, .ref k3, .ref k4, .ref k5, .ref k6, .ref k7, .int k8, .int k9, .int k10, .int k11, .int k12, .int k13, .int k14, .int k15, .int k16, .int k17, .int k18, .ref k19, .ref k20, .ref k21, .ref k22, .ref k23, .ref k24, .long k25, .long k26, .int k27])), (h, .inr (4, [.ref res, .ref t, .int (nI 0), .int (nI 0), .int (wI (some 0)), .int pa, .int ma, .int ex, .ref ki])), (t, .inl (cB, 0, .inl (tx eU)))] := hD
  refine lv_istore_n (lv' := [(3, .int (nI 0)), (0, .ref h), (1, .ref res), (2, .int (nI 0))]) hx hb d_Reader_readSignature_12 rfl hl (by decide) rfl (fun ls hl => ?_)
  refine lv_aload_n hx hb d_Reader_readSignature_13 rfl (lv_at hl 2 rfl) ?_
  refine va_new (ci := 0) (fs := [.null, .int 0, .int 0]) hx hb htb i_Slice t_Slice t_Slice_ok hown (htb _ q3_137) (htb _ q2_92) (htb _ q1_22) hK hP hD hS hA rfl (fun j hj => by rcases (show j = 0 ∨ j = 1 ∨ j = 2 by omega) with rfl | rfl | rfl <;> rfl) (Nat.le_of_ble_eq_true rfl) (Nat.le_of_ble_eq_true rfl) d_Reader_readSignature_14 (fun q14 H14 hP hD hS => ?_)
  have hP : va_P (dC, dI) classes [(res, .inr (3, [.ref k0, .ref k1, .ref k2, .ref k3, .ref k4, .ref k5, .ref k6, .ref k7, .int k8, .int k9, .int k10, .int k11, .int k12, .int k13, .int k14, .int k15, .int k16, .int k17, .int k18, .ref k19, .ref k20, .ref k21, .ref k22, .ref k23, .ref k24, .long k25, .long k26, .int k27])), (h, .inr (4, [.ref res, .ref t, .int (nI 0), .int (nI 0), .int (wI (some 0)), .int pa, .int ma, .int ex, .ref ki])), (t, .inl (cB, 0, .inl (tx eU))), (q14, .inr (0, [.null, .int 0, .int 0]))] H14 := hP
  have hD : va_D A [(res, .inr (3, [.ref k0, .ref k1, .ref k2, .ref k3, .ref k4, .ref k5, .ref k6, .ref k7, .int k8, .int k9, .int k10, .int k11, .int k12, .int k13, .int k14, .int k15, .int k16, .int k17, .int k18, .ref k19, .ref k20, .ref k21, .ref k22, .ref k23, .ref k24, .long k25, .long k26, .int k27])), (h, .inr (4, [.ref res, .ref t, .int (nI 0), .int (nI 0), .int (wI (some 0)), .int pa, .int ma, .int ex, .ref ki])), (t, .inl (cB, 0, .inl (tx eU))), (q14, .inr (0, [.null, .int 0, .int 0]))] := hD
  refine lv_dup hx hb d_Reader_readSignature_17 rfl ?_
  refine lv_aload_n hx hb d_Reader_readSignature_18 rfl (lv_at hl 1 rfl) ?_
  refine va_get (v := .ref t) hx hb htb i_CertificateReader hown hK hP 1 rfl rfl 1 (by decide) (htb _ q3_57) (fun _ h9 => h9) rfl d_Reader_readSignature_19 ?_
  refine lv_aload_n hx hb d_Reader_readSignature_22 rfl (lv_at hl 1 rfl) ?_
  refine va_get (v := .int (nI 0)) hx hb htb i_CertificateReader hown hK hP 1 rfl rfl 2 (by decide) (htb _ q3_62) (fun _ h9 => h9) rfl d_Reader_readSignature_23 ?_
  refine lv_iload_n hx hb d_Reader_readSignature_26 rfl (lv_at hl 0 rfl) ?_
  have hFc := va_free (wc := [(q14, .inr (0, [.null, .int 0, .int 0]))]) hD hS hA [3] rfl
  refine va_callv (mu_runI (As := [.ref t, .int (nI 0), .int (nI 0)]) (rest := [.ref q14, .ref res]) ⟨hx, hb, hml, hown, hts⟩ tbin (c_Slice_init l dC dI sb q14 t (nI 0) (nI 0) H14.size) q3_138 q2_94 q1_22 q2_95 rfl (n := 3) (by decide +kernel) rfl ⟨rfl, rfl⟩ ⟨Nat.le_of_ble_eq_true rfl, Nat.le_of_ble_eq_true rfl⟩ ⟨Nat.le_of_ble_eq_true rfl, Nat.le_of_ble_eq_true rfl⟩ hN (hT0.keep hS hAs) hAs (Nat.le_trans hB0 hS.1) hK hP hD [3] (by decide) rfl [] rfl hl.1 rfl (Nat.le_of_ble_eq_true rfl) d_Reader_readSignature_27) hS (fun q _ h => hFc q h) hFc (fun u27 tS H27 locs ht hvm hw27 hB hz1 hk1 hS => ?_)
  skip
  obtain ⟨hP1, hK1, hD1⟩ := hB
  rw [ht] at hP1
  obtain ⟨hP, hD⟩ := va_join (wr := [(res, .inr (3, [.ref k0, .ref k1, .ref k2, .ref k3, .ref k4, .ref k5, .ref k6, .ref k7, .int k8, .int k9, .int k10, .int k11, .int k12, .int k13, .int k14, .int k15, .int k16, .int k17, .int k18, .ref k19, .ref k20, .ref k21, .ref k22, .ref k23, .ref k24, .long k25, .long k26, .int k27])), (h, .inr (4, [.ref res, .ref t, .int (nI 0), .int (nI 0), .int (wI (some 0)), .int pa, .int ma, .int ex, .ref ki])), (t, .inl (cB, 0, .inl (tx eU)))]) (w1 := [(q14, .inr (0, [.ref t, .int (nI 0), .int (nI 0)]))]) hP hD [3] [0, 1, 2] rfl rfl (by decide) (by decide) hk1 hFc hP1 hD1
  have hP : va_P (dC, dI) classes [(res, .inr (3, [.ref k0, .ref k1, .ref k2, .ref k3, .ref k4, .ref k5, .ref k6, .ref k7, .int k8, .int k9, .int k10, .int k11, .int k12, .int k13, .int k14, .int k15, .int k16, .int k17, .int k18, .ref k19, .ref k20, .ref k21, .ref k22, .ref k23, .ref k24, .long k25, .long k26, .int k27])), (h, .inr (4, [.ref res, .ref t, .int (nI 0), .int (nI 0), .int (wI (some 0)), .int pa, .int ma, .int ex, .ref ki])), (t, .inl (cB, 0, .inl (tx eU))), (q14, .inr (0, [.ref t, .int (nI 0), .int (nI 0)]))] H27 := hP
  have hD : va_D A [(res, .inr (3, [.ref k0, .ref k1, .ref k2, .ref k3, .ref k4, .ref k5, .ref k6, .ref k7, .int k8, .int k9, .int k10, .int k11, .int k12, .int k13, .int k14, .int k15, .int k16, .int k17, .int k18, .ref k19, .ref k20, .ref k21, .ref k22, .ref k23, .ref k24, .long k25, .long k26, .int k27])), (h, .inr (4, [.ref res, .ref t, .int (nI 0), .int (nI 0), .int (wI (some 0)), .int pa, .int ma, .int ex, .ref ki])), (t, .inl (cB, 0, .inl (tx eU))), (q14, .inr (0, [.ref t, .int (nI 0), .int (nI 0)]))] := hD
  refine va_put (v := .ref q14) (ty := (.object "TrustChain$Slice")) hx hb htb i_Certificate t_Certificate t_Certificate_ok n_Certificate hown hK hP hD hS 0 rfl rfl 23 (by decide) (htb _ q2_210) (fun _ h9 => h9) rfl (by decide +kernel) rfl rfl (Nat.le_of_ble_eq_true rfl) d_Reader_readSignature_30 (fun H30 locs hP hD hS => ?_)
  have hP : va_P (dC, dI) classes [(res, .inr (3, [.ref k0, .ref k1, .ref k2, .ref k3, .ref k4, .ref k5, .ref k6, .ref k7, .int k8, .int k9, .int k10, .int k11, .int k12, .int k13, .int k14, .int k15, .int k16, .int k17, .int k18, .ref k19, .ref k20, .ref k21, .ref k22, .ref q14, .ref k24, .long k25, .long k26, .int k27])), (h, .inr (4, [.ref res, .ref t, .int (nI 0), .int (nI 0), .int (wI (some 0)), .int pa, .int ma, .int ex, .ref ki])), (t, .inl (cB, 0, .inl (tx eU))), (q14, .inr (0, [.ref t, .int (nI 0), .int (nI 0)]))] H30 := hP
  have hD : va_D A [(res, .inr (3, [.ref k0, .ref k1, .ref k2, .ref k3, .ref k4, .ref k5, .ref k6, .ref k7, .int k8, .int k9, .int k10, .int k11, .int k12, .int k13, .int k14, .int k15, .int k16, .int k17, .int k18, .ref k19, .ref k20, .ref k21, .ref k22, .ref q14, .ref k24, .long k25, .long k26, .int k27])), (h, .inr (4, [.ref res, .ref t, .int (nI 0), .int (nI 0), .int (wI (some 0)), .int pa, .int ma, .int ex, .ref ki])), (t, .inl (cB, 0, .inl (tx eU))), (q14, .inr (0, [.ref t, .int (nI 0), .int (nI 0)]))] := hD
  refine lv_aload_n hx hb d_Reader_readSignature_33 rfl (lv_at hl 1 rfl) ?_
  refine lv_iload_n hx hb d_Reader_readSignature_34 rfl (lv_at hl 0 rfl) ?_
  refine lv_iconst (v := 1) hx hb d_Reader_readSignature_35 (by decide) ?_
  have hFc := va_free (wc := [(h, .inr (4, [.ref res, .ref t, .int (nI 0), .int (nI 0), .int (wI (some 0)), .int pa, .int ma, .int ex, .ref ki]))]) hD hS hA [1] rfl
  refine va_callv (mu_runU (As := [.int (nI 0), .int 1]) (rest := []) ⟨hx, hb, hml, hown, hts⟩ (cC_leave l dC dI sb h res t ki 0 0 0 (some 0) pa ma ex 0 cB eU 0 1 H30.size ew_0) (cu_of (n := 2) hts tbin q3_131 q3_133 q3_132 q3_134 q1_15 q3_136 rfl (by decide +kernel) ⟨rfl, rfl⟩ ⟨Nat.le_of_ble_eq_true rfl, Nat.le_of_ble_eq_true rfl⟩) rfl ⟨Nat.le_of_ble_eq_true rfl, Nat.le_of_ble_eq_true rfl⟩ hN (hT0.keep hS hAs) hAs (Nat.le_trans hB0 hS.1) hK hP hD [1] (by decide) rfl [] rfl 1 4 rfl rfl rfl hl.1 rfl (Nat.le_of_ble_eq_true rfl) d_Reader_readSignature_36) hS (fun q _ h => hFc q h) hFc (fun u36 tS H36 locs ht hvm hw36 hB hz1 hk1 hS => ?_)
  obtain ⟨x36, rfl⟩ : ∃ z, z = u36 := ⟨_, rfl⟩
  obtain ⟨hP1, hK1, hD1⟩ := hB
  rw [ht] at hP1
  obtain ⟨hP, hD⟩ := va_join (wr := [(res, .inr (3, [.ref k0, .ref k1, .ref k2, .ref k3, .ref k4, .ref k5, .ref k6, .ref k7, .int k8, .int k9, .int k10, .int k11, .int k12, .int k13, .int k14, .int k15, .int k16, .int k17, .int k18, .ref k19, .ref k20, .ref k21, .ref k22, .ref q14, .ref k24, .long k25, .long k26, .int k27])), (t, .inl (cB, 0, .inl (tx eU))), (q14, .inr (0, [.ref t, .int (nI 0), .int (nI 0)]))]) (w1 := [(h, .inr (4, [.ref res, .ref t, .int (nI x36.1), .int (nI x36.2.1), .int (wI x36.2.2), .int pa, .int ma, .int ex, .ref ki]))]) hP hD [1] [0, 2, 3] rfl rfl (by decide) (by decide) hk1 hFc hP1 hD1
  have hP : va_P (dC, dI) classes [(res, .inr (3, [.ref k0, .ref k1, .ref k2, .ref k3, .ref k4, .ref k5, .ref k6, .ref k7, .int k8, .int k9, .int k10, .int k11, .int k12, .int k13, .int k14, .int k15, .int k16, .int k17, .int k18, .ref k19, .ref k20, .ref k21, .ref k22, .ref q14, .ref k24, .long k25, .long k26, .int k27])), (t, .inl (cB, 0, .inl (tx eU))), (q14, .inr (0, [.ref t, .int (nI 0), .int (nI 0)])), (h, .inr (4, [.ref res, .ref t, .int (nI x36.1), .int (nI x36.2.1), .int (wI x36.2.2), .int pa, .int ma, .int ex, .ref ki]))] H36 := hP
  have hD : va_D A [(res, .inr (3, [.ref k0, .ref k1, .ref k2, .ref k3, .ref k4, .ref k5, .ref k6, .ref k7, .int k8, .int k9, .int k10, .int k11, .int k12, .int k13, .int k14, .int k15, .int k16, .int k17, .int k18, .ref k19, .ref k20, .ref k21, .ref k22, .ref q14, .ref k24, .long k25, .long k26, .int k27])), (t, .inl (cB, 0, .inl (tx eU))), (q14, .inr (0, [.ref t, .int (nI 0), .int (nI 0)])), (h, .inr (4, [.ref res, .ref t, .int (nI x36.1), .int (nI x36.2.1), .int (wI x36.2.2), .int pa, .int ma, .int ex, .ref ki]))] := hD
  obtain rfl : x36 = ((0, 0, some 0) : rS) := hw36
  have hP : va_P (dC, dI) classes [(res, .inr (3, [.ref k0, .ref k1, .ref k2, .ref k3, .ref k4, .ref k5, .ref k6, .ref k7, .int k8, .int k9, .int k10, .int k11, .int k12, .int k13, .int k14, .int k15, .int k16, .int k17, .int k18, .ref k19, .ref k20, .ref k21, .ref k22, .ref q14, .ref k24, .long k25, .long k26, .int k27])), (t, .inl (cB, 0, .inl (tx eU))), (q14, .inr (0, [.ref t, .int (nI 0), .int (nI 0)])), (h, .inr (4, [.ref res, .ref t, .int (nI 0), .int (nI 0), .int (wI (some 0)), .int pa, .int ma, .int ex, .ref ki]))] H36 := hP
  have hD : va_D A [(res, .inr (3, [.ref k0, .ref k1, .ref k2, .ref k3, .ref k4, .ref k5, .ref k6, .ref k7, .int k8, .int k9, .int k10, .int k11, .int k12, .int k13, .int k14, .int k15, .int k16, .int k17, .int k18, .ref k19, .ref k20, .ref k21, .ref k22, .ref q14, .ref k24, .long k25, .long k26, .int k27])), (t, .inl (cB, 0, .inl (tx eU))), (q14, .inr (0, [.ref t, .int (nI 0), .int (nI 0)])), (h, .inr (4, [.ref res, .ref t, .int (nI 0), .int (nI 0), .int (wI (some 0)), .int pa, .int ma, .int ex, .ref ki]))] := hD
  refine lv_aload_n hx hb d_Reader_readSignature_39 rfl (lv_at hl 1 rfl) ?_
  refine lv_iload_n hx hb d_Reader_readSignature_40 rfl (lv_at hl 3 rfl) ?_
  have hFc := va_free (wc := [(h, .inr (4, [.ref res, .ref t, .int (nI 0), .int (nI 0), .int (wI (some 0)), .int pa, .int ma, .int ex, .ref ki]))]) hD hS hA [3] rfl
  refine va_callv (mu_runU (As := [.int (nI 0)]) (rest := []) ⟨hx, hb, hml, hown, hts⟩ (cC_finish l dC dI sb h res t ki 0 0 0 (some 0) pa ma ex 0 cB eU 0 H36.size ew_0 (by decide) (by decide)) (cu_of (n := 1) hts tbin q3_183 q9_201 q3_163 q9_202 q1_15 q3_164 rfl (by decide +kernel) ⟨rfl, rfl⟩ ⟨Nat.le_of_ble_eq_true rfl, Nat.le_of_ble_eq_true rfl⟩) rfl ⟨Nat.le_of_ble_eq_true rfl, Nat.le_of_ble_eq_true rfl⟩ hN (hT0.keep hS hAs) hAs (Nat.le_trans hB0 hS.1) hK hP hD [3] (by decide) rfl [] rfl 3 4 rfl rfl rfl hl.1 rfl (Nat.le_of_ble_eq_true rfl) d_Reader_readSignature_41) hS (fun q _ h => hFc q h) hFc (fun u41 tS H41 locs ht hvm hw41 hB hz1 hk1 hS => ?_)
  obtain ⟨x41, rfl⟩ : ∃ z, z = u41 := ⟨_, rfl⟩
  obtain ⟨hP1, hK1, hD1⟩ := hB
  rw [ht] at hP1
  obtain ⟨hP, hD⟩ := va_join (wr := [(res, .inr (3, [.ref k0, .ref k1, .ref k2, .ref k3, .ref k4, .ref k5, .ref k6, .ref k7, .int k8, .int k9, .int k10, .int k11, .int k12, .int k13, .int k14, .int k15, .int k16, .int k17, .int k18, .ref k19, .ref k20, .ref k21, .ref k22, .ref q14, .ref k24, .long k25, .long k26, .int k27])), (t, .inl (cB, 0, .inl (tx eU))), (q14, .inr (0, [.ref t, .int (nI 0), .int (nI 0)]))]) (w1 := [(h, .inr (4, [.ref res, .ref t, .int (nI x41.1), .int (nI x41.2.1), .int (wI x41.2.2), .int pa, .int ma, .int ex, .ref ki]))]) hP hD [3] [0, 1, 2] rfl rfl (by decide) (by decide) hk1 hFc hP1 hD1
  have hP : va_P (dC, dI) classes [(res, .inr (3, [.ref k0, .ref k1, .ref k2, .ref k3, .ref k4, .ref k5, .ref k6, .ref k7, .int k8, .int k9, .int k10, .int k11, .int k12, .int k13, .int k14, .int k15, .int k16, .int k17, .int k18, .ref k19, .ref k20, .ref k21, .ref k22, .ref q14, .ref k24, .long k25, .long k26, .int k27])), (t, .inl (cB, 0, .inl (tx eU))), (q14, .inr (0, [.ref t, .int (nI 0), .int (nI 0)])), (h, .inr (4, [.ref res, .ref t, .int (nI x41.1), .int (nI x41.2.1), .int (wI x41.2.2), .int pa, .int ma, .int ex, .ref ki]))] H41 := hP
  have hD : va_D A [(res, .inr (3, [.ref k0, .ref k1, .ref k2, .ref k3, .ref k4, .ref k5, .ref k6, .ref k7, .int k8, .int k9, .int k10, .int k11, .int k12, .int k13, .int k14, .int k15, .int k16, .int k17, .int k18, .ref k19, .ref k20, .ref k21, .ref k22, .ref q14, .ref k24, .long k25, .long k26, .int k27])), (t, .inl (cB, 0, .inl (tx eU))), (q14, .inr (0, [.ref t, .int (nI 0), .int (nI 0)])), (h, .inr (4, [.ref res, .ref t, .int (nI x41.1), .int (nI x41.2.1), .int (wI x41.2.2), .int pa, .int ma, .int ex, .ref ki]))] := hD
  obtain rfl : x41 = ((0, 0, some 0) : rS) := hw41
  have hP : va_P (dC, dI) classes [(res, .inr (3, [.ref k0, .ref k1, .ref k2, .ref k3, .ref k4, .ref k5, .ref k6, .ref k7, .int k8, .int k9, .int k10, .int k11, .int k12, .int k13, .int k14, .int k15, .int k16, .int k17, .int k18, .ref k19, .ref k20, .ref k21, .ref k22, .ref q14, .ref k24, .long k25, .long k26, .int k27])), (t, .inl (cB, 0, .inl (tx eU))), (q14, .inr (0, [.ref t, .int (nI 0), .int (nI 0)])), (h, .inr (4, [.ref res, .ref t, .int (nI 0), .int (nI 0), .int (wI (some 0)), .int pa, .int ma, .int ex, .ref ki]))] H41 := hP
  have hD : va_D A [(res, .inr (3, [.ref k0, .ref k1, .ref k2, .ref k3, .ref k4, .ref k5, .ref k6, .ref k7, .int k8, .int k9, .int k10, .int k11, .int k12, .int k13, .int k14, .int k15, .int k16, .int k17, .int k18, .ref k19, .ref k20, .ref k21, .ref k22, .ref q14, .ref k24, .long k25, .long k26, .int k27])), (t, .inl (cB, 0, .inl (tx eU))), (q14, .inr (0, [.ref t, .int (nI 0), .int (nI 0)])), (h, .inr (4, [.ref res, .ref t, .int (nI 0), .int (nI 0), .int (wI (some 0)), .int pa, .int ma, .int ex, .ref ki]))] := hD
  refine lv_aload_n hx hb d_Reader_readSignature_44 rfl (lv_at hl 1 rfl) ?_
  refine lv_aload_n hx hb d_Reader_readSignature_45 rfl (lv_at hl 1 rfl) ?_
  refine va_get (v := .ref t) hx hb htb i_CertificateReader hown hK hP 3 rfl rfl 1 (by decide) (htb _ q3_57) (fun _ h9 => h9) rfl d_Reader_readSignature_46 ?_
  refine va_alen (v := nI 0) hx hb hK hP 1 0 rfl rfl rfl d_Reader_readSignature_49 ?_
  have hFc := va_free (wc := [(h, .inr (4, [.ref res, .ref t, .int (nI 0), .int (nI 0), .int (wI (some 0)), .int pa, .int ma, .int ex, .ref ki]))]) hD hS hA [3] rfl
  refine va_callv (mu_runU (As := [.int (nI 0)]) (rest := []) ⟨hx, hb, hml, hown, hts⟩ (cC_finish l dC dI sb h res t ki 0 0 0 (some 0) pa ma ex 0 cB eU 0 H41.size ew_0 (by decide) (by decide)) (cu_of (n := 1) hts tbin q3_183 q9_201 q3_163 q9_202 q1_15 q3_164 rfl (by decide +kernel) ⟨rfl, rfl⟩ ⟨Nat.le_of_ble_eq_true rfl, Nat.le_of_ble_eq_true rfl⟩) rfl ⟨Nat.le_of_ble_eq_true rfl, Nat.le_of_ble_eq_true rfl⟩ hN (hT0.keep hS hAs) hAs (Nat.le_trans hB0 hS.1) hK hP hD [3] (by decide) rfl [] rfl 3 4 rfl rfl rfl hl.1 rfl (Nat.le_of_ble_eq_true rfl) d_Reader_readSignature_50) hS (fun q _ h => hFc q h) hFc (fun u50 tS H50 locs ht hvm hw50 hB hz1 hk1 hS => ?_)
  obtain ⟨x50, rfl⟩ : ∃ z, z = u50 := ⟨_, rfl⟩
  obtain ⟨hP1, hK1, hD1⟩ := hB
  rw [ht] at hP1
  obtain ⟨hP, hD⟩ := va_join (wr := [(res, .inr (3, [.ref k0, .ref k1, .ref k2, .ref k3, .ref k4, .ref k5, .ref k6, .ref k7, .int k8, .int k9, .int k10, .int k11, .int k12, .int k13, .int k14, .int k15, .int k16, .int k17, .int k18, .ref k19, .ref k20, .ref k21, .ref k22, .ref q14, .ref k24, .long k25, .long k26, .int k27])), (t, .inl (cB, 0, .inl (tx eU))), (q14, .inr (0, [.ref t, .int (nI 0), .int (nI 0)]))]) (w1 := [(h, .inr (4, [.ref res, .ref t, .int (nI x50.1), .int (nI x50.2.1), .int (wI x50.2.2), .int pa, .int ma, .int ex, .ref ki]))]) hP hD [3] [0, 1, 2] rfl rfl (by decide) (by decide) hk1 hFc hP1 hD1
  have hP : va_P (dC, dI) classes [(res, .inr (3, [.ref k0, .ref k1, .ref k2, .ref k3, .ref k4, .ref k5, .ref k6, .ref k7, .int k8, .int k9, .int k10, .int k11, .int k12, .int k13, .int k14, .int k15, .int k16, .int k17, .int k18, .ref k19, .ref k20, .ref k21, .ref k22, .ref q14, .ref k24, .long k25, .long k26, .int k27])), (t, .inl (cB, 0, .inl (tx eU))), (q14, .inr (0, [.ref t, .int (nI 0), .int (nI 0)])), (h, .inr (4, [.ref res, .ref t, .int (nI x50.1), .int (nI x50.2.1), .int (wI x50.2.2), .int pa, .int ma, .int ex, .ref ki]))] H50 := hP
  have hD : va_D A [(res, .inr (3, [.ref k0, .ref k1, .ref k2, .ref k3, .ref k4, .ref k5, .ref k6, .ref k7, .int k8, .int k9, .int k10, .int k11, .int k12, .int k13, .int k14, .int k15, .int k16, .int k17, .int k18, .ref k19, .ref k20, .ref k21, .ref k22, .ref q14, .ref k24, .long k25, .long k26, .int k27])), (t, .inl (cB, 0, .inl (tx eU))), (q14, .inr (0, [.ref t, .int (nI 0), .int (nI 0)])), (h, .inr (4, [.ref res, .ref t, .int (nI x50.1), .int (nI x50.2.1), .int (wI x50.2.2), .int pa, .int ma, .int ex, .ref ki]))] := hD
  obtain rfl : x50 = ((0, 0, some 0) : rS) := hw50
  have hP : va_P (dC, dI) classes [(res, .inr (3, [.ref k0, .ref k1, .ref k2, .ref k3, .ref k4, .ref k5, .ref k6, .ref k7, .int k8, .int k9, .int k10, .int k11, .int k12, .int k13, .int k14, .int k15, .int k16, .int k17, .int k18, .ref k19, .ref k20, .ref k21, .ref k22, .ref q14, .ref k24, .long k25, .long k26, .int k27])), (t, .inl (cB, 0, .inl (tx eU))), (q14, .inr (0, [.ref t, .int (nI 0), .int (nI 0)])), (h, .inr (4, [.ref res, .ref t, .int (nI 0), .int (nI 0), .int (wI (some 0)), .int pa, .int ma, .int ex, .ref ki]))] H50 := hP
  have hD : va_D A [(res, .inr (3, [.ref k0, .ref k1, .ref k2, .ref k3, .ref k4, .ref k5, .ref k6, .ref k7, .int k8, .int k9, .int k10, .int k11, .int k12, .int k13, .int k14, .int k15, .int k16, .int k17, .int k18, .ref k19, .ref k20, .ref k21, .ref k22, .ref q14, .ref k24, .long k25, .long k26, .int k27])), (t, .inl (cB, 0, .inl (tx eU))), (q14, .inr (0, [.ref t, .int (nI 0), .int (nI 0)])), (h, .inr (4, [.ref res, .ref t, .int (nI 0), .int (nI 0), .int (wI (some 0)), .int pa, .int ma, .int ex, .ref ki]))] := hD
  exact W.vret hx hb hr (fun t ht hW => ⟨⟨q14, rfl, trivial, by rw [ht]; exact hP.sub [3, 1, 0] rfl, va_K.moved hW.alike hK, hD.sub [3, 1, 0] (by decide) rfl⟩, hS.F ht⟩) hS.2.2 d_Reader_readSignature_53
def y_CertificateReader_readModulus : MethodName := ⟨"TrustChain$CertificateReader", "readModulus", "(I)V"⟩
abbrev b_CertificateReader_readModulus : ByteArray := prog_3_method_5_code
def w_CertificateReader_readModulus : List Cond := Cond.code y_CertificateReader_readModulus b_CertificateReader_readModulus 6 (none) :: tb
theorem d_CertificateReader_readModulus_0 : decode b_CertificateReader_readModulus 0 = .ok (.aload_n 0, 1) := by decide +kernel
theorem d_CertificateReader_readModulus_1 : decode b_CertificateReader_readModulus 1 = .ok (.iconst 2, 1) := by decide +kernel
theorem d_CertificateReader_readModulus_2 : decode b_CertificateReader_readModulus 2 = .ok (.iload_n 1, 1) := by decide +kernel
theorem d_CertificateReader_readModulus_3 : decode b_CertificateReader_readModulus 3 = .ok (.invokevirtual 70, 3) := by decide +kernel
theorem d_CertificateReader_readModulus_6 : decode b_CertificateReader_readModulus 6 = .ok (.astore_n 2, 1) := by decide +kernel
theorem d_CertificateReader_readModulus_7 : decode b_CertificateReader_readModulus 7 = .ok (.aload_n 2, 1) := by decide +kernel
theorem d_CertificateReader_readModulus_8 : decode b_CertificateReader_readModulus 8 = .ok (.iconst 0, 1) := by decide +kernel
theorem d_CertificateReader_readModulus_9 : decode b_CertificateReader_readModulus 9 = .ok (.invokevirtual 144, 3) := by decide +kernel
theorem d_CertificateReader_readModulus_12 : decode b_CertificateReader_readModulus 12 = .ok (.sipush 128, 3) := by decide +kernel
theorem d_CertificateReader_readModulus_15 : decode b_CertificateReader_readModulus 15 = .ok (.if_icmp .ge 7, 3) := by decide +kernel
theorem d_CertificateReader_readModulus_18 : decode b_CertificateReader_readModulus 18 = .ok (.iconst 1, 1) := by decide +kernel
theorem d_CertificateReader_readModulus_19 : decode b_CertificateReader_readModulus 19 = .ok (.goto 4, 3) := by decide +kernel
theorem d_CertificateReader_readModulus_22 : decode b_CertificateReader_readModulus 22 = .ok (.iconst 0, 1) := by decide +kernel
theorem d_CertificateReader_readModulus_23 : decode b_CertificateReader_readModulus 23 = .ok (.istore_n 3, 1) := by decide +kernel
theorem d_CertificateReader_readModulus_24 : decode b_CertificateReader_readModulus 24 = .ok (.aload_n 2, 1) := by decide +kernel
theorem d_CertificateReader_readModulus_25 : decode b_CertificateReader_readModulus 25 = .ok (.iconst 0, 1) := by decide +kernel
theorem d_CertificateReader_readModulus_26 : decode b_CertificateReader_readModulus 26 = .ok (.invokevirtual 144, 3) := by decide +kernel
theorem d_CertificateReader_readModulus_29 : decode b_CertificateReader_readModulus 29 = .ok (.ifCond .ne 25, 3) := by decide +kernel
theorem d_CertificateReader_readModulus_32 : decode b_CertificateReader_readModulus 32 = .ok (.new 11, 3) := by decide +kernel
theorem d_CertificateReader_readModulus_35 : decode b_CertificateReader_readModulus 35 = .ok (.dup, 1) := by decide +kernel
theorem d_CertificateReader_readModulus_36 : decode b_CertificateReader_readModulus 36 = .ok (.aload_n 0, 1) := by decide +kernel
theorem d_CertificateReader_readModulus_37 : decode b_CertificateReader_readModulus 37 = .ok (.getfield 25, 3) := by decide +kernel
theorem d_CertificateReader_readModulus_40 : decode b_CertificateReader_readModulus 40 = .ok (.aload_n 2, 1) := by decide +kernel
theorem d_CertificateReader_readModulus_41 : decode b_CertificateReader_readModulus 41 = .ok (.getfield 147, 3) := by decide +kernel
theorem d_CertificateReader_readModulus_44 : decode b_CertificateReader_readModulus 44 = .ok (.iconst 1, 1) := by decide +kernel
theorem d_CertificateReader_readModulus_45 : decode b_CertificateReader_readModulus 45 = .ok (.iadd, 1) := by decide +kernel
theorem d_CertificateReader_readModulus_46 : decode b_CertificateReader_readModulus 46 = .ok (.aload_n 2, 1) := by decide +kernel
theorem d_CertificateReader_readModulus_47 : decode b_CertificateReader_readModulus 47 = .ok (.getfield 150, 3) := by decide +kernel
theorem d_CertificateReader_readModulus_50 : decode b_CertificateReader_readModulus 50 = .ok (.invokespecial 13, 3) := by decide +kernel
theorem d_CertificateReader_readModulus_53 : decode b_CertificateReader_readModulus 53 = .ok (.astore_n 2, 1) := by decide +kernel
theorem d_CertificateReader_readModulus_54 : decode b_CertificateReader_readModulus 54 = .ok (.aload_n 2, 1) := by decide +kernel
theorem d_CertificateReader_readModulus_55 : decode b_CertificateReader_readModulus 55 = .ok (.invokevirtual 153, 3) := by decide +kernel
theorem d_CertificateReader_readModulus_58 : decode b_CertificateReader_readModulus 58 = .ok (.bipush 8, 2) := by decide +kernel
theorem d_CertificateReader_readModulus_60 : decode b_CertificateReader_readModulus 60 = .ok (.imul, 1) := by decide +kernel
theorem d_CertificateReader_readModulus_61 : decode b_CertificateReader_readModulus 61 = .ok (.istore 4, 2) := by decide +kernel
theorem d_CertificateReader_readModulus_63 : decode b_CertificateReader_readModulus 63 = .ok (.sipush 128, 3) := by decide +kernel
theorem d_CertificateReader_readModulus_66 : decode b_CertificateReader_readModulus 66 = .ok (.istore 5, 2) := by decide +kernel
theorem d_CertificateReader_readModulus_68 : decode b_CertificateReader_readModulus 68 = .ok (.iload 5, 2) := by decide +kernel
theorem d_CertificateReader_readModulus_70 : decode b_CertificateReader_readModulus 70 = .ok (.ifCond .le 26, 3) := by decide +kernel
theorem d_CertificateReader_readModulus_73 : decode b_CertificateReader_readModulus 73 = .ok (.aload_n 2, 1) := by decide +kernel
theorem d_CertificateReader_readModulus_74 : decode b_CertificateReader_readModulus 74 = .ok (.iconst 0, 1) := by decide +kernel
theorem d_CertificateReader_readModulus_75 : decode b_CertificateReader_readModulus 75 = .ok (.invokevirtual 144, 3) := by decide +kernel
theorem d_CertificateReader_readModulus_78 : decode b_CertificateReader_readModulus 78 = .ok (.iload 5, 2) := by decide +kernel
theorem d_CertificateReader_readModulus_80 : decode b_CertificateReader_readModulus 80 = .ok (.iand, 1) := by decide +kernel
theorem d_CertificateReader_readModulus_81 : decode b_CertificateReader_readModulus 81 = .ok (.ifCond .ne 15, 3) := by decide +kernel
theorem d_CertificateReader_readModulus_84 : decode b_CertificateReader_readModulus 84 = .ok (.iinc 4 (-1), 3) := by decide +kernel
theorem d_CertificateReader_readModulus_87 : decode b_CertificateReader_readModulus 87 = .ok (.iload 5, 2) := by decide +kernel
theorem d_CertificateReader_readModulus_89 : decode b_CertificateReader_readModulus 89 = .ok (.iconst 1, 1) := by decide +kernel
theorem d_CertificateReader_readModulus_90 : decode b_CertificateReader_readModulus 90 = .ok (.ishr, 1) := by decide +kernel
theorem d_CertificateReader_readModulus_91 : decode b_CertificateReader_readModulus 91 = .ok (.istore 5, 2) := by decide +kernel
theorem d_CertificateReader_readModulus_93 : decode b_CertificateReader_readModulus 93 = .ok (.goto (-25), 3) := by decide +kernel
theorem d_CertificateReader_readModulus_96 : decode b_CertificateReader_readModulus 96 = .ok (.aload_n 2, 1) := by decide +kernel
theorem d_CertificateReader_readModulus_97 : decode b_CertificateReader_readModulus 97 = .ok (.aload_n 2, 1) := by decide +kernel
theorem d_CertificateReader_readModulus_98 : decode b_CertificateReader_readModulus 98 = .ok (.invokevirtual 153, 3) := by decide +kernel
theorem d_CertificateReader_readModulus_101 : decode b_CertificateReader_readModulus 101 = .ok (.iconst 1, 1) := by decide +kernel
theorem d_CertificateReader_readModulus_102 : decode b_CertificateReader_readModulus 102 = .ok (.isub, 1) := by decide +kernel
theorem d_CertificateReader_readModulus_103 : decode b_CertificateReader_readModulus 103 = .ok (.invokevirtual 144, 3) := by decide +kernel
theorem d_CertificateReader_readModulus_106 : decode b_CertificateReader_readModulus 106 = .ok (.iconst 1, 1) := by decide +kernel
theorem d_CertificateReader_readModulus_107 : decode b_CertificateReader_readModulus 107 = .ok (.iand, 1) := by decide +kernel
theorem d_CertificateReader_readModulus_108 : decode b_CertificateReader_readModulus 108 = .ok (.iconst 1, 1) := by decide +kernel
theorem d_CertificateReader_readModulus_109 : decode b_CertificateReader_readModulus 109 = .ok (.if_icmp .ne 7, 3) := by decide +kernel
theorem d_CertificateReader_readModulus_112 : decode b_CertificateReader_readModulus 112 = .ok (.iconst 1, 1) := by decide +kernel
theorem d_CertificateReader_readModulus_113 : decode b_CertificateReader_readModulus 113 = .ok (.goto 4, 3) := by decide +kernel
theorem d_CertificateReader_readModulus_116 : decode b_CertificateReader_readModulus 116 = .ok (.iconst 0, 1) := by decide +kernel
theorem d_CertificateReader_readModulus_117 : decode b_CertificateReader_readModulus 117 = .ok (.istore 5, 2) := by decide +kernel
theorem d_CertificateReader_readModulus_119 : decode b_CertificateReader_readModulus 119 = .ok (.aload_n 0, 1) := by decide +kernel
theorem d_CertificateReader_readModulus_120 : decode b_CertificateReader_readModulus 120 = .ok (.iload_n 3, 1) := by decide +kernel
theorem d_CertificateReader_readModulus_121 : decode b_CertificateReader_readModulus 121 = .ok (.ifCond .eq 28, 3) := by decide +kernel
theorem d_CertificateReader_readModulus_124 : decode b_CertificateReader_readModulus 124 = .ok (.iload 5, 2) := by decide +kernel
theorem d_CertificateReader_readModulus_126 : decode b_CertificateReader_readModulus 126 = .ok (.ifCond .eq 23, 3) := by decide +kernel
theorem d_CertificateReader_readModulus_129 : decode b_CertificateReader_readModulus 129 = .ok (.iload 4, 2) := by decide +kernel
theorem d_CertificateReader_readModulus_131 : decode b_CertificateReader_readModulus 131 = .ok (.sipush 496, 3) := by decide +kernel
theorem d_CertificateReader_readModulus_134 : decode b_CertificateReader_readModulus 134 = .ok (.if_icmp .lt 15, 3) := by decide +kernel
theorem d_CertificateReader_readModulus_137 : decode b_CertificateReader_readModulus 137 = .ok (.iload 4, 2) := by decide +kernel
theorem d_CertificateReader_readModulus_139 : decode b_CertificateReader_readModulus 139 = .ok (.sipush 2048, 3) := by decide +kernel
theorem d_CertificateReader_readModulus_142 : decode b_CertificateReader_readModulus 142 = .ok (.if_icmp .gt 7, 3) := by decide +kernel
theorem d_CertificateReader_readModulus_145 : decode b_CertificateReader_readModulus 145 = .ok (.iconst 1, 1) := by decide +kernel
theorem d_CertificateReader_readModulus_146 : decode b_CertificateReader_readModulus 146 = .ok (.goto 4, 3) := by decide +kernel
theorem d_CertificateReader_readModulus_149 : decode b_CertificateReader_readModulus 149 = .ok (.iconst 0, 1) := by decide +kernel
theorem d_CertificateReader_readModulus_150 : decode b_CertificateReader_readModulus 150 = .ok (.invokevirtual 79, 3) := by decide +kernel
theorem d_CertificateReader_readModulus_153 : decode b_CertificateReader_readModulus 153 = .ok (.aload_n 0, 1) := by decide +kernel
theorem d_CertificateReader_readModulus_154 : decode b_CertificateReader_readModulus 154 = .ok (.getfield 19, 3) := by decide +kernel
theorem d_CertificateReader_readModulus_157 : decode b_CertificateReader_readModulus 157 = .ok (.aload_n 2, 1) := by decide +kernel
theorem d_CertificateReader_readModulus_158 : decode b_CertificateReader_readModulus 158 = .ok (.putfield 157, 3) := by decide +kernel
theorem d_CertificateReader_readModulus_161 : decode b_CertificateReader_readModulus 161 = .ok (.aload_n 0, 1) := by decide +kernel
theorem d_CertificateReader_readModulus_162 : decode b_CertificateReader_readModulus 162 = .ok (.getfield 19, 3) := by decide +kernel
theorem d_CertificateReader_readModulus_165 : decode b_CertificateReader_readModulus 165 = .ok (.iload 4, 2) := by decide +kernel
theorem d_CertificateReader_readModulus_167 : decode b_CertificateReader_readModulus 167 = .ok (.putfield 160, 3) := by decide +kernel
theorem d_CertificateReader_readModulus_170 : decode b_CertificateReader_readModulus 170 = .ok (.return_, 1) := by decide +kernel
set_option maxHeartbeats 4000000 in
set_option maxRecDepth 100000 in
theorem eC_readModulus (l : Launch) (dC : Nat → ClassId) (dI : Nat → Nat → Nat) (sb : sB) (h res t ki : Nat) (pa ma ex : Int32) (cB : ClassId) (k0 k1 k2 k3 k4 k5 k6 k7 k19 k20 k21 k22 k23 k24 : Nat) (k8 k9 k10 k11 k12 k13 k14 k15 k16 k17 k18 k27 : Int32) (k25 k26 : Int64) (sz : Nat) : Met l y_CertificateReader_readModulus w_CertificateReader_readModulus ({ frames := 3, cells := 1, slots := 3, locals := 72 }) (mu_P [.ref h, .int (nI 0)] (dC, dI) sb [(h, .inr (4, [.ref res, .ref t, .int (nI 0), .int (nI 0), .int (wI (some 0)), .int pa, .int ma, .int ex, .ref ki])), (t, .inl (cB, 0, .inl (tx eU))), (res, .inr (3, [.ref k0, .ref k1, .ref k2, .ref k3, .ref k4, .ref k5, .ref k6, .ref k7, .int k8, .int k9, .int k10, .int k11, .int k12, .int k13, .int k14, .int k15, .int k16, .int k17, .int k18, .ref k19, .ref k20, .ref k21, .ref k22, .ref k23, .ref k24, .long k25, .long k26, .int k27]))] [(cB, .byte)] sz) (va_Qv (fun (_u : Nat × Int32) => True) (mu_B (dC, dI) [(cB, .byte)] (va_A [(h, .inr (4, [.ref res, .ref t, .int (nI 0), .int (nI 0), .int (wI (some 0)), .int pa, .int ma, .int ex, .ref ki])), (t, .inl (cB, 0, .inl (tx eU))), (res, .inr (3, [.ref k0, .ref k1, .ref k2, .ref k3, .ref k4, .ref k5, .ref k6, .ref k7, .int k8, .int k9, .int k10, .int k11, .int k12, .int k13, .int k14, .int k15, .int k16, .int k17, .int k18, .ref k19, .ref k20, .ref k21, .ref k22, .ref k23, .ref k24, .long k25, .long k26, .int k27]))] sz) (fun u' : Nat × Int32 => [(h, .inr (4, [.ref res, .ref t, .int (nI 0), .int (nI 0), .int (wI (some 0)), .int pa, .int ma, .int ex, .ref ki])), (t, .inl (cB, 0, .inl (tx eU))), (res, .inr (3, [.ref k0, .ref k1, .ref k2, .ref k3, .ref k4, .ref u'.1, .ref k6, .ref k7, .int k8, .int u'.2, .int k10, .int k11, .int k12, .int k13, .int k14, .int k15, .int k16, .int k17, .int k18, .ref k19, .ref k20, .ref k21, .ref k22, .ref k23, .ref k24, .long k25, .long k26, .int k27]))])) (va_A [(h, .inr (4, [.ref res, .ref t, .int (nI 0), .int (nI 0), .int (wI (some 0)), .int pa, .int ma, .int ex, .ref ki])), (t, .inl (cB, 0, .inl (tx eU))), (res, .inr (3, [.ref k0, .ref k1, .ref k2, .ref k3, .ref k4, .ref k5, .ref k6, .ref k7, .int k8, .int k9, .int k10, .int k11, .int k12, .int k13, .int k14, .int k15, .int k16, .int k17, .int k18, .ref k19, .ref k20, .ref k21, .ref k22, .ref k23, .ref k24, .long k25, .long k26, .int k27]))] sz)) 1 3 (va_A [(h, .inr (4, [.ref res, .ref t, .int (nI 0), .int (nI 0), .int (wI (some 0)), .int pa, .int ma, .int ex, .ref ki])), (t, .inl (cB, 0, .inl (tx eU))), (res, .inr (3, [.ref k0, .ref k1, .ref k2, .ref k3, .ref k4, .ref k5, .ref k6, .ref k7, .int k8, .int k9, .int k10, .int k11, .int k12, .int k13, .int k14, .int k15, .int k16, .int k17, .int k18, .ref k19, .ref k20, .ref k21, .ref k22, .ref k23, .ref k24, .long k25, .long k26, .int k27]))] sz) := by
  refine Met.ofW (cc := b_CertificateReader_readModulus) (maxL := 6) (ret := none) (by decide) rfl ?_
  intro p e s m args below meth c s₁ B hml hv
  obtain ⟨rfl, hsz, hB0, hP, hK, hD0, hN, hT0⟩ := hv
  have hx := B.exec
  have hb := B.bytes
  have hr := B.returns
  have hts := atoms_spec (ws := w_CertificateReader_readModulus) B.pre
  have tbin : ∀ w ∈ tb, w ∈ w_CertificateReader_readModulus := fun w h => List.mem_cons_of_mem _ h
  have htb : ∀ w ∈ tb, w.before _ s = true := fun w h => hts w (tbin w h)
  have hown : s.vm.findClass "TrustChain$CertificateReader" = some m.cls := findClass_of_methodNamed B.named
  have hlocks := B.notSynchronized
  subst hsz
  have hD := hD0.self (sz := s.heap.size)
  generalize hAe : va_A [(h, .inr (4, [.ref res, .ref t, .int (nI 0), .int (nI 0), .int (wI (some 0)), .int pa, .int ma, .int ex, .ref ki])), (t, .inl (cB, 0, .inl (tx eU))), (res, .inr (3, [.ref k0, .ref k1, .ref k2, .ref k3, .ref k4, .ref k5, .ref k6, .ref k7, .int k8, .int k9, .int k10, .int k11, .int k12, .int k13, .int k14, .int k15, .int k16, .int k17, .int k18, .ref k19, .ref k20, .ref k21, .ref k22, .ref k23, .ref k24, .long k25, .long k26, .int k27]))] s.heap.size = A at hD ⊢
  have hA : ∀ q : Nat, s.heap.size ≤ q → A q := fun q h => by rw [← hAe]; exact Or.inr h
  have hAs : ∀ q : Nat, A q → sb.1 ≤ q := fun q h => by
    rw [← hAe] at h
    rcases h with ⟨k, e, h⟩ | h
    · exact hD0.2 k _ h
    · exact Nat.le_trans hB0 h
  have hS : va_S A s.heap s.heap [] := va_S.rf
  have hcs : 1 ≤ (headSpec w_CertificateReader_readModulus ({ frames := 3, cells := 1, slots := 3, locals := 72 })).room.cells ∧ 3 ≤ (headSpec w_CertificateReader_readModulus ({ frames := 3, cells := 1, slots := 3, locals := 72 })).room.slots := ⟨Nat.le_refl _, Nat.le_refl _⟩
  have hP : va_P (dC, dI) classes [(h, .inr (4, [.ref res, .ref t, .int (nI 0), .int (nI 0), .int (wI (some 0)), .int pa, .int ma, .int ex, .ref ki])), (t, .inl (cB, 0, .inl (tx eU))), (res, .inr (3, [.ref k0, .ref k1, .ref k2, .ref k3, .ref k4, .ref k5, .ref k6, .ref k7, .int k8, .int k9, .int k10, .int k11, .int k12, .int k13, .int k14, .int k15, .int k16, .int k17, .int k18, .ref k19, .ref k20, .ref k21, .ref k22, .ref k23, .ref k24, .long k25, .long k26, .int k27]))] s.heap := hP
  have hl := lv_entry ([.ref h, .int (nI 0)]) (n := 6) (Nat.le_of_ble_eq_true rfl)
  rw [lg_entry_eq]
  generalize (lg_sl ([.ref h, .int (nI 0)]) ++ List.replicate (6 - (lg_sl ([.ref h, .int (nI 0)])).length) Slot.unset).toArray = ls at hl ⊢
  have hl : lv_has ls 6 [(0, .ref h), (1, .int (nI 0))] := hl
  refine lv_aload_n hx hb d_CertificateReader_readModulus_0 rfl (lv_at hl 0 rfl) ?_
  refine lv_iconst (v := 2) hx hb d_CertificateReader_readModulus_1 (by decide) ?_
  refine lv_iload_n hx hb d_CertificateReader_readModulus_2 rfl (lv_at hl 1 rfl) ?_
  have hFc := va_free (wc := [(h, .inr (4, [.ref res, .ref t, .int (nI 0), .int (nI 0), .int (wI (some 0)), .int pa, .int ma, .int ex, .ref ki])), (t, .inl (cB, 0, .inl (tx eU)))]) hD hS hA [0, 1] rfl
  refine va_callr (mu_runU (As := [.int 2, .int (nI 0)]) (rest := []) ⟨hx, hb, hml, hown, hts⟩ (cC_number l dC dI sb h res t ki 0 (0, 0, (some 0)) pa ma ex 0 cB eU 2 0 s.heap.size eU_lt (by decide) ei_0 (Nat.le_refl 0) (by decide)) (cu_of (n := 2) hts tbin q3_124 q3_125 q3_128 q3_127 q1_15 q3_129 rfl (by decide +kernel) ⟨rfl, rfl⟩ ⟨Nat.le_of_ble_eq_true rfl, Nat.le_of_ble_eq_true rfl⟩) rfl ⟨Nat.le_of_ble_eq_true rfl, Nat.le_of_ble_eq_true rfl⟩ hN (hT0.keep hS hAs) hAs (Nat.le_trans hB0 hS.1) hK hP hD [0, 1] (by decide) rfl [0] rfl 0 4 rfl rfl rfl hl.1 rfl (Nat.le_of_ble_eq_true rfl) d_CertificateReader_readModulus_3) hS (fun q _ h => hFc q h) hFc (fun u3 q3 tS H3 locs ht hvm hw3 hB hz1 hk1 hS => ?_)
  obtain ⟨x3, rfl⟩ : ∃ z, z = u3 := ⟨_, rfl⟩
  obtain ⟨hP1, hK1, hD1⟩ := hB
  rw [ht] at hP1
  obtain ⟨hP, hD⟩ := va_join (wr := [(res, .inr (3, [.ref k0, .ref k1, .ref k2, .ref k3, .ref k4, .ref k5, .ref k6, .ref k7, .int k8, .int k9, .int k10, .int k11, .int k12, .int k13, .int k14, .int k15, .int k16, .int k17, .int k18, .ref k19, .ref k20, .ref k21, .ref k22, .ref k23, .ref k24, .long k25, .long k26, .int k27]))]) (w1 := [(h, .inr (4, [.ref res, .ref t, .int (nI x3.1), .int (nI x3.2.1), .int (wI x3.2.2), .int pa, .int ma, .int ex, .ref ki])), (t, .inl (cB, 0, .inl (tx eU))), (q3, .inr (0, [.ref t, .int (nI (rd_nm eU 0 (0, 0, (some 0)) 2 0).2.1), .int (nI (rd_nm eU 0 (0, 0, (some 0)) 2 0).2.2)]))]) hP hD [0, 1] [2] rfl rfl (by decide) (by decide) hk1 hFc hP1 hD1
  have hP : va_P (dC, dI) classes [(res, .inr (3, [.ref k0, .ref k1, .ref k2, .ref k3, .ref k4, .ref k5, .ref k6, .ref k7, .int k8, .int k9, .int k10, .int k11, .int k12, .int k13, .int k14, .int k15, .int k16, .int k17, .int k18, .ref k19, .ref k20, .ref k21, .ref k22, .ref k23, .ref k24, .long k25, .long k26, .int k27])), (h, .inr (4, [.ref res, .ref t, .int (nI x3.1), .int (nI x3.2.1), .int (wI x3.2.2), .int pa, .int ma, .int ex, .ref ki])), (t, .inl (cB, 0, .inl (tx eU))), (q3, .inr (0, [.ref t, .int (nI (rd_nm eU 0 (0, 0, (some 0)) 2 0).2.1), .int (nI (rd_nm eU 0 (0, 0, (some 0)) 2 0).2.2)]))] H3 := hP
  have hD : va_D A [(res, .inr (3, [.ref k0, .ref k1, .ref k2, .ref k3, .ref k4, .ref k5, .ref k6, .ref k7, .int k8, .int k9, .int k10, .int k11, .int k12, .int k13, .int k14, .int k15, .int k16, .int k17, .int k18, .ref k19, .ref k20, .ref k21, .ref k22, .ref k23, .ref k24, .long k25, .long k26, .int k27])), (h, .inr (4, [.ref res, .ref t, .int (nI x3.1), .int (nI x3.2.1), .int (wI x3.2.2), .int pa, .int ma, .int ex, .ref ki])), (t, .inl (cB, 0, .inl (tx eU))), (q3, .inr (0, [.ref t, .int (nI (rd_nm eU 0 (0, 0, (some 0)) 2 0).2.1), .int (nI (rd_nm eU 0 (0, 0, (some 0)) 2 0).2.2)]))] := hD
  obtain rfl : x3 = ((0, 0, some 0) : rS) := hw3
  have hP : va_P (dC, dI) classes [(res, .inr (3, [.ref k0, .ref k1, .ref k2, .ref k3, .ref k4, .ref k5, .ref k6, .ref k7, .int k8, .int k9, .int k10, .int k11, .int k12, .int k13, .int k14, .int k15, .int k16, .int k17, .int k18, .ref k19, .ref k20, .ref k21, .ref k22, .ref k23, .ref k24, .long k25, .long k26, .int k27])), (h, .inr (4, [.ref res, .ref t, .int (nI 0), .int (nI 0), .int (wI (some 0)), .int pa, .int ma, .int ex, .ref ki])), (t, .inl (cB, 0, .inl (tx eU))), (q3, .inr (0, [.ref t, .int (nI 0), .int (nI 0)]))] H3 := hP
  have hD : va_D A [(res, .inr (3, [.ref k0, .ref k1, .ref k2, .ref k3, .ref k4, .ref k5, .ref k6, .ref k7, .int k8, .int k9, .int k10, .int k11, .int k12, .int k13, .int k14, .int k15, .int k16, .int k17, .int k18, .ref k19, .ref k20, .ref k21, .ref k22, .ref k23, .ref k24, .long k25, .long k26, .int k27])), (h, .inr (4, [.ref res, .ref t, .int (nI 0), .int (nI 0), .int (wI (some 0)), .int pa, .int ma, .int ex, .ref ki])), (t, .inl (cB, 0, .inl (tx eU))), (q3, .inr (0, [.ref t, .int (nI 0), .int (nI 0)]))] := hD
  refine lv_astore_n (lv' := [(2, .ref q3), (0, .ref h), (1, .int (nI 0))]) hx hb d_CertificateReader_readModulus_6 rfl hl (by decide) rfl (fun ls hl => ?_)
  refine lv_aload_n hx hb d_CertificateReader_readModulus_7 rfl (lv_at hl 0 rfl) ?_
  refine lv_iconst (v := 0) hx hb d_CertificateReader_readModulus_8 (by decide) ?_
  refine vp_callSi (pu_callV (As := [.int 0]) (rest := []) ⟨hx, hb, hml, hown, hts⟩ tbin (c_Slice_at l dC dI sb q3 t 0 0 0 cB eU 0 eU_lt (Nat.le_refl 0) (Nat.le_refl 0) (by decide)) q4_48 q3_149 q3_150 q1_22 q3_151 (n := 1) (by decide +kernel) rfl ⟨rfl, rfl⟩ ⟨Nat.le_of_ble_eq_true rfl, Nat.le_of_ble_eq_true rfl⟩ ⟨Nat.le_of_ble_eq_true rfl, Nat.le_of_ble_eq_true rfl⟩ hN (hT0.keep hS hAs) hK hP [3, 2] rfl [0] rfl 3 0 rfl rfl rfl hl.1 rfl (Nat.le_of_ble_eq_true rfl) d_CertificateReader_readModulus_9) (fun r9 hr9 => ?_)
  rw [sl_e] at hr9
  subst hr9
  refine lv_sipush (v := 128) hx hb d_CertificateReader_readModulus_12 (by decide) ?_
  refine lv_icmp_ge (tgt := 22) hx hb d_CertificateReader_readModulus_15 (by decide) (fun c15 => ?_) (fun c15 => ?_)
  · exact absurd c15 (by decide)
  refine lv_iconst (v := 1) hx hb d_CertificateReader_readModulus_18 (by decide) ?_
  refine lv_goto (tgt := 23) hx hb d_CertificateReader_readModulus_19 (by decide) ?_
  refine lv_istore_n (lv' := [(3, .int 1), (2, .ref q3), (0, .ref h), (1, .int (nI 0))]) hx hb d_CertificateReader_readModulus_23 rfl hl (by decide) rfl (fun ls hl => ?_)
  refine lv_aload_n hx hb d_CertificateReader_readModulus_24 rfl (lv_at hl 1 rfl) ?_
  refine lv_iconst (v := 0) hx hb d_CertificateReader_readModulus_25 (by decide) ?_
  refine vp_callSi (pu_callV (As := [.int 0]) (rest := []) ⟨hx, hb, hml, hown, hts⟩ tbin (c_Slice_at l dC dI sb q3 t 0 0 0 cB eU 0 eU_lt (Nat.le_refl 0) (Nat.le_refl 0) (by decide)) q4_48 q3_149 q3_150 q1_22 q3_151 (n := 1) (by decide +kernel) rfl ⟨rfl, rfl⟩ ⟨Nat.le_of_ble_eq_true rfl, Nat.le_of_ble_eq_true rfl⟩ ⟨Nat.le_of_ble_eq_true rfl, Nat.le_of_ble_eq_true rfl⟩ hN (hT0.keep hS hAs) hK hP [3, 2] rfl [0] rfl 3 0 rfl rfl rfl hl.1 rfl (Nat.le_of_ble_eq_true rfl) d_CertificateReader_readModulus_26) (fun r26 hr26 => ?_)
  rw [sl_e] at hr26
  subst hr26
  refine lv_if_ne (tgt := 54) hx hb d_CertificateReader_readModulus_29 (by decide) (fun c29 => ?_) (fun c29 => ?_)
  rotate_left
  · exact absurd c29 (by decide)
  refine lv_aload_n hx hb d_CertificateReader_readModulus_54 rfl (lv_at hl 1 rfl) ?_
  refine vp_callSi (pu_callV (As := []) (rest := []) ⟨hx, hb, hml, hown, hts⟩ tbin (c_Slice_length l dC dI sb q3 t 0 0 (Nat.le_refl 0)) q4_49 q3_144 q3_145 q1_22 q3_146 (n := 0) (by decide +kernel) rfl ⟨rfl, rfl⟩ ⟨Nat.le_of_ble_eq_true rfl, Nat.le_of_ble_eq_true rfl⟩ ⟨Nat.le_of_ble_eq_true rfl, Nat.le_of_ble_eq_true rfl⟩ hN (hT0.keep hS hAs) hK hP [3] rfl [] rfl 3 0 rfl rfl rfl hl.1 rfl (Nat.le_of_ble_eq_true rfl) d_CertificateReader_readModulus_55) (fun r55 hr55 => ?_)
  subst hr55
  refine lv_bipush (v := 8) hx hb d_CertificateReader_readModulus_58 (by decide) ?_
  refine lv_imul hx hb d_CertificateReader_readModulus_60 ?_
  refine lv_istore (lv' := [(4, .int ((nI (0 - 0)) * 8)), (3, .int 1), (2, .ref q3), (0, .ref h), (1, .int (nI 0))]) hx hb d_CertificateReader_readModulus_61 hl (by decide) rfl (fun ls hl => ?_)
  refine lv_sipush (v := 128) hx hb d_CertificateReader_readModulus_63 (by decide) ?_
  refine lv_istore (lv' := [(5, .int 128), (4, .int ((nI (0 - 0)) * 8)), (3, .int 1), (2, .ref q3), (0, .ref h), (1, .int (nI 0))]) hx hb d_CertificateReader_readModulus_66 hl (by decide) rfl (fun ls hl => ?_)
  refine lv_iload hx hb d_CertificateReader_readModulus_68 (lv_at hl 0 rfl) ?_
  refine lv_if_le (tgt := 96) hx hb d_CertificateReader_readModulus_70 (by decide) (fun c70 => ?_) (fun c70 => ?_)
  · exact absurd c70 (by decide)
  refine lv_aload_n hx hb d_CertificateReader_readModulus_73 rfl (lv_at hl 3 rfl) ?_
  refine lv_iconst (v := 0) hx hb d_CertificateReader_readModulus_74 (by decide) ?_
  refine vp_callSi (pu_callV (As := [.int 0]) (rest := []) ⟨hx, hb, hml, hown, hts⟩ tbin (c_Slice_at l dC dI sb q3 t 0 0 0 cB eU 0 eU_lt (Nat.le_refl 0) (Nat.le_refl 0) (by decide)) q4_48 q3_149 q3_150 q1_22 q3_151 (n := 1) (by decide +kernel) rfl ⟨rfl, rfl⟩ ⟨Nat.le_of_ble_eq_true rfl, Nat.le_of_ble_eq_true rfl⟩ ⟨Nat.le_of_ble_eq_true rfl, Nat.le_of_ble_eq_true rfl⟩ hN (hT0.keep hS hAs) hK hP [3, 2] rfl [0] rfl 3 0 rfl rfl rfl hl.1 rfl (Nat.le_of_ble_eq_true rfl) d_CertificateReader_readModulus_75) (fun r75 hr75 => ?_)
  rw [sl_e] at hr75
  subst hr75
  refine lv_iload hx hb d_CertificateReader_readModulus_78 (lv_at hl 0 rfl) ?_
  refine lv_iand hx hb d_CertificateReader_readModulus_80 ?_
  refine lv_if_ne (tgt := 96) hx hb d_CertificateReader_readModulus_81 (by decide) (fun c81 => ?_) (fun c81 => ?_)
  rotate_left
  · exact absurd c81 (by decide)
  refine lv_aload_n hx hb d_CertificateReader_readModulus_96 rfl (lv_at hl 3 rfl) ?_
  refine lv_aload_n hx hb d_CertificateReader_readModulus_97 rfl (lv_at hl 3 rfl) ?_
  refine vp_callSi (pu_callV (As := []) (rest := [.ref q3]) ⟨hx, hb, hml, hown, hts⟩ tbin (c_Slice_length l dC dI sb q3 t 0 0 (Nat.le_refl 0)) q4_49 q3_144 q3_145 q1_22 q3_146 (n := 0) (by decide +kernel) rfl ⟨rfl, rfl⟩ ⟨Nat.le_of_ble_eq_true rfl, Nat.le_of_ble_eq_true rfl⟩ ⟨Nat.le_of_ble_eq_true rfl, Nat.le_of_ble_eq_true rfl⟩ hN (hT0.keep hS hAs) hK hP [3] rfl [] rfl 3 0 rfl rfl rfl hl.1 rfl (Nat.le_of_ble_eq_true rfl) d_CertificateReader_readModulus_98) (fun r98 hr98 => ?_)
  subst hr98
  refine lv_iconst (v := 1) hx hb d_CertificateReader_readModulus_101 (by decide) ?_
  refine lv_isub hx hb d_CertificateReader_readModulus_102 ?_
  refine vp_callSi (pu_callV (As := [.int ((nI (0 - 0)) - 1)]) (rest := []) ⟨hx, hb, hml, hown, hts⟩ tbin (c_Slice_at l dC dI sb q3 t 0 0 0 cB eU ((nI (0 - 0)) - 1) eU_lt (Nat.le_refl 0) (Nat.le_refl 0) (by decide)) q4_48 q3_149 q3_150 q1_22 q3_151 (n := 1) (by decide +kernel) rfl ⟨rfl, rfl⟩ ⟨Nat.le_of_ble_eq_true rfl, Nat.le_of_ble_eq_true rfl⟩ ⟨Nat.le_of_ble_eq_true rfl, Nat.le_of_ble_eq_true rfl⟩ hN (hT0.keep hS hAs) hK hP [3, 2] rfl [0] rfl 3 0 rfl rfl rfl hl.1 rfl (Nat.le_of_ble_eq_true rfl) d_CertificateReader_readModulus_103) (fun r103 hr103 => ?_)
  rw [sl_e] at hr103
  subst hr103
  refine lv_iconst (v := 1) hx hb d_CertificateReader_readModulus_106 (by decide) ?_
  refine lv_iand hx hb d_CertificateReader_readModulus_107 ?_
  refine lv_iconst (v := 1) hx hb d_CertificateReader_readModulus_108 (by decide) ?_
  refine lv_icmp_ne (tgt := 116) hx hb d_CertificateReader_readModulus_109 (by decide) (fun c109 => ?_) (fun c109 => ?_)
  · exact absurd c109 (by decide)
  refine lv_iconst (v := 1) hx hb d_CertificateReader_readModulus_112 (by decide) ?_
  refine lv_goto (tgt := 117) hx hb d_CertificateReader_readModulus_113 (by decide) ?_
  refine lv_istore (lv' := [(5, .int 1), (4, .int ((nI (0 - 0)) * 8)), (3, .int 1), (2, .ref q3), (0, .ref h), (1, .int (nI 0))]) hx hb d_CertificateReader_readModulus_117 hl (by decide) rfl (fun ls hl => ?_)
  refine lv_aload_n hx hb d_CertificateReader_readModulus_119 rfl (lv_at hl 4 rfl) ?_
  refine lv_iload_n hx hb d_CertificateReader_readModulus_120 rfl (lv_at hl 2 rfl) ?_
  refine lv_if_eq (tgt := 149) hx hb d_CertificateReader_readModulus_121 (by decide) (fun c121 => ?_) (fun c121 => ?_)
  · exact absurd c121 (by decide)
  refine lv_iload hx hb d_CertificateReader_readModulus_124 (lv_at hl 0 rfl) ?_
  refine lv_if_eq (tgt := 149) hx hb d_CertificateReader_readModulus_126 (by decide) (fun c126 => ?_) (fun c126 => ?_)
  · exact absurd c126 (by decide)
  refine lv_iload hx hb d_CertificateReader_readModulus_129 (lv_at hl 1 rfl) ?_
  refine lv_sipush (v := 496) hx hb d_CertificateReader_readModulus_131 (by decide) ?_
  refine lv_icmp_lt (tgt := 149) hx hb d_CertificateReader_readModulus_134 (by decide) (fun c134 => ?_) (fun c134 => ?_)
  rotate_left
  · exact absurd c134 (by decide)
  refine lv_iconst (v := 0) hx hb d_CertificateReader_readModulus_149 (by decide) ?_
  have hFc := va_free (wc := [(h, .inr (4, [.ref res, .ref t, .int (nI 0), .int (nI 0), .int (wI (some 0)), .int pa, .int ma, .int ex, .ref ki]))]) hD hS hA [1] rfl
  refine va_callv (mu_runU (As := [.int 0]) (rest := []) ⟨hx, hb, hml, hown, hts⟩ (cC_require l dC dI sb h res t ki 0 0 0 (some 0) pa ma ex 0 cB eU 0 H3.size ew_0) (cu_of (n := 1) hts tbin q3_153 q3_154 q3_157 q3_156 q1_15 q3_158 rfl (by decide +kernel) ⟨rfl, rfl⟩ ⟨Nat.le_of_ble_eq_true rfl, Nat.le_of_ble_eq_true rfl⟩) rfl ⟨Nat.le_of_ble_eq_true rfl, Nat.le_of_ble_eq_true rfl⟩ hN (hT0.keep hS hAs) hAs (Nat.le_trans hB0 hS.1) hK hP hD [1] (by decide) rfl [] rfl 1 4 rfl rfl rfl hl.1 rfl (Nat.le_of_ble_eq_true rfl) d_CertificateReader_readModulus_150) hS (fun q _ h => hFc q h) hFc (fun u150 tS H150 locs ht hvm hw150 hB hz1 hk1 hS => ?_)
  obtain ⟨x150, rfl⟩ : ∃ z, z = u150 := ⟨_, rfl⟩
  obtain ⟨hP1, hK1, hD1⟩ := hB
  rw [ht] at hP1
  obtain ⟨hP, hD⟩ := va_join (wr := [(res, .inr (3, [.ref k0, .ref k1, .ref k2, .ref k3, .ref k4, .ref k5, .ref k6, .ref k7, .int k8, .int k9, .int k10, .int k11, .int k12, .int k13, .int k14, .int k15, .int k16, .int k17, .int k18, .ref k19, .ref k20, .ref k21, .ref k22, .ref k23, .ref k24, .long k25, .long k26, .int k27])), (t, .inl (cB, 0, .inl (tx eU))), (q3, .inr (0, [.ref t, .int (nI 0), .int (nI 0)]))]) (w1 := [(h, .inr (4, [.ref res, .ref t, .int (nI x150.1), .int (nI x150.2.1), .int (wI x150.2.2), .int pa, .int ma, .int ex, .ref ki]))]) hP hD [1] [0, 2, 3] rfl rfl (by decide) (by decide) hk1 hFc hP1 hD1
  have hP : va_P (dC, dI) classes [(res, .inr (3, [.ref k0, .ref k1, .ref k2, .ref k3, .ref k4, .ref k5, .ref k6, .ref k7, .int k8, .int k9, .int k10, .int k11, .int k12, .int k13, .int k14, .int k15, .int k16, .int k17, .int k18, .ref k19, .ref k20, .ref k21, .ref k22, .ref k23, .ref k24, .long k25, .long k26, .int k27])), (t, .inl (cB, 0, .inl (tx eU))), (q3, .inr (0, [.ref t, .int (nI 0), .int (nI 0)])), (h, .inr (4, [.ref res, .ref t, .int (nI x150.1), .int (nI x150.2.1), .int (wI x150.2.2), .int pa, .int ma, .int ex, .ref ki]))] H150 := hP
  have hD : va_D A [(res, .inr (3, [.ref k0, .ref k1, .ref k2, .ref k3, .ref k4, .ref k5, .ref k6, .ref k7, .int k8, .int k9, .int k10, .int k11, .int k12, .int k13, .int k14, .int k15, .int k16, .int k17, .int k18, .ref k19, .ref k20, .ref k21, .ref k22, .ref k23, .ref k24, .long k25, .long k26, .int k27])), (t, .inl (cB, 0, .inl (tx eU))), (q3, .inr (0, [.ref t, .int (nI 0), .int (nI 0)])), (h, .inr (4, [.ref res, .ref t, .int (nI x150.1), .int (nI x150.2.1), .int (wI x150.2.2), .int pa, .int ma, .int ex, .ref ki]))] := hD
  obtain rfl : x150 = ((0, 0, some 0) : rS) := hw150
  have hP : va_P (dC, dI) classes [(res, .inr (3, [.ref k0, .ref k1, .ref k2, .ref k3, .ref k4, .ref k5, .ref k6, .ref k7, .int k8, .int k9, .int k10, .int k11, .int k12, .int k13, .int k14, .int k15, .int k16, .int k17, .int k18, .ref k19, .ref k20, .ref k21, .ref k22, .ref k23, .ref k24, .long k25, .long k26, .int k27])), (t, .inl (cB, 0, .inl (tx eU))), (q3, .inr (0, [.ref t, .int (nI 0), .int (nI 0)])), (h, .inr (4, [.ref res, .ref t, .int (nI 0), .int (nI 0), .int (wI (some 0)), .int pa, .int ma, .int ex, .ref ki]))] H150 := hP
  have hD : va_D A [(res, .inr (3, [.ref k0, .ref k1, .ref k2, .ref k3, .ref k4, .ref k5, .ref k6, .ref k7, .int k8, .int k9, .int k10, .int k11, .int k12, .int k13, .int k14, .int k15, .int k16, .int k17, .int k18, .ref k19, .ref k20, .ref k21, .ref k22, .ref k23, .ref k24, .long k25, .long k26, .int k27])), (t, .inl (cB, 0, .inl (tx eU))), (q3, .inr (0, [.ref t, .int (nI 0), .int (nI 0)])), (h, .inr (4, [.ref res, .ref t, .int (nI 0), .int (nI 0), .int (wI (some 0)), .int pa, .int ma, .int ex, .ref ki]))] := hD
  refine lv_aload_n hx hb d_CertificateReader_readModulus_153 rfl (lv_at hl 4 rfl) ?_
  refine va_get (v := .ref res) hx hb htb i_CertificateReader hown hK hP 3 rfl rfl 0 (by decide) (htb _ q3_55) (fun _ h9 => h9) rfl d_CertificateReader_readModulus_154 ?_
  refine lv_aload_n hx hb d_CertificateReader_readModulus_157 rfl (lv_at hl 3 rfl) ?_
  refine va_put (v := .ref q3) (ty := (.object "TrustChain$Slice")) hx hb htb i_Certificate t_Certificate t_Certificate_ok n_Certificate hown hK hP hD hS 0 rfl rfl 5 (by decide) (htb _ q2_155) (fun _ h9 => h9) rfl (by decide +kernel) rfl rfl (Nat.le_of_ble_eq_true rfl) d_CertificateReader_readModulus_158 (fun H158 locs hP hD hS => ?_)
  have hP : va_P (dC, dI) classes [(res, .inr (3, [.ref k0, .ref k1, .ref k2, .ref k3, .ref k4, .ref q3, .ref k6, .ref k7, .int k8, .int k9, .int k10, .int k11, .int k12, .int k13, .int k14, .int k15, .int k16, .int k17, .int k18, .ref k19, .ref k20, .ref k21, .ref k22, .ref k23, .ref k24, .long k25, .long k26, .int k27])), (t, .inl (cB, 0, .inl (tx eU))), (q3, .inr (0, [.ref t, .int (nI 0), .int (nI 0)])), (h, .inr (4, [.ref res, .ref t, .int (nI 0), .int (nI 0), .int (wI (some 0)), .int pa, .int ma, .int ex, .ref ki]))] H158 := hP
  have hD : va_D A [(res, .inr (3, [.ref k0, .ref k1, .ref k2, .ref k3, .ref k4, .ref q3, .ref k6, .ref k7, .int k8, .int k9, .int k10, .int k11, .int k12, .int k13, .int k14, .int k15, .int k16, .int k17, .int k18, .ref k19, .ref k20, .ref k21, .ref k22, .ref k23, .ref k24, .long k25, .long k26, .int k27])), (t, .inl (cB, 0, .inl (tx eU))), (q3, .inr (0, [.ref t, .int (nI 0), .int (nI 0)])), (h, .inr (4, [.ref res, .ref t, .int (nI 0), .int (nI 0), .int (wI (some 0)), .int pa, .int ma, .int ex, .ref ki]))] := hD
  refine lv_aload_n hx hb d_CertificateReader_readModulus_161 rfl (lv_at hl 4 rfl) ?_
  refine va_get (v := .ref res) hx hb htb i_CertificateReader hown hK hP 3 rfl rfl 0 (by decide) (htb _ q3_55) (fun _ h9 => h9) rfl d_CertificateReader_readModulus_162 ?_
  refine lv_iload hx hb d_CertificateReader_readModulus_165 (lv_at hl 1 rfl) ?_
  refine lv_topi (fun v167 ev167 => ?_)
  refine va_put (v := .int v167) (ty := .int) hx hb htb i_Certificate t_Certificate t_Certificate_ok n_Certificate hown hK hP hD hS 0 rfl rfl 9 (by decide) (htb _ q2_165) (fun _ h9 => h9) rfl (by decide +kernel) rfl rfl (Nat.le_of_ble_eq_true rfl) d_CertificateReader_readModulus_167 (fun H167 locs hP hD hS => ?_)
  have hP : va_P (dC, dI) classes [(res, .inr (3, [.ref k0, .ref k1, .ref k2, .ref k3, .ref k4, .ref q3, .ref k6, .ref k7, .int k8, .int v167, .int k10, .int k11, .int k12, .int k13, .int k14, .int k15, .int k16, .int k17, .int k18, .ref k19, .ref k20, .ref k21, .ref k22, .ref k23, .ref k24, .long k25, .long k26, .int k27])), (t, .inl (cB, 0, .inl (tx eU))), (q3, .inr (0, [.ref t, .int (nI 0), .int (nI 0)])), (h, .inr (4, [.ref res, .ref t, .int (nI 0), .int (nI 0), .int (wI (some 0)), .int pa, .int ma, .int ex, .ref ki]))] H167 := hP
  have hD : va_D A [(res, .inr (3, [.ref k0, .ref k1, .ref k2, .ref k3, .ref k4, .ref q3, .ref k6, .ref k7, .int k8, .int v167, .int k10, .int k11, .int k12, .int k13, .int k14, .int k15, .int k16, .int k17, .int k18, .ref k19, .ref k20, .ref k21, .ref k22, .ref k23, .ref k24, .long k25, .long k26, .int k27])), (t, .inl (cB, 0, .inl (tx eU))), (q3, .inr (0, [.ref t, .int (nI 0), .int (nI 0)])), (h, .inr (4, [.ref res, .ref t, .int (nI 0), .int (nI 0), .int (wI (some 0)), .int pa, .int ma, .int ex, .ref ki]))] := hD
  exact W.vret hx hb hr (fun t ht hW => ⟨⟨(q3, v167), rfl, trivial, by rw [ht]; exact hP.sub [3, 1, 0] rfl, va_K.moved hW.alike hK, hD.sub [3, 1, 0] (by decide) rfl⟩, hS.F ht⟩) hS.2.2 d_CertificateReader_readModulus_170
def y_CertificateReader_readKey : MethodName := ⟨"TrustChain$CertificateReader", "readKey", "(I)V"⟩
abbrev b_CertificateReader_readKey : ByteArray := prog_3_method_4_code
def w_CertificateReader_readKey : List Cond := Cond.code y_CertificateReader_readKey b_CertificateReader_readKey 7 (none) :: tb
theorem d_CertificateReader_readKey_0 : decode b_CertificateReader_readKey 0 = .ok (.aload_n 0, 1) := by decide +kernel
theorem d_CertificateReader_readKey_1 : decode b_CertificateReader_readKey 1 = .ok (.bipush 48, 2) := by decide +kernel
theorem d_CertificateReader_readKey_3 : decode b_CertificateReader_readKey 3 = .ok (.iload_n 1, 1) := by decide +kernel
theorem d_CertificateReader_readKey_4 : decode b_CertificateReader_readKey 4 = .ok (.invokevirtual 29, 3) := by decide +kernel
theorem d_CertificateReader_readKey_7 : decode b_CertificateReader_readKey 7 = .ok (.istore_n 2, 1) := by decide +kernel
theorem d_CertificateReader_readKey_8 : decode b_CertificateReader_readKey 8 = .ok (.aload_n 0, 1) := by decide +kernel
theorem d_CertificateReader_readKey_9 : decode b_CertificateReader_readKey 9 = .ok (.iconst 1, 1) := by decide +kernel
theorem d_CertificateReader_readKey_10 : decode b_CertificateReader_readKey 10 = .ok (.iload_n 2, 1) := by decide +kernel
theorem d_CertificateReader_readKey_11 : decode b_CertificateReader_readKey 11 = .ok (.invokevirtual 89, 3) := by decide +kernel
theorem d_CertificateReader_readKey_14 : decode b_CertificateReader_readKey 14 = .ok (.aload_n 0, 1) := by decide +kernel
theorem d_CertificateReader_readKey_15 : decode b_CertificateReader_readKey 15 = .ok (.iload_n 2, 1) := by decide +kernel
theorem d_CertificateReader_readKey_16 : decode b_CertificateReader_readKey 16 = .ok (.invokevirtual 130, 3) := by decide +kernel
theorem d_CertificateReader_readKey_19 : decode b_CertificateReader_readKey 19 = .ok (.istore_n 3, 1) := by decide +kernel
theorem d_CertificateReader_readKey_20 : decode b_CertificateReader_readKey 20 = .ok (.aload_n 0, 1) := by decide +kernel
theorem d_CertificateReader_readKey_21 : decode b_CertificateReader_readKey 21 = .ok (.bipush 48, 2) := by decide +kernel
theorem d_CertificateReader_readKey_23 : decode b_CertificateReader_readKey 23 = .ok (.iload_n 3, 1) := by decide +kernel
theorem d_CertificateReader_readKey_24 : decode b_CertificateReader_readKey 24 = .ok (.invokevirtual 29, 3) := by decide +kernel
theorem d_CertificateReader_readKey_27 : decode b_CertificateReader_readKey 27 = .ok (.istore 4, 2) := by decide +kernel
theorem d_CertificateReader_readKey_29 : decode b_CertificateReader_readKey 29 = .ok (.aload_n 0, 1) := by decide +kernel
theorem d_CertificateReader_readKey_30 : decode b_CertificateReader_readKey 30 = .ok (.iload 4, 2) := by decide +kernel
theorem d_CertificateReader_readKey_32 : decode b_CertificateReader_readKey 32 = .ok (.invokevirtual 134, 3) := by decide +kernel
theorem d_CertificateReader_readKey_35 : decode b_CertificateReader_readKey 35 = .ok (.aload_n 0, 1) := by decide +kernel
theorem d_CertificateReader_readKey_36 : decode b_CertificateReader_readKey 36 = .ok (.iconst 2, 1) := by decide +kernel
theorem d_CertificateReader_readKey_37 : decode b_CertificateReader_readKey 37 = .ok (.iload 4, 2) := by decide +kernel
theorem d_CertificateReader_readKey_39 : decode b_CertificateReader_readKey 39 = .ok (.invokevirtual 70, 3) := by decide +kernel
theorem d_CertificateReader_readKey_42 : decode b_CertificateReader_readKey 42 = .ok (.invokevirtual 74, 3) := by decide +kernel
theorem d_CertificateReader_readKey_45 : decode b_CertificateReader_readKey 45 = .ok (.lstore 5, 2) := by decide +kernel
theorem d_CertificateReader_readKey_47 : decode b_CertificateReader_readKey 47 = .ok (.aload_n 0, 1) := by decide +kernel
theorem d_CertificateReader_readKey_48 : decode b_CertificateReader_readKey 48 = .ok (.lload 5, 2) := by decide +kernel
theorem d_CertificateReader_readKey_50 : decode b_CertificateReader_readKey 50 = .ok (.ldc2_w 137, 3) := by decide +kernel
theorem d_CertificateReader_readKey_53 : decode b_CertificateReader_readKey 53 = .ok (.lcmp, 1) := by decide +kernel
theorem d_CertificateReader_readKey_54 : decode b_CertificateReader_readKey 54 = .ok (.ifCond .lt 25, 3) := by decide +kernel
theorem d_CertificateReader_readKey_57 : decode b_CertificateReader_readKey 57 = .ok (.lload 5, 2) := by decide +kernel
theorem d_CertificateReader_readKey_59 : decode b_CertificateReader_readKey 59 = .ok (.ldc2_w 139, 3) := by decide +kernel
theorem d_CertificateReader_readKey_62 : decode b_CertificateReader_readKey 62 = .ok (.lcmp, 1) := by decide +kernel
theorem d_CertificateReader_readKey_63 : decode b_CertificateReader_readKey 63 = .ok (.ifCond .gt 16, 3) := by decide +kernel
theorem d_CertificateReader_readKey_66 : decode b_CertificateReader_readKey 66 = .ok (.lload 5, 2) := by decide +kernel
theorem d_CertificateReader_readKey_68 : decode b_CertificateReader_readKey 68 = .ok (.lconst 1, 1) := by decide +kernel
theorem d_CertificateReader_readKey_69 : decode b_CertificateReader_readKey 69 = .ok (.land, 1) := by decide +kernel
theorem d_CertificateReader_readKey_70 : decode b_CertificateReader_readKey 70 = .ok (.lconst 1, 1) := by decide +kernel
theorem d_CertificateReader_readKey_71 : decode b_CertificateReader_readKey 71 = .ok (.lcmp, 1) := by decide +kernel
theorem d_CertificateReader_readKey_72 : decode b_CertificateReader_readKey 72 = .ok (.ifCond .ne 7, 3) := by decide +kernel
theorem d_CertificateReader_readKey_75 : decode b_CertificateReader_readKey 75 = .ok (.iconst 1, 1) := by decide +kernel
theorem d_CertificateReader_readKey_76 : decode b_CertificateReader_readKey 76 = .ok (.goto 4, 3) := by decide +kernel
theorem d_CertificateReader_readKey_79 : decode b_CertificateReader_readKey 79 = .ok (.iconst 0, 1) := by decide +kernel
theorem d_CertificateReader_readKey_80 : decode b_CertificateReader_readKey 80 = .ok (.invokevirtual 79, 3) := by decide +kernel
theorem d_CertificateReader_readKey_83 : decode b_CertificateReader_readKey 83 = .ok (.aload_n 0, 1) := by decide +kernel
theorem d_CertificateReader_readKey_84 : decode b_CertificateReader_readKey 84 = .ok (.getfield 19, 3) := by decide +kernel
theorem d_CertificateReader_readKey_87 : decode b_CertificateReader_readKey 87 = .ok (.lload 5, 2) := by decide +kernel
theorem d_CertificateReader_readKey_89 : decode b_CertificateReader_readKey 89 = .ok (.l2i, 1) := by decide +kernel
theorem d_CertificateReader_readKey_90 : decode b_CertificateReader_readKey 90 = .ok (.putfield 141, 3) := by decide +kernel
theorem d_CertificateReader_readKey_93 : decode b_CertificateReader_readKey 93 = .ok (.aload_n 0, 1) := by decide +kernel
theorem d_CertificateReader_readKey_94 : decode b_CertificateReader_readKey 94 = .ok (.iload 4, 2) := by decide +kernel
theorem d_CertificateReader_readKey_96 : decode b_CertificateReader_readKey 96 = .ok (.invokevirtual 51, 3) := by decide +kernel
theorem d_CertificateReader_readKey_99 : decode b_CertificateReader_readKey 99 = .ok (.aload_n 0, 1) := by decide +kernel
theorem d_CertificateReader_readKey_100 : decode b_CertificateReader_readKey 100 = .ok (.iload_n 3, 1) := by decide +kernel
theorem d_CertificateReader_readKey_101 : decode b_CertificateReader_readKey 101 = .ok (.invokevirtual 51, 3) := by decide +kernel
theorem d_CertificateReader_readKey_104 : decode b_CertificateReader_readKey 104 = .ok (.aload_n 0, 1) := by decide +kernel
theorem d_CertificateReader_readKey_105 : decode b_CertificateReader_readKey 105 = .ok (.iload_n 2, 1) := by decide +kernel
theorem d_CertificateReader_readKey_106 : decode b_CertificateReader_readKey 106 = .ok (.invokevirtual 51, 3) := by decide +kernel
theorem d_CertificateReader_readKey_109 : decode b_CertificateReader_readKey 109 = .ok (.return_, 1) := by decide +kernel
set_option maxHeartbeats 4000000 in
set_option maxRecDepth 100000 in
theorem eC_readKey (l : Launch) (dC : Nat → ClassId) (dI : Nat → Nat → Nat) (sb : sB) (h res t ki : Nat) (pa ma ex : Int32) (cB : ClassId) (k0 k1 k2 k3 k4 k5 k6 k7 k19 k20 k21 k22 k23 k24 : Nat) (k8 k9 k10 k11 k12 k13 k14 k15 k16 k17 k18 k27 : Int32) (k25 k26 : Int64) (sz : Nat) : Met l y_CertificateReader_readKey w_CertificateReader_readKey ({ frames := 4, cells := 2, slots := 6, locals := 97 }) (mu_P [.ref h, .int (nI 0)] (dC, dI) sb [(h, .inr (4, [.ref res, .ref t, .int (nI 0), .int (nI 0), .int (wI (some 0)), .int pa, .int ma, .int ex, .ref ki])), (t, .inl (cB, 0, .inl (tx eU))), (res, .inr (3, [.ref k0, .ref k1, .ref k2, .ref k3, .ref k4, .ref k5, .ref k6, .ref k7, .int k8, .int k9, .int k10, .int k11, .int k12, .int k13, .int k14, .int k15, .int k16, .int k17, .int k18, .ref k19, .ref k20, .ref k21, .ref k22, .ref k23, .ref k24, .long k25, .long k26, .int k27]))] [(cB, .byte)] sz) (va_Qv (fun (_u : Nat × Int32 × Int32) => True) (mu_B (dC, dI) [(cB, .byte)] (va_A [(h, .inr (4, [.ref res, .ref t, .int (nI 0), .int (nI 0), .int (wI (some 0)), .int pa, .int ma, .int ex, .ref ki])), (t, .inl (cB, 0, .inl (tx eU))), (res, .inr (3, [.ref k0, .ref k1, .ref k2, .ref k3, .ref k4, .ref k5, .ref k6, .ref k7, .int k8, .int k9, .int k10, .int k11, .int k12, .int k13, .int k14, .int k15, .int k16, .int k17, .int k18, .ref k19, .ref k20, .ref k21, .ref k22, .ref k23, .ref k24, .long k25, .long k26, .int k27]))] sz) (fun u' : Nat × Int32 × Int32 => [(h, .inr (4, [.ref res, .ref t, .int (nI 0), .int (nI 0), .int (wI (some 0)), .int pa, .int ma, .int ex, .ref ki])), (t, .inl (cB, 0, .inl (tx eU))), (res, .inr (3, [.ref k0, .ref k1, .ref k2, .ref k3, .ref k4, .ref u'.1, .ref k6, .ref k7, .int k8, .int u'.2.1, .int u'.2.2, .int k11, .int k12, .int k13, .int k14, .int k15, .int k16, .int k17, .int k18, .ref k19, .ref k20, .ref k21, .ref k22, .ref k23, .ref k24, .long k25, .long k26, .int k27]))])) (va_A [(h, .inr (4, [.ref res, .ref t, .int (nI 0), .int (nI 0), .int (wI (some 0)), .int pa, .int ma, .int ex, .ref ki])), (t, .inl (cB, 0, .inl (tx eU))), (res, .inr (3, [.ref k0, .ref k1, .ref k2, .ref k3, .ref k4, .ref k5, .ref k6, .ref k7, .int k8, .int k9, .int k10, .int k11, .int k12, .int k13, .int k14, .int k15, .int k16, .int k17, .int k18, .ref k19, .ref k20, .ref k21, .ref k22, .ref k23, .ref k24, .long k25, .long k26, .int k27]))] sz)) 2 6 (va_A [(h, .inr (4, [.ref res, .ref t, .int (nI 0), .int (nI 0), .int (wI (some 0)), .int pa, .int ma, .int ex, .ref ki])), (t, .inl (cB, 0, .inl (tx eU))), (res, .inr (3, [.ref k0, .ref k1, .ref k2, .ref k3, .ref k4, .ref k5, .ref k6, .ref k7, .int k8, .int k9, .int k10, .int k11, .int k12, .int k13, .int k14, .int k15, .int k16, .int k17, .int k18, .ref k19, .ref k20, .ref k21, .ref k22, .ref k23, .ref k24, .long k25, .long k26, .int k27]))] sz) := by
  refine Met.ofW (cc := b_CertificateReader_readKey) (maxL := 7) (ret := none) (by decide) rfl ?_
  intro p e s m args below meth c s₁ B hml hv
  obtain ⟨rfl, hsz, hB0, hP, hK, hD0, hN, hT0⟩ := hv
  have hx := B.exec
  have hb := B.bytes
  have hr := B.returns
  have hts := atoms_spec (ws := w_CertificateReader_readKey) B.pre
  have tbin : ∀ w ∈ tb, w ∈ w_CertificateReader_readKey := fun w h => List.mem_cons_of_mem _ h
  have htb : ∀ w ∈ tb, w.before _ s = true := fun w h => hts w (tbin w h)
  have hown : s.vm.findClass "TrustChain$CertificateReader" = some m.cls := findClass_of_methodNamed B.named
  have hlocks := B.notSynchronized
  subst hsz
  have hD := hD0.self (sz := s.heap.size)
  generalize hAe : va_A [(h, .inr (4, [.ref res, .ref t, .int (nI 0), .int (nI 0), .int (wI (some 0)), .int pa, .int ma, .int ex, .ref ki])), (t, .inl (cB, 0, .inl (tx eU))), (res, .inr (3, [.ref k0, .ref k1, .ref k2, .ref k3, .ref k4, .ref k5, .ref k6, .ref k7, .int k8, .int k9, .int k10, .int k11, .int k12, .int k13, .int k14, .int k15, .int k16, .int k17, .int k18, .ref k19, .ref k20, .ref k21, .ref k22, .ref k23, .ref k24, .long k25, .long k26, .int k27]))] s.heap.size = A at hD ⊢
  have hA : ∀ q : Nat, s.heap.size ≤ q → A q := fun q h => by rw [← hAe]; exact Or.inr h
  have hAs : ∀ q : Nat, A q → sb.1 ≤ q := fun q h => by
    rw [← hAe] at h
    rcases h with ⟨k, e, h⟩ | h
    · exact hD0.2 k _ h
    · exact Nat.le_trans hB0 h
  have hS : va_S A s.heap s.heap [] := va_S.rf
  have hcs : 2 ≤ (headSpec w_CertificateReader_readKey ({ frames := 4, cells := 2, slots := 6, locals := 97 })).room.cells ∧ 6 ≤ (headSpec w_CertificateReader_readKey ({ frames := 4, cells := 2, slots := 6, locals := 97 })).room.slots := ⟨Nat.le_refl _, Nat.le_refl _⟩
  have hP : va_P (dC, dI) classes [(h, .inr (4, [.ref res, .ref t, .int (nI 0), .int (nI 0), .int (wI (some 0)), .int pa, .int ma, .int ex, .ref ki])), (t, .inl (cB, 0, .inl (tx eU))), (res, .inr (3, [.ref k0, .ref k1, .ref k2, .ref k3, .ref k4, .ref k5, .ref k6, .ref k7, .int k8, .int k9, .int k10, .int k11, .int k12, .int k13, .int k14, .int k15, .int k16, .int k17, .int k18, .ref k19, .ref k20, .ref k21, .ref k22, .ref k23, .ref k24, .long k25, .long k26, .int k27]))] s.heap := hP
  have hl := lv_entry ([.ref h, .int (nI 0)]) (n := 7) (Nat.le_of_ble_eq_true rfl)
  rw [lg_entry_eq]
  generalize (lg_sl ([.ref h, .int (nI 0)]) ++ List.replicate (7 - (lg_sl ([.ref h, .int (nI 0)])).length) Slot.unset).toArray = ls at hl ⊢
  have hl : lv_has ls 7 [(0, .ref h), (1, .int (nI 0))] := hl
  refine lv_aload_n hx hb d_CertificateReader_readKey_0 rfl (lv_at hl 0 rfl) ?_
  refine lv_bipush (v := 48) hx hb d_CertificateReader_readKey_1 (by decide) ?_
  refine lv_iload_n hx hb d_CertificateReader_readKey_3 rfl (lv_at hl 1 rfl) ?_
  have hFc := va_free (wc := [(h, .inr (4, [.ref res, .ref t, .int (nI 0), .int (nI 0), .int (wI (some 0)), .int pa, .int ma, .int ex, .ref ki])), (t, .inl (cB, 0, .inl (tx eU)))]) hD hS hA [0, 1] rfl
  refine va_calli (mu_runU (As := [.int 48, .int (nI 0)]) (rest := []) ⟨hx, hb, hml, hown, hts⟩ (cC_open l dC dI sb h res t ki 0 0 0 (some 0) pa ma ex 0 cB eU 48 0 s.heap.size eU_lt (by decide) ew_0 (Nat.le_refl 0) (Nat.le_refl 0) (by decide)) (cu_of (n := 2) hts tbin q3_108 q3_109 q3_112 q3_111 q1_15 q3_113 rfl (by decide +kernel) ⟨rfl, rfl⟩ ⟨Nat.le_of_ble_eq_true rfl, Nat.le_of_ble_eq_true rfl⟩) rfl ⟨Nat.le_of_ble_eq_true rfl, Nat.le_of_ble_eq_true rfl⟩ hN (hT0.keep hS hAs) hAs (Nat.le_trans hB0 hS.1) hK hP hD [0, 1] (by decide) rfl [0] rfl 0 4 rfl rfl rfl hl.1 rfl (Nat.le_of_ble_eq_true rfl) d_CertificateReader_readKey_4) hS (fun q _ h => hFc q h) hFc (fun r4 u4 tS H4 locs ht hvm hw4 hB hz1 hk1 hS => ?_)
  obtain ⟨x4, rfl⟩ : ∃ z, z = u4 := ⟨_, rfl⟩
  obtain ⟨hP1, hK1, hD1⟩ := hB
  rw [ht] at hP1
  obtain ⟨hP, hD⟩ := va_join (wr := [(res, .inr (3, [.ref k0, .ref k1, .ref k2, .ref k3, .ref k4, .ref k5, .ref k6, .ref k7, .int k8, .int k9, .int k10, .int k11, .int k12, .int k13, .int k14, .int k15, .int k16, .int k17, .int k18, .ref k19, .ref k20, .ref k21, .ref k22, .ref k23, .ref k24, .long k25, .long k26, .int k27]))]) (w1 := [(h, .inr (4, [.ref res, .ref t, .int (nI x4.1), .int (nI x4.2.1), .int (wI x4.2.2), .int pa, .int ma, .int ex, .ref ki])), (t, .inl (cB, 0, .inl (tx eU)))]) hP hD [0, 1] [2] rfl rfl (by decide) (by decide) hk1 hFc hP1 hD1
  have hP : va_P (dC, dI) classes [(res, .inr (3, [.ref k0, .ref k1, .ref k2, .ref k3, .ref k4, .ref k5, .ref k6, .ref k7, .int k8, .int k9, .int k10, .int k11, .int k12, .int k13, .int k14, .int k15, .int k16, .int k17, .int k18, .ref k19, .ref k20, .ref k21, .ref k22, .ref k23, .ref k24, .long k25, .long k26, .int k27])), (h, .inr (4, [.ref res, .ref t, .int (nI x4.1), .int (nI x4.2.1), .int (wI x4.2.2), .int pa, .int ma, .int ex, .ref ki])), (t, .inl (cB, 0, .inl (tx eU)))] H4 := hP
  have hD : va_D A [(res, .inr (3, [.ref k0, .ref k1, .ref k2, .ref k3, .ref k4, .ref k5, .ref k6, .ref k7, .int k8, .int k9, .int k10, .int k11, .int k12, .int k13, .int k14, .int k15, .int k16, .int k17, .int k18, .ref k19, .ref k20, .ref k21, .ref k22, .ref k23, .ref k24, .long k25, .long k26, .int k27])), (h, .inr (4, [.ref res, .ref t, .int (nI x4.1), .int (nI x4.2.1), .int (wI x4.2.2), .int pa, .int ma, .int ex, .ref ki])), (t, .inl (cB, 0, .inl (tx eU)))] := hD
  obtain ⟨rfl, rfl⟩ : x4 = ((0, 0, some 0) : rS) ∧ r4 = nI 0 := hw4
  have hP : va_P (dC, dI) classes [(res, .inr (3, [.ref k0, .ref k1, .ref k2, .ref k3, .ref k4, .ref k5, .ref k6, .ref k7, .int k8, .int k9, .int k10, .int k11, .int k12, .int k13, .int k14, .int k15, .int k16, .int k17, .int k18, .ref k19, .ref k20, .ref k21, .ref k22, .ref k23, .ref k24, .long k25, .long k26, .int k27])), (h, .inr (4, [.ref res, .ref t, .int (nI 0), .int (nI 0), .int (wI (some 0)), .int pa, .int ma, .int ex, .ref ki])), (t, .inl (cB, 0, .inl (tx eU)))] H4 := hP
  have hD : va_D A [(res, .inr (3, [.ref k0, .ref k1, .ref k2, .ref k3, .ref k4, .ref k5, .ref k6, .ref k7, .int k8, .int k9, .int k10, .int k11, .int k12, .int k13, .int k14, .int k15, .int k16, .int k17, .int k18, .ref k19, .ref k20, .ref k21, .ref k22, .ref k23, .ref k24, .long k25, .long k26, .int k27])), (h, .inr (4, [.ref res, .ref t, .int (nI 0), .int (nI 0), .int (wI (some 0)), .int pa, .int ma, .int ex, .ref ki])), (t, .inl (cB, 0, .inl (tx eU)))] := hD
  refine lv_istore_n (lv' := [(2, .int (nI 0)), (0, .ref h), (1, .int (nI 0))]) hx hb d_CertificateReader_readKey_7 rfl hl (by decide) rfl (fun ls hl => ?_)
  refine lv_aload_n hx hb d_CertificateReader_readKey_8 rfl (lv_at hl 1 rfl) ?_
  refine lv_iconst (v := 1) hx hb d_CertificateReader_readKey_9 (by decide) ?_
  refine lv_iload_n hx hb d_CertificateReader_readKey_10 rfl (lv_at hl 0 rfl) ?_
  have hFc := va_free (wc := [(h, .inr (4, [.ref res, .ref t, .int (nI 0), .int (nI 0), .int (wI (some 0)), .int pa, .int ma, .int ex, .ref ki])), (t, .inl (cB, 0, .inl (tx eU)))]) hD hS hA [1, 2] rfl
  refine va_callv (mu_runU (As := [.int 1, .int (nI 0)]) (rest := []) ⟨hx, hb, hml, hown, hts⟩ (cC_algorithm l dC dI sb h res t ki 0 (0, 0, (some 0)) pa ma ex 0 cB eU 1 0 H4.size eU_lt (by decide) ei_0 (Nat.le_refl 0) (by decide)) (cu_of (n := 2) hts tbin q3_175 q3_176 q3_179 q3_178 q1_15 q3_180 rfl (by decide +kernel) ⟨rfl, rfl⟩ ⟨Nat.le_of_ble_eq_true rfl, Nat.le_of_ble_eq_true rfl⟩) rfl ⟨Nat.le_of_ble_eq_true rfl, Nat.le_of_ble_eq_true rfl⟩ hN (hT0.keep hS hAs) hAs (Nat.le_trans hB0 hS.1) hK hP hD [1, 2] (by decide) rfl [0] rfl 1 4 rfl rfl rfl hl.1 rfl (Nat.le_of_ble_eq_true rfl) d_CertificateReader_readKey_11) hS (fun q _ h => hFc q h) hFc (fun u11 tS H11 locs ht hvm hw11 hB hz1 hk1 hS => ?_)
  obtain ⟨x11, rfl⟩ : ∃ z, z = u11 := ⟨_, rfl⟩
  obtain ⟨hP1, hK1, hD1⟩ := hB
  rw [ht] at hP1
  obtain ⟨hP, hD⟩ := va_join (wr := [(res, .inr (3, [.ref k0, .ref k1, .ref k2, .ref k3, .ref k4, .ref k5, .ref k6, .ref k7, .int k8, .int k9, .int k10, .int k11, .int k12, .int k13, .int k14, .int k15, .int k16, .int k17, .int k18, .ref k19, .ref k20, .ref k21, .ref k22, .ref k23, .ref k24, .long k25, .long k26, .int k27]))]) (w1 := [(h, .inr (4, [.ref res, .ref t, .int (nI x11.1), .int (nI x11.2.1), .int (wI x11.2.2), .int pa, .int ma, .int ex, .ref ki])), (t, .inl (cB, 0, .inl (tx eU)))]) hP hD [1, 2] [0] rfl rfl (by decide) (by decide) hk1 hFc hP1 hD1
  have hP : va_P (dC, dI) classes [(res, .inr (3, [.ref k0, .ref k1, .ref k2, .ref k3, .ref k4, .ref k5, .ref k6, .ref k7, .int k8, .int k9, .int k10, .int k11, .int k12, .int k13, .int k14, .int k15, .int k16, .int k17, .int k18, .ref k19, .ref k20, .ref k21, .ref k22, .ref k23, .ref k24, .long k25, .long k26, .int k27])), (h, .inr (4, [.ref res, .ref t, .int (nI x11.1), .int (nI x11.2.1), .int (wI x11.2.2), .int pa, .int ma, .int ex, .ref ki])), (t, .inl (cB, 0, .inl (tx eU)))] H11 := hP
  have hD : va_D A [(res, .inr (3, [.ref k0, .ref k1, .ref k2, .ref k3, .ref k4, .ref k5, .ref k6, .ref k7, .int k8, .int k9, .int k10, .int k11, .int k12, .int k13, .int k14, .int k15, .int k16, .int k17, .int k18, .ref k19, .ref k20, .ref k21, .ref k22, .ref k23, .ref k24, .long k25, .long k26, .int k27])), (h, .inr (4, [.ref res, .ref t, .int (nI x11.1), .int (nI x11.2.1), .int (wI x11.2.2), .int pa, .int ma, .int ex, .ref ki])), (t, .inl (cB, 0, .inl (tx eU)))] := hD
  obtain rfl : x11 = ((0, 0, some 0) : rS) := hw11
  have hP : va_P (dC, dI) classes [(res, .inr (3, [.ref k0, .ref k1, .ref k2, .ref k3, .ref k4, .ref k5, .ref k6, .ref k7, .int k8, .int k9, .int k10, .int k11, .int k12, .int k13, .int k14, .int k15, .int k16, .int k17, .int k18, .ref k19, .ref k20, .ref k21, .ref k22, .ref k23, .ref k24, .long k25, .long k26, .int k27])), (h, .inr (4, [.ref res, .ref t, .int (nI 0), .int (nI 0), .int (wI (some 0)), .int pa, .int ma, .int ex, .ref ki])), (t, .inl (cB, 0, .inl (tx eU)))] H11 := hP
  have hD : va_D A [(res, .inr (3, [.ref k0, .ref k1, .ref k2, .ref k3, .ref k4, .ref k5, .ref k6, .ref k7, .int k8, .int k9, .int k10, .int k11, .int k12, .int k13, .int k14, .int k15, .int k16, .int k17, .int k18, .ref k19, .ref k20, .ref k21, .ref k22, .ref k23, .ref k24, .long k25, .long k26, .int k27])), (h, .inr (4, [.ref res, .ref t, .int (nI 0), .int (nI 0), .int (wI (some 0)), .int pa, .int ma, .int ex, .ref ki])), (t, .inl (cB, 0, .inl (tx eU)))] := hD
  refine lv_aload_n hx hb d_CertificateReader_readKey_14 rfl (lv_at hl 1 rfl) ?_
  refine lv_iload_n hx hb d_CertificateReader_readKey_15 rfl (lv_at hl 0 rfl) ?_
  have hFc := va_free (wc := [(h, .inr (4, [.ref res, .ref t, .int (nI 0), .int (nI 0), .int (wI (some 0)), .int pa, .int ma, .int ex, .ref ki])), (t, .inl (cB, 0, .inl (tx eU)))]) hD hS hA [1, 2] rfl
  refine va_calli (mu_runU (As := [.int (nI 0)]) (rest := []) ⟨hx, hb, hml, hown, hts⟩ (cC_openBits l dC dI sb h res t ki 0 (0, 0, (some 0)) pa ma ex 0 cB eU 0 H11.size eU_lt (by decide) ei_0 (Nat.le_refl 0)) (cu_of (n := 1) hts tbin q4_38 q4_39 q4_42 q4_41 q1_15 q4_43 rfl (by decide +kernel) ⟨rfl, rfl⟩ ⟨Nat.le_of_ble_eq_true rfl, Nat.le_of_ble_eq_true rfl⟩) rfl ⟨Nat.le_of_ble_eq_true rfl, Nat.le_of_ble_eq_true rfl⟩ hN (hT0.keep hS hAs) hAs (Nat.le_trans hB0 hS.1) hK hP hD [1, 2] (by decide) rfl [0] rfl 1 4 rfl rfl rfl hl.1 rfl (Nat.le_of_ble_eq_true rfl) d_CertificateReader_readKey_16) hS (fun q _ h => hFc q h) hFc (fun r16 u16 tS H16 locs ht hvm hw16 hB hz1 hk1 hS => ?_)
  obtain ⟨x16, rfl⟩ : ∃ z, z = u16 := ⟨_, rfl⟩
  obtain ⟨hP1, hK1, hD1⟩ := hB
  rw [ht] at hP1
  obtain ⟨hP, hD⟩ := va_join (wr := [(res, .inr (3, [.ref k0, .ref k1, .ref k2, .ref k3, .ref k4, .ref k5, .ref k6, .ref k7, .int k8, .int k9, .int k10, .int k11, .int k12, .int k13, .int k14, .int k15, .int k16, .int k17, .int k18, .ref k19, .ref k20, .ref k21, .ref k22, .ref k23, .ref k24, .long k25, .long k26, .int k27]))]) (w1 := [(h, .inr (4, [.ref res, .ref t, .int (nI x16.1), .int (nI x16.2.1), .int (wI x16.2.2), .int pa, .int ma, .int ex, .ref ki])), (t, .inl (cB, 0, .inl (tx eU)))]) hP hD [1, 2] [0] rfl rfl (by decide) (by decide) hk1 hFc hP1 hD1
  have hP : va_P (dC, dI) classes [(res, .inr (3, [.ref k0, .ref k1, .ref k2, .ref k3, .ref k4, .ref k5, .ref k6, .ref k7, .int k8, .int k9, .int k10, .int k11, .int k12, .int k13, .int k14, .int k15, .int k16, .int k17, .int k18, .ref k19, .ref k20, .ref k21, .ref k22, .ref k23, .ref k24, .long k25, .long k26, .int k27])), (h, .inr (4, [.ref res, .ref t, .int (nI x16.1), .int (nI x16.2.1), .int (wI x16.2.2), .int pa, .int ma, .int ex, .ref ki])), (t, .inl (cB, 0, .inl (tx eU)))] H16 := hP
  have hD : va_D A [(res, .inr (3, [.ref k0, .ref k1, .ref k2, .ref k3, .ref k4, .ref k5, .ref k6, .ref k7, .int k8, .int k9, .int k10, .int k11, .int k12, .int k13, .int k14, .int k15, .int k16, .int k17, .int k18, .ref k19, .ref k20, .ref k21, .ref k22, .ref k23, .ref k24, .long k25, .long k26, .int k27])), (h, .inr (4, [.ref res, .ref t, .int (nI x16.1), .int (nI x16.2.1), .int (wI x16.2.2), .int pa, .int ma, .int ex, .ref ki])), (t, .inl (cB, 0, .inl (tx eU)))] := hD
  obtain ⟨rfl, rfl⟩ : x16 = ((0, 0, some 0) : rS) ∧ r16 = nI 0 := hw16
  have hP : va_P (dC, dI) classes [(res, .inr (3, [.ref k0, .ref k1, .ref k2, .ref k3, .ref k4, .ref k5, .ref k6, .ref k7, .int k8, .int k9, .int k10, .int k11, .int k12, .int k13, .int k14, .int k15, .int k16, .int k17, .int k18, .ref k19, .ref k20, .ref k21, .ref k22, .ref k23, .ref k24, .long k25, .long k26, .int k27])), (h, .inr (4, [.ref res, .ref t, .int (nI 0), .int (nI 0), .int (wI (some 0)), .int pa, .int ma, .int ex, .ref ki])), (t, .inl (cB, 0, .inl (tx eU)))] H16 := hP
  have hD : va_D A [(res, .inr (3, [.ref k0, .ref k1, .ref k2, .ref k3, .ref k4, .ref k5, .ref k6, .ref k7, .int k8, .int k9, .int k10, .int k11, .int k12, .int k13, .int k14, .int k15, .int k16, .int k17, .int k18, .ref k19, .ref k20, .ref k21, .ref k22, .ref k23, .ref k24, .long k25, .long k26, .int k27])), (h, .inr (4, [.ref res, .ref t, .int (nI 0), .int (nI 0), .int (wI (some 0)), .int pa, .int ma, .int ex, .ref ki])), (t, .inl (cB, 0, .inl (tx eU)))] := hD
  refine lv_istore_n (lv' := [(3, .int (nI 0)), (2, .int (nI 0)), (0, .ref h), (1, .int (nI 0))]) hx hb d_CertificateReader_readKey_19 rfl hl (by decide) rfl (fun ls hl => ?_)
  refine lv_aload_n hx hb d_CertificateReader_readKey_20 rfl (lv_at hl 2 rfl) ?_
  refine lv_bipush (v := 48) hx hb d_CertificateReader_readKey_21 (by decide) ?_
  refine lv_iload_n hx hb d_CertificateReader_readKey_23 rfl (lv_at hl 0 rfl) ?_
  have hFc := va_free (wc := [(h, .inr (4, [.ref res, .ref t, .int (nI 0), .int (nI 0), .int (wI (some 0)), .int pa, .int ma, .int ex, .ref ki])), (t, .inl (cB, 0, .inl (tx eU)))]) hD hS hA [1, 2] rfl
  refine va_calli (mu_runU (As := [.int 48, .int (nI 0)]) (rest := []) ⟨hx, hb, hml, hown, hts⟩ (cC_open l dC dI sb h res t ki 0 0 0 (some 0) pa ma ex 0 cB eU 48 0 H16.size eU_lt (by decide) ew_0 (Nat.le_refl 0) (Nat.le_refl 0) (by decide)) (cu_of (n := 2) hts tbin q3_108 q3_109 q3_112 q3_111 q1_15 q3_113 rfl (by decide +kernel) ⟨rfl, rfl⟩ ⟨Nat.le_of_ble_eq_true rfl, Nat.le_of_ble_eq_true rfl⟩) rfl ⟨Nat.le_of_ble_eq_true rfl, Nat.le_of_ble_eq_true rfl⟩ hN (hT0.keep hS hAs) hAs (Nat.le_trans hB0 hS.1) hK hP hD [1, 2] (by decide) rfl [0] rfl 1 4 rfl rfl rfl hl.1 rfl (Nat.le_of_ble_eq_true rfl) d_CertificateReader_readKey_24) hS (fun q _ h => hFc q h) hFc (fun r24 u24 tS H24 locs ht hvm hw24 hB hz1 hk1 hS => ?_)
  obtain ⟨x24, rfl⟩ : ∃ z, z = u24 := ⟨_, rfl⟩
  obtain ⟨hP1, hK1, hD1⟩ := hB
  rw [ht] at hP1
  obtain ⟨hP, hD⟩ := va_join (wr := [(res, .inr (3, [.ref k0, .ref k1, .ref k2, .ref k3, .ref k4, .ref k5, .ref k6, .ref k7, .int k8, .int k9, .int k10, .int k11, .int k12, .int k13, .int k14, .int k15, .int k16, .int k17, .int k18, .ref k19, .ref k20, .ref k21, .ref k22, .ref k23, .ref k24, .long k25, .long k26, .int k27]))]) (w1 := [(h, .inr (4, [.ref res, .ref t, .int (nI x24.1), .int (nI x24.2.1), .int (wI x24.2.2), .int pa, .int ma, .int ex, .ref ki])), (t, .inl (cB, 0, .inl (tx eU)))]) hP hD [1, 2] [0] rfl rfl (by decide) (by decide) hk1 hFc hP1 hD1
  have hP : va_P (dC, dI) classes [(res, .inr (3, [.ref k0, .ref k1, .ref k2, .ref k3, .ref k4, .ref k5, .ref k6, .ref k7, .int k8, .int k9, .int k10, .int k11, .int k12, .int k13, .int k14, .int k15, .int k16, .int k17, .int k18, .ref k19, .ref k20, .ref k21, .ref k22, .ref k23, .ref k24, .long k25, .long k26, .int k27])), (h, .inr (4, [.ref res, .ref t, .int (nI x24.1), .int (nI x24.2.1), .int (wI x24.2.2), .int pa, .int ma, .int ex, .ref ki])), (t, .inl (cB, 0, .inl (tx eU)))] H24 := hP
  have hD : va_D A [(res, .inr (3, [.ref k0, .ref k1, .ref k2, .ref k3, .ref k4, .ref k5, .ref k6, .ref k7, .int k8, .int k9, .int k10, .int k11, .int k12, .int k13, .int k14, .int k15, .int k16, .int k17, .int k18, .ref k19, .ref k20, .ref k21, .ref k22, .ref k23, .ref k24, .long k25, .long k26, .int k27])), (h, .inr (4, [.ref res, .ref t, .int (nI x24.1), .int (nI x24.2.1), .int (wI x24.2.2), .int pa, .int ma, .int ex, .ref ki])), (t, .inl (cB, 0, .inl (tx eU)))] := hD
  obtain ⟨rfl, rfl⟩ : x24 = ((0, 0, some 0) : rS) ∧ r24 = nI 0 := hw24
  have hP : va_P (dC, dI) classes [(res, .inr (3, [.ref k0, .ref k1, .ref k2, .ref k3, .ref k4, .ref k5, .ref k6, .ref k7, .int k8, .int k9, .int k10, .int k11, .int k12, .int k13, .int k14, .int k15, .int k16, .int k17, .int k18, .ref k19, .ref k20, .ref k21, .ref k22, .ref k23, .ref k24, .long k25, .long k26, .int k27])), (h, .inr (4, [.ref res, .ref t, .int (nI 0), .int (nI 0), .int (wI (some 0)), .int pa, .int ma, .int ex, .ref ki])), (t, .inl (cB, 0, .inl (tx eU)))] H24 := hP
  have hD : va_D A [(res, .inr (3, [.ref k0, .ref k1, .ref k2, .ref k3, .ref k4, .ref k5, .ref k6, .ref k7, .int k8, .int k9, .int k10, .int k11, .int k12, .int k13, .int k14, .int k15, .int k16, .int k17, .int k18, .ref k19, .ref k20, .ref k21, .ref k22, .ref k23, .ref k24, .long k25, .long k26, .int k27])), (h, .inr (4, [.ref res, .ref t, .int (nI 0), .int (nI 0), .int (wI (some 0)), .int pa, .int ma, .int ex, .ref ki])), (t, .inl (cB, 0, .inl (tx eU)))] := hD
  refine lv_istore (lv' := [(4, .int (nI 0)), (3, .int (nI 0)), (2, .int (nI 0)), (0, .ref h), (1, .int (nI 0))]) hx hb d_CertificateReader_readKey_27 hl (by decide) rfl (fun ls hl => ?_)
  refine lv_aload_n hx hb d_CertificateReader_readKey_29 rfl (lv_at hl 3 rfl) ?_
  refine lv_iload hx hb d_CertificateReader_readKey_30 (lv_at hl 0 rfl) ?_
  have hFc := va_free (wc := [(h, .inr (4, [.ref res, .ref t, .int (nI 0), .int (nI 0), .int (wI (some 0)), .int pa, .int ma, .int ex, .ref ki])), (t, .inl (cB, 0, .inl (tx eU))), (res, .inr (3, [.ref k0, .ref k1, .ref k2, .ref k3, .ref k4, .ref k5, .ref k6, .ref k7, .int k8, .int k9, .int k10, .int k11, .int k12, .int k13, .int k14, .int k15, .int k16, .int k17, .int k18, .ref k19, .ref k20, .ref k21, .ref k22, .ref k23, .ref k24, .long k25, .long k26, .int k27]))]) hD hS hA [1, 2, 0] rfl
  refine va_callv (mu_runV (As := [.int (nI 0)]) (rest := []) ⟨hx, hb, hml, hown, hts⟩ tbin (eC_readModulus l dC dI sb h res t ki pa ma ex cB k0 k1 k2 k3 k4 k5 k6 k7 k19 k20 k21 k22 k23 k24 k8 k9 k10 k11 k12 k13 k14 k15 k16 k17 k18 k27 k25 k26 H24.size) q4_44 q4_46 qp_6 q1_16 q4_47 (n := 1) (by decide +kernel) rfl ⟨rfl, rfl⟩ ⟨Nat.le_of_ble_eq_true rfl, Nat.le_of_ble_eq_true rfl⟩ ⟨Nat.le_of_ble_eq_true rfl, Nat.le_of_ble_eq_true rfl⟩ hN (hT0.keep hS hAs) hAs (Nat.le_trans hB0 hS.1) hK hP hD [1, 2, 0] (by decide) rfl [0] rfl 1 4 rfl rfl rfl hl.1 rfl (Nat.le_of_ble_eq_true rfl) d_CertificateReader_readKey_32) hS (fun q _ h => hFc q h) hFc (fun u32 tS H32 locs ht hvm hw32 hB hz1 hk1 hS => ?_)
  obtain ⟨a32_0, a32_1⟩ := u32
  obtain ⟨hP1, hK1, hD1⟩ := hB
  rw [ht] at hP1
  obtain ⟨hP, hD⟩ := va_join (wr := []) (w1 := [(h, .inr (4, [.ref res, .ref t, .int (nI 0), .int (nI 0), .int (wI (some 0)), .int pa, .int ma, .int ex, .ref ki])), (t, .inl (cB, 0, .inl (tx eU))), (res, .inr (3, [.ref k0, .ref k1, .ref k2, .ref k3, .ref k4, .ref a32_0, .ref k6, .ref k7, .int k8, .int a32_1, .int k10, .int k11, .int k12, .int k13, .int k14, .int k15, .int k16, .int k17, .int k18, .ref k19, .ref k20, .ref k21, .ref k22, .ref k23, .ref k24, .long k25, .long k26, .int k27]))]) hP hD [1, 2, 0] [] rfl rfl (by decide) (by decide) hk1 hFc hP1 hD1
  have hP : va_P (dC, dI) classes [(h, .inr (4, [.ref res, .ref t, .int (nI 0), .int (nI 0), .int (wI (some 0)), .int pa, .int ma, .int ex, .ref ki])), (t, .inl (cB, 0, .inl (tx eU))), (res, .inr (3, [.ref k0, .ref k1, .ref k2, .ref k3, .ref k4, .ref a32_0, .ref k6, .ref k7, .int k8, .int a32_1, .int k10, .int k11, .int k12, .int k13, .int k14, .int k15, .int k16, .int k17, .int k18, .ref k19, .ref k20, .ref k21, .ref k22, .ref k23, .ref k24, .long k25, .long k26, .int k27]))] H32 := hP
  have hD : va_D A [(h, .inr (4, [.ref res, .ref t, .int (nI 0), .int (nI 0), .int (wI (some 0)), .int pa, .int ma, .int ex, .ref ki])), (t, .inl (cB, 0, .inl (tx eU))), (res, .inr (3, [.ref k0, .ref k1, .ref k2, .ref k3, .ref k4, .ref a32_0, .ref k6, .ref k7, .int k8, .int a32_1, .int k10, .int k11, .int k12, .int k13, .int k14, .int k15, .int k16, .int k17, .int k18, .ref k19, .ref k20, .ref k21, .ref k22, .ref k23, .ref k24, .long k25, .long k26, .int k27]))] := hD
  refine lv_aload_n hx hb d_CertificateReader_readKey_35 rfl (lv_at hl 3 rfl) ?_
  refine lv_iconst (v := 2) hx hb d_CertificateReader_readKey_36 (by decide) ?_
  refine lv_iload hx hb d_CertificateReader_readKey_37 (lv_at hl 0 rfl) ?_
  have hFc := va_free (wc := [(h, .inr (4, [.ref res, .ref t, .int (nI 0), .int (nI 0), .int (wI (some 0)), .int pa, .int ma, .int ex, .ref ki])), (t, .inl (cB, 0, .inl (tx eU)))]) hD hS hA [0, 1] rfl
  refine va_callr (mu_runU (As := [.int 2, .int (nI 0)]) (rest := []) ⟨hx, hb, hml, hown, hts⟩ (cC_number l dC dI sb h res t ki 0 (0, 0, (some 0)) pa ma ex 0 cB eU 2 0 H32.size eU_lt (by decide) ei_0 (Nat.le_refl 0) (by decide)) (cu_of (n := 2) hts tbin q3_124 q3_125 q3_128 q3_127 q1_15 q3_129 rfl (by decide +kernel) ⟨rfl, rfl⟩ ⟨Nat.le_of_ble_eq_true rfl, Nat.le_of_ble_eq_true rfl⟩) rfl ⟨Nat.le_of_ble_eq_true rfl, Nat.le_of_ble_eq_true rfl⟩ hN (hT0.keep hS hAs) hAs (Nat.le_trans hB0 hS.1) hK hP hD [0, 1] (by decide) rfl [0] rfl 0 4 rfl rfl rfl hl.1 rfl (Nat.le_of_ble_eq_true rfl) d_CertificateReader_readKey_39) hS (fun q _ h => hFc q h) hFc (fun u39 q39 tS H39 locs ht hvm hw39 hB hz1 hk1 hS => ?_)
  obtain ⟨x39, rfl⟩ : ∃ z, z = u39 := ⟨_, rfl⟩
  obtain ⟨hP1, hK1, hD1⟩ := hB
  rw [ht] at hP1
  obtain ⟨hP, hD⟩ := va_join (wr := [(res, .inr (3, [.ref k0, .ref k1, .ref k2, .ref k3, .ref k4, .ref a32_0, .ref k6, .ref k7, .int k8, .int a32_1, .int k10, .int k11, .int k12, .int k13, .int k14, .int k15, .int k16, .int k17, .int k18, .ref k19, .ref k20, .ref k21, .ref k22, .ref k23, .ref k24, .long k25, .long k26, .int k27]))]) (w1 := [(h, .inr (4, [.ref res, .ref t, .int (nI x39.1), .int (nI x39.2.1), .int (wI x39.2.2), .int pa, .int ma, .int ex, .ref ki])), (t, .inl (cB, 0, .inl (tx eU))), (q39, .inr (0, [.ref t, .int (nI (rd_nm eU 0 (0, 0, (some 0)) 2 0).2.1), .int (nI (rd_nm eU 0 (0, 0, (some 0)) 2 0).2.2)]))]) hP hD [0, 1] [2] rfl rfl (by decide) (by decide) hk1 hFc hP1 hD1
  have hP : va_P (dC, dI) classes [(res, .inr (3, [.ref k0, .ref k1, .ref k2, .ref k3, .ref k4, .ref a32_0, .ref k6, .ref k7, .int k8, .int a32_1, .int k10, .int k11, .int k12, .int k13, .int k14, .int k15, .int k16, .int k17, .int k18, .ref k19, .ref k20, .ref k21, .ref k22, .ref k23, .ref k24, .long k25, .long k26, .int k27])), (h, .inr (4, [.ref res, .ref t, .int (nI x39.1), .int (nI x39.2.1), .int (wI x39.2.2), .int pa, .int ma, .int ex, .ref ki])), (t, .inl (cB, 0, .inl (tx eU))), (q39, .inr (0, [.ref t, .int (nI (rd_nm eU 0 (0, 0, (some 0)) 2 0).2.1), .int (nI (rd_nm eU 0 (0, 0, (some 0)) 2 0).2.2)]))] H39 := hP
  have hD : va_D A [(res, .inr (3, [.ref k0, .ref k1, .ref k2, .ref k3, .ref k4, .ref a32_0, .ref k6, .ref k7, .int k8, .int a32_1, .int k10, .int k11, .int k12, .int k13, .int k14, .int k15, .int k16, .int k17, .int k18, .ref k19, .ref k20, .ref k21, .ref k22, .ref k23, .ref k24, .long k25, .long k26, .int k27])), (h, .inr (4, [.ref res, .ref t, .int (nI x39.1), .int (nI x39.2.1), .int (wI x39.2.2), .int pa, .int ma, .int ex, .ref ki])), (t, .inl (cB, 0, .inl (tx eU))), (q39, .inr (0, [.ref t, .int (nI (rd_nm eU 0 (0, 0, (some 0)) 2 0).2.1), .int (nI (rd_nm eU 0 (0, 0, (some 0)) 2 0).2.2)]))] := hD
  obtain rfl : x39 = ((0, 0, some 0) : rS) := hw39
  have hP : va_P (dC, dI) classes [(res, .inr (3, [.ref k0, .ref k1, .ref k2, .ref k3, .ref k4, .ref a32_0, .ref k6, .ref k7, .int k8, .int a32_1, .int k10, .int k11, .int k12, .int k13, .int k14, .int k15, .int k16, .int k17, .int k18, .ref k19, .ref k20, .ref k21, .ref k22, .ref k23, .ref k24, .long k25, .long k26, .int k27])), (h, .inr (4, [.ref res, .ref t, .int (nI 0), .int (nI 0), .int (wI (some 0)), .int pa, .int ma, .int ex, .ref ki])), (t, .inl (cB, 0, .inl (tx eU))), (q39, .inr (0, [.ref t, .int (nI 0), .int (nI 0)]))] H39 := hP
  have hD : va_D A [(res, .inr (3, [.ref k0, .ref k1, .ref k2, .ref k3, .ref k4, .ref a32_0, .ref k6, .ref k7, .int k8, .int a32_1, .int k10, .int k11, .int k12, .int k13, .int k14, .int k15, .int k16, .int k17, .int k18, .ref k19, .ref k20, .ref k21, .ref k22, .ref k23, .ref k24, .long k25, .long k26, .int k27])), (h, .inr (4, [.ref res, .ref t, .int (nI 0), .int (nI 0), .int (wI (some 0)), .int pa, .int ma, .int ex, .ref ki])), (t, .inl (cB, 0, .inl (tx eU))), (q39, .inr (0, [.ref t, .int (nI 0), .int (nI 0)]))] := hD
  refine vp_callSl (pu_callV (As := []) (rest := []) ⟨hx, hb, hml, hown, hts⟩ tbin (c_Slice_number l dC dI sb q39 t 0 0 0 cB eU eU_lt (Nat.le_refl 0) (Nat.le_refl 0) (by decide)) q3_139 q3_140 q3_141 q1_22 q3_142 (n := 0) (by decide +kernel) rfl ⟨rfl, rfl⟩ ⟨Nat.le_of_ble_eq_true rfl, Nat.le_of_ble_eq_true rfl⟩ ⟨Nat.le_of_ble_eq_true rfl, Nat.le_of_ble_eq_true rfl⟩ hN (hT0.keep hS hAs) hK hP [3, 2] rfl [0] rfl 3 0 rfl rfl rfl hl.1 rfl (Nat.le_of_ble_eq_true rfl) d_CertificateReader_readKey_42) (fun r42 hr42 => ?_)
  refine lv_lstore (lv' := [(5, .long r42), (4, .int (nI 0)), (3, .int (nI 0)), (2, .int (nI 0)), (0, .ref h), (1, .int (nI 0))]) hx hb d_CertificateReader_readKey_45 hl (by decide) rfl (fun ls hl => ?_)
  refine lv_aload_n hx hb d_CertificateReader_readKey_47 rfl (lv_at hl 4 rfl) ?_
  refine lv_lload hx hb d_CertificateReader_readKey_48 (lv_at hl 0 rfl) ?_
  refine lv_ldc2 (v := 3) hx hb hown (htb _ q4_50) d_CertificateReader_readKey_50 ?_
  refine W.lcmp hx hb d_CertificateReader_readKey_53 ?_
  refine w_join (J := fun jv54 => bz jv54 (jv54 = 1)) (pc := 80) (ls := ls) (rest := [.ref h]) (fun jv54 hjv54 => ?_) (fun k80 => ?_)
  · skip
    have hFc := va_free (wc := [(h, .inr (4, [.ref res, .ref t, .int (nI 0), .int (nI 0), .int (wI (some 0)), .int pa, .int ma, .int ex, .ref ki]))]) hD hS hA [1] rfl
    refine va_callv (mu_runU (As := [.int jv54]) (rest := []) ⟨hx, hb, hml, hown, hts⟩ (cC_require l dC dI sb h res t ki 0 0 0 (some 0) pa ma ex 0 cB eU jv54 H39.size ew_0) (cu_of (n := 1) hts tbin q3_153 q3_154 q3_157 q3_156 q1_15 q3_158 rfl (by decide +kernel) ⟨rfl, rfl⟩ ⟨Nat.le_of_ble_eq_true rfl, Nat.le_of_ble_eq_true rfl⟩) rfl ⟨Nat.le_of_ble_eq_true rfl, Nat.le_of_ble_eq_true rfl⟩ hN (hT0.keep hS hAs) hAs (Nat.le_trans hB0 hS.1) hK hP hD [1] (by decide) rfl [] rfl 1 4 rfl rfl rfl hl.1 rfl (Nat.le_of_ble_eq_true rfl) d_CertificateReader_readKey_80) hS (fun q _ h => hFc q h) hFc (fun u80 tS H80 locs ht hvm hw80 hB hz1 hk1 hS => ?_)
    obtain ⟨x80, rfl⟩ : ∃ z, z = u80 := ⟨_, rfl⟩
    obtain ⟨hP1, hK1, hD1⟩ := hB
    rw [ht] at hP1
    obtain ⟨hP, hD⟩ := va_join (wr := [(res, .inr (3, [.ref k0, .ref k1, .ref k2, .ref k3, .ref k4, .ref a32_0, .ref k6, .ref k7, .int k8, .int a32_1, .int k10, .int k11, .int k12, .int k13, .int k14, .int k15, .int k16, .int k17, .int k18, .ref k19, .ref k20, .ref k21, .ref k22, .ref k23, .ref k24, .long k25, .long k26, .int k27])), (t, .inl (cB, 0, .inl (tx eU))), (q39, .inr (0, [.ref t, .int (nI 0), .int (nI 0)]))]) (w1 := [(h, .inr (4, [.ref res, .ref t, .int (nI x80.1), .int (nI x80.2.1), .int (wI x80.2.2), .int pa, .int ma, .int ex, .ref ki]))]) hP hD [1] [0, 2, 3] rfl rfl (by decide) (by decide) hk1 hFc hP1 hD1
    have hP : va_P (dC, dI) classes [(res, .inr (3, [.ref k0, .ref k1, .ref k2, .ref k3, .ref k4, .ref a32_0, .ref k6, .ref k7, .int k8, .int a32_1, .int k10, .int k11, .int k12, .int k13, .int k14, .int k15, .int k16, .int k17, .int k18, .ref k19, .ref k20, .ref k21, .ref k22, .ref k23, .ref k24, .long k25, .long k26, .int k27])), (t, .inl (cB, 0, .inl (tx eU))), (q39, .inr (0, [.ref t, .int (nI 0), .int (nI 0)])), (h, .inr (4, [.ref res, .ref t, .int (nI x80.1), .int (nI x80.2.1), .int (wI x80.2.2), .int pa, .int ma, .int ex, .ref ki]))] H80 := hP
    have hD : va_D A [(res, .inr (3, [.ref k0, .ref k1, .ref k2, .ref k3, .ref k4, .ref a32_0, .ref k6, .ref k7, .int k8, .int a32_1, .int k10, .int k11, .int k12, .int k13, .int k14, .int k15, .int k16, .int k17, .int k18, .ref k19, .ref k20, .ref k21, .ref k22, .ref k23, .ref k24, .long k25, .long k26, .int k27])), (t, .inl (cB, 0, .inl (tx eU))), (q39, .inr (0, [.ref t, .int (nI 0), .int (nI 0)])), (h, .inr (4, [.ref res, .ref t, .int (nI x80.1), .int (nI x80.2.1), .int (wI x80.2.2), .int pa, .int ma, .int ex, .ref ki]))] := hD
    obtain rfl : x80 = ((0, 0, some 0) : rS) := hw80
    have hP : va_P (dC, dI) classes [(res, .inr (3, [.ref k0, .ref k1, .ref k2, .ref k3, .ref k4, .ref a32_0, .ref k6, .ref k7, .int k8, .int a32_1, .int k10, .int k11, .int k12, .int k13, .int k14, .int k15, .int k16, .int k17, .int k18, .ref k19, .ref k20, .ref k21, .ref k22, .ref k23, .ref k24, .long k25, .long k26, .int k27])), (t, .inl (cB, 0, .inl (tx eU))), (q39, .inr (0, [.ref t, .int (nI 0), .int (nI 0)])), (h, .inr (4, [.ref res, .ref t, .int (nI 0), .int (nI 0), .int (wI (some 0)), .int pa, .int ma, .int ex, .ref ki]))] H80 := hP
    have hD : va_D A [(res, .inr (3, [.ref k0, .ref k1, .ref k2, .ref k3, .ref k4, .ref a32_0, .ref k6, .ref k7, .int k8, .int a32_1, .int k10, .int k11, .int k12, .int k13, .int k14, .int k15, .int k16, .int k17, .int k18, .ref k19, .ref k20, .ref k21, .ref k22, .ref k23, .ref k24, .long k25, .long k26, .int k27])), (t, .inl (cB, 0, .inl (tx eU))), (q39, .inr (0, [.ref t, .int (nI 0), .int (nI 0)])), (h, .inr (4, [.ref res, .ref t, .int (nI 0), .int (nI 0), .int (wI (some 0)), .int pa, .int ma, .int ex, .ref ki]))] := hD
    refine lv_aload_n hx hb d_CertificateReader_readKey_83 rfl (lv_at hl 4 rfl) ?_
    refine va_get (v := .ref res) hx hb htb i_CertificateReader hown hK hP 3 rfl rfl 0 (by decide) (htb _ q3_55) (fun _ h9 => h9) rfl d_CertificateReader_readKey_84 ?_
    refine lv_lload hx hb d_CertificateReader_readKey_87 (lv_at hl 0 rfl) ?_
    refine lv_l2i (v := r42.toInt32) hx hb d_CertificateReader_readKey_89 rfl ?_
    refine lv_topi (fun v90 ev90 => ?_)
    refine va_put (v := .int v90) (ty := .int) hx hb htb i_Certificate t_Certificate t_Certificate_ok n_Certificate hown hK hP hD hS 0 rfl rfl 10 (by decide) (htb _ q2_168) (fun _ h9 => h9) rfl (by decide +kernel) rfl rfl (Nat.le_of_ble_eq_true rfl) d_CertificateReader_readKey_90 (fun H90 locs hP hD hS => ?_)
    have hP : va_P (dC, dI) classes [(res, .inr (3, [.ref k0, .ref k1, .ref k2, .ref k3, .ref k4, .ref a32_0, .ref k6, .ref k7, .int k8, .int a32_1, .int v90, .int k11, .int k12, .int k13, .int k14, .int k15, .int k16, .int k17, .int k18, .ref k19, .ref k20, .ref k21, .ref k22, .ref k23, .ref k24, .long k25, .long k26, .int k27])), (t, .inl (cB, 0, .inl (tx eU))), (q39, .inr (0, [.ref t, .int (nI 0), .int (nI 0)])), (h, .inr (4, [.ref res, .ref t, .int (nI 0), .int (nI 0), .int (wI (some 0)), .int pa, .int ma, .int ex, .ref ki]))] H90 := hP
    have hD : va_D A [(res, .inr (3, [.ref k0, .ref k1, .ref k2, .ref k3, .ref k4, .ref a32_0, .ref k6, .ref k7, .int k8, .int a32_1, .int v90, .int k11, .int k12, .int k13, .int k14, .int k15, .int k16, .int k17, .int k18, .ref k19, .ref k20, .ref k21, .ref k22, .ref k23, .ref k24, .long k25, .long k26, .int k27])), (t, .inl (cB, 0, .inl (tx eU))), (q39, .inr (0, [.ref t, .int (nI 0), .int (nI 0)])), (h, .inr (4, [.ref res, .ref t, .int (nI 0), .int (nI 0), .int (wI (some 0)), .int pa, .int ma, .int ex, .ref ki]))] := hD
    refine lv_aload_n hx hb d_CertificateReader_readKey_93 rfl (lv_at hl 4 rfl) ?_
    refine lv_iload hx hb d_CertificateReader_readKey_94 (lv_at hl 1 rfl) ?_
    have hFc := va_free (wc := [(h, .inr (4, [.ref res, .ref t, .int (nI 0), .int (nI 0), .int (wI (some 0)), .int pa, .int ma, .int ex, .ref ki]))]) hD hS hA [3] rfl
    refine va_callv (mu_runU (As := [.int (nI 0)]) (rest := []) ⟨hx, hb, hml, hown, hts⟩ (cC_finish l dC dI sb h res t ki 0 0 0 (some 0) pa ma ex 0 cB eU 0 H90.size ew_0 (by decide) (by decide)) (cu_of (n := 1) hts tbin q3_159 q3_160 q3_163 q3_162 q1_15 q3_164 rfl (by decide +kernel) ⟨rfl, rfl⟩ ⟨Nat.le_of_ble_eq_true rfl, Nat.le_of_ble_eq_true rfl⟩) rfl ⟨Nat.le_of_ble_eq_true rfl, Nat.le_of_ble_eq_true rfl⟩ hN (hT0.keep hS hAs) hAs (Nat.le_trans hB0 hS.1) hK hP hD [3] (by decide) rfl [] rfl 3 4 rfl rfl rfl hl.1 rfl (Nat.le_of_ble_eq_true rfl) d_CertificateReader_readKey_96) hS (fun q _ h => hFc q h) hFc (fun u96 tS H96 locs ht hvm hw96 hB hz1 hk1 hS => ?_)
    obtain ⟨x96, rfl⟩ : ∃ z, z = u96 := ⟨_, rfl⟩
    obtain ⟨hP1, hK1, hD1⟩ := hB
    rw [ht] at hP1
    obtain ⟨hP, hD⟩ := va_join (wr := [(res, .inr (3, [.ref k0, .ref k1, .ref k2, .ref k3, .ref k4, .ref a32_0, .ref k6, .ref k7, .int k8, .int a32_1, .int v90, .int k11, .int k12, .int k13, .int k14, .int k15, .int k16, .int k17, .int k18, .ref k19, .ref k20, .ref k21, .ref k22, .ref k23, .ref k24, .long k25, .long k26, .int k27])), (t, .inl (cB, 0, .inl (tx eU))), (q39, .inr (0, [.ref t, .int (nI 0), .int (nI 0)]))]) (w1 := [(h, .inr (4, [.ref res, .ref t, .int (nI x96.1), .int (nI x96.2.1), .int (wI x96.2.2), .int pa, .int ma, .int ex, .ref ki]))]) hP hD [3] [0, 1, 2] rfl rfl (by decide) (by decide) hk1 hFc hP1 hD1
    have hP : va_P (dC, dI) classes [(res, .inr (3, [.ref k0, .ref k1, .ref k2, .ref k3, .ref k4, .ref a32_0, .ref k6, .ref k7, .int k8, .int a32_1, .int v90, .int k11, .int k12, .int k13, .int k14, .int k15, .int k16, .int k17, .int k18, .ref k19, .ref k20, .ref k21, .ref k22, .ref k23, .ref k24, .long k25, .long k26, .int k27])), (t, .inl (cB, 0, .inl (tx eU))), (q39, .inr (0, [.ref t, .int (nI 0), .int (nI 0)])), (h, .inr (4, [.ref res, .ref t, .int (nI x96.1), .int (nI x96.2.1), .int (wI x96.2.2), .int pa, .int ma, .int ex, .ref ki]))] H96 := hP
    have hD : va_D A [(res, .inr (3, [.ref k0, .ref k1, .ref k2, .ref k3, .ref k4, .ref a32_0, .ref k6, .ref k7, .int k8, .int a32_1, .int v90, .int k11, .int k12, .int k13, .int k14, .int k15, .int k16, .int k17, .int k18, .ref k19, .ref k20, .ref k21, .ref k22, .ref k23, .ref k24, .long k25, .long k26, .int k27])), (t, .inl (cB, 0, .inl (tx eU))), (q39, .inr (0, [.ref t, .int (nI 0), .int (nI 0)])), (h, .inr (4, [.ref res, .ref t, .int (nI x96.1), .int (nI x96.2.1), .int (wI x96.2.2), .int pa, .int ma, .int ex, .ref ki]))] := hD
    obtain rfl : x96 = ((0, 0, some 0) : rS) := hw96
    have hP : va_P (dC, dI) classes [(res, .inr (3, [.ref k0, .ref k1, .ref k2, .ref k3, .ref k4, .ref a32_0, .ref k6, .ref k7, .int k8, .int a32_1, .int v90, .int k11, .int k12, .int k13, .int k14, .int k15, .int k16, .int k17, .int k18, .ref k19, .ref k20, .ref k21, .ref k22, .ref k23, .ref k24, .long k25, .long k26, .int k27])), (t, .inl (cB, 0, .inl (tx eU))), (q39, .inr (0, [.ref t, .int (nI 0), .int (nI 0)])), (h, .inr (4, [.ref res, .ref t, .int (nI 0), .int (nI 0), .int (wI (some 0)), .int pa, .int ma, .int ex, .ref ki]))] H96 := hP
    have hD : va_D A [(res, .inr (3, [.ref k0, .ref k1, .ref k2, .ref k3, .ref k4, .ref a32_0, .ref k6, .ref k7, .int k8, .int a32_1, .int v90, .int k11, .int k12, .int k13, .int k14, .int k15, .int k16, .int k17, .int k18, .ref k19, .ref k20, .ref k21, .ref k22, .ref k23, .ref k24, .long k25, .long k26, .int k27])), (t, .inl (cB, 0, .inl (tx eU))), (q39, .inr (0, [.ref t, .int (nI 0), .int (nI 0)])), (h, .inr (4, [.ref res, .ref t, .int (nI 0), .int (nI 0), .int (wI (some 0)), .int pa, .int ma, .int ex, .ref ki]))] := hD
    refine lv_aload_n hx hb d_CertificateReader_readKey_99 rfl (lv_at hl 4 rfl) ?_
    refine lv_iload_n hx hb d_CertificateReader_readKey_100 rfl (lv_at hl 2 rfl) ?_
    have hFc := va_free (wc := [(h, .inr (4, [.ref res, .ref t, .int (nI 0), .int (nI 0), .int (wI (some 0)), .int pa, .int ma, .int ex, .ref ki]))]) hD hS hA [3] rfl
    refine va_callv (mu_runU (As := [.int (nI 0)]) (rest := []) ⟨hx, hb, hml, hown, hts⟩ (cC_finish l dC dI sb h res t ki 0 0 0 (some 0) pa ma ex 0 cB eU 0 H96.size ew_0 (by decide) (by decide)) (cu_of (n := 1) hts tbin q3_159 q3_160 q3_163 q3_162 q1_15 q3_164 rfl (by decide +kernel) ⟨rfl, rfl⟩ ⟨Nat.le_of_ble_eq_true rfl, Nat.le_of_ble_eq_true rfl⟩) rfl ⟨Nat.le_of_ble_eq_true rfl, Nat.le_of_ble_eq_true rfl⟩ hN (hT0.keep hS hAs) hAs (Nat.le_trans hB0 hS.1) hK hP hD [3] (by decide) rfl [] rfl 3 4 rfl rfl rfl hl.1 rfl (Nat.le_of_ble_eq_true rfl) d_CertificateReader_readKey_101) hS (fun q _ h => hFc q h) hFc (fun u101 tS H101 locs ht hvm hw101 hB hz1 hk1 hS => ?_)
    obtain ⟨x101, rfl⟩ : ∃ z, z = u101 := ⟨_, rfl⟩
    obtain ⟨hP1, hK1, hD1⟩ := hB
    rw [ht] at hP1
    obtain ⟨hP, hD⟩ := va_join (wr := [(res, .inr (3, [.ref k0, .ref k1, .ref k2, .ref k3, .ref k4, .ref a32_0, .ref k6, .ref k7, .int k8, .int a32_1, .int v90, .int k11, .int k12, .int k13, .int k14, .int k15, .int k16, .int k17, .int k18, .ref k19, .ref k20, .ref k21, .ref k22, .ref k23, .ref k24, .long k25, .long k26, .int k27])), (t, .inl (cB, 0, .inl (tx eU))), (q39, .inr (0, [.ref t, .int (nI 0), .int (nI 0)]))]) (w1 := [(h, .inr (4, [.ref res, .ref t, .int (nI x101.1), .int (nI x101.2.1), .int (wI x101.2.2), .int pa, .int ma, .int ex, .ref ki]))]) hP hD [3] [0, 1, 2] rfl rfl (by decide) (by decide) hk1 hFc hP1 hD1
    have hP : va_P (dC, dI) classes [(res, .inr (3, [.ref k0, .ref k1, .ref k2, .ref k3, .ref k4, .ref a32_0, .ref k6, .ref k7, .int k8, .int a32_1, .int v90, .int k11, .int k12, .int k13, .int k14, .int k15, .int k16, .int k17, .int k18, .ref k19, .ref k20, .ref k21, .ref k22, .ref k23, .ref k24, .long k25, .long k26, .int k27])), (t, .inl (cB, 0, .inl (tx eU))), (q39, .inr (0, [.ref t, .int (nI 0), .int (nI 0)])), (h, .inr (4, [.ref res, .ref t, .int (nI x101.1), .int (nI x101.2.1), .int (wI x101.2.2), .int pa, .int ma, .int ex, .ref ki]))] H101 := hP
    have hD : va_D A [(res, .inr (3, [.ref k0, .ref k1, .ref k2, .ref k3, .ref k4, .ref a32_0, .ref k6, .ref k7, .int k8, .int a32_1, .int v90, .int k11, .int k12, .int k13, .int k14, .int k15, .int k16, .int k17, .int k18, .ref k19, .ref k20, .ref k21, .ref k22, .ref k23, .ref k24, .long k25, .long k26, .int k27])), (t, .inl (cB, 0, .inl (tx eU))), (q39, .inr (0, [.ref t, .int (nI 0), .int (nI 0)])), (h, .inr (4, [.ref res, .ref t, .int (nI x101.1), .int (nI x101.2.1), .int (wI x101.2.2), .int pa, .int ma, .int ex, .ref ki]))] := hD
    obtain rfl : x101 = ((0, 0, some 0) : rS) := hw101
    have hP : va_P (dC, dI) classes [(res, .inr (3, [.ref k0, .ref k1, .ref k2, .ref k3, .ref k4, .ref a32_0, .ref k6, .ref k7, .int k8, .int a32_1, .int v90, .int k11, .int k12, .int k13, .int k14, .int k15, .int k16, .int k17, .int k18, .ref k19, .ref k20, .ref k21, .ref k22, .ref k23, .ref k24, .long k25, .long k26, .int k27])), (t, .inl (cB, 0, .inl (tx eU))), (q39, .inr (0, [.ref t, .int (nI 0), .int (nI 0)])), (h, .inr (4, [.ref res, .ref t, .int (nI 0), .int (nI 0), .int (wI (some 0)), .int pa, .int ma, .int ex, .ref ki]))] H101 := hP
    have hD : va_D A [(res, .inr (3, [.ref k0, .ref k1, .ref k2, .ref k3, .ref k4, .ref a32_0, .ref k6, .ref k7, .int k8, .int a32_1, .int v90, .int k11, .int k12, .int k13, .int k14, .int k15, .int k16, .int k17, .int k18, .ref k19, .ref k20, .ref k21, .ref k22, .ref k23, .ref k24, .long k25, .long k26, .int k27])), (t, .inl (cB, 0, .inl (tx eU))), (q39, .inr (0, [.ref t, .int (nI 0), .int (nI 0)])), (h, .inr (4, [.ref res, .ref t, .int (nI 0), .int (nI 0), .int (wI (some 0)), .int pa, .int ma, .int ex, .ref ki]))] := hD
    refine lv_aload_n hx hb d_CertificateReader_readKey_104 rfl (lv_at hl 4 rfl) ?_
    refine lv_iload_n hx hb d_CertificateReader_readKey_105 rfl (lv_at hl 3 rfl) ?_
    have hFc := va_free (wc := [(h, .inr (4, [.ref res, .ref t, .int (nI 0), .int (nI 0), .int (wI (some 0)), .int pa, .int ma, .int ex, .ref ki]))]) hD hS hA [3] rfl
    refine va_callv (mu_runU (As := [.int (nI 0)]) (rest := []) ⟨hx, hb, hml, hown, hts⟩ (cC_finish l dC dI sb h res t ki 0 0 0 (some 0) pa ma ex 0 cB eU 0 H101.size ew_0 (by decide) (by decide)) (cu_of (n := 1) hts tbin q3_159 q3_160 q3_163 q3_162 q1_15 q3_164 rfl (by decide +kernel) ⟨rfl, rfl⟩ ⟨Nat.le_of_ble_eq_true rfl, Nat.le_of_ble_eq_true rfl⟩) rfl ⟨Nat.le_of_ble_eq_true rfl, Nat.le_of_ble_eq_true rfl⟩ hN (hT0.keep hS hAs) hAs (Nat.le_trans hB0 hS.1) hK hP hD [3] (by decide) rfl [] rfl 3 4 rfl rfl rfl hl.1 rfl (Nat.le_of_ble_eq_true rfl) d_CertificateReader_readKey_106) hS (fun q _ h => hFc q h) hFc (fun u106 tS H106 locs ht hvm hw106 hB hz1 hk1 hS => ?_)
    obtain ⟨x106, rfl⟩ : ∃ z, z = u106 := ⟨_, rfl⟩
    obtain ⟨hP1, hK1, hD1⟩ := hB
    rw [ht] at hP1
    obtain ⟨hP, hD⟩ := va_join (wr := [(res, .inr (3, [.ref k0, .ref k1, .ref k2, .ref k3, .ref k4, .ref a32_0, .ref k6, .ref k7, .int k8, .int a32_1, .int v90, .int k11, .int k12, .int k13, .int k14, .int k15, .int k16, .int k17, .int k18, .ref k19, .ref k20, .ref k21, .ref k22, .ref k23, .ref k24, .long k25, .long k26, .int k27])), (t, .inl (cB, 0, .inl (tx eU))), (q39, .inr (0, [.ref t, .int (nI 0), .int (nI 0)]))]) (w1 := [(h, .inr (4, [.ref res, .ref t, .int (nI x106.1), .int (nI x106.2.1), .int (wI x106.2.2), .int pa, .int ma, .int ex, .ref ki]))]) hP hD [3] [0, 1, 2] rfl rfl (by decide) (by decide) hk1 hFc hP1 hD1
    have hP : va_P (dC, dI) classes [(res, .inr (3, [.ref k0, .ref k1, .ref k2, .ref k3, .ref k4, .ref a32_0, .ref k6, .ref k7, .int k8, .int a32_1, .int v90, .int k11, .int k12, .int k13, .int k14, .int k15, .int k16, .int k17, .int k18, .ref k19, .ref k20, .ref k21, .ref k22, .ref k23, .ref k24, .long k25, .long k26, .int k27])), (t, .inl (cB, 0, .inl (tx eU))), (q39, .inr (0, [.ref t, .int (nI 0), .int (nI 0)])), (h, .inr (4, [.ref res, .ref t, .int (nI x106.1), .int (nI x106.2.1), .int (wI x106.2.2), .int pa, .int ma, .int ex, .ref ki]))] H106 := hP
    have hD : va_D A [(res, .inr (3, [.ref k0, .ref k1, .ref k2, .ref k3, .ref k4, .ref a32_0, .ref k6, .ref k7, .int k8, .int a32_1, .int v90, .int k11, .int k12, .int k13, .int k14, .int k15, .int k16, .int k17, .int k18, .ref k19, .ref k20, .ref k21, .ref k22, .ref k23, .ref k24, .long k25, .long k26, .int k27])), (t, .inl (cB, 0, .inl (tx eU))), (q39, .inr (0, [.ref t, .int (nI 0), .int (nI 0)])), (h, .inr (4, [.ref res, .ref t, .int (nI x106.1), .int (nI x106.2.1), .int (wI x106.2.2), .int pa, .int ma, .int ex, .ref ki]))] := hD
    obtain rfl : x106 = ((0, 0, some 0) : rS) := hw106
    have hP : va_P (dC, dI) classes [(res, .inr (3, [.ref k0, .ref k1, .ref k2, .ref k3, .ref k4, .ref a32_0, .ref k6, .ref k7, .int k8, .int a32_1, .int v90, .int k11, .int k12, .int k13, .int k14, .int k15, .int k16, .int k17, .int k18, .ref k19, .ref k20, .ref k21, .ref k22, .ref k23, .ref k24, .long k25, .long k26, .int k27])), (t, .inl (cB, 0, .inl (tx eU))), (q39, .inr (0, [.ref t, .int (nI 0), .int (nI 0)])), (h, .inr (4, [.ref res, .ref t, .int (nI 0), .int (nI 0), .int (wI (some 0)), .int pa, .int ma, .int ex, .ref ki]))] H106 := hP
    have hD : va_D A [(res, .inr (3, [.ref k0, .ref k1, .ref k2, .ref k3, .ref k4, .ref a32_0, .ref k6, .ref k7, .int k8, .int a32_1, .int v90, .int k11, .int k12, .int k13, .int k14, .int k15, .int k16, .int k17, .int k18, .ref k19, .ref k20, .ref k21, .ref k22, .ref k23, .ref k24, .long k25, .long k26, .int k27])), (t, .inl (cB, 0, .inl (tx eU))), (q39, .inr (0, [.ref t, .int (nI 0), .int (nI 0)])), (h, .inr (4, [.ref res, .ref t, .int (nI 0), .int (nI 0), .int (wI (some 0)), .int pa, .int ma, .int ex, .ref ki]))] := hD
    exact W.vret hx hb hr (fun t ht hW => ⟨⟨(a32_0, a32_1, v90), rfl, trivial, by rw [ht]; exact hP.sub [3, 1, 0] rfl, va_K.moved hW.alike hK, hD.sub [3, 1, 0] (by decide) rfl⟩, hS.F ht⟩) hS.2.2 d_CertificateReader_readKey_109
  · skip
    refine lv_if_lt (tgt := 79) hx hb d_CertificateReader_readKey_54 (by decide) (fun c54 => ?_) (fun c54 => ?_)
    · refine lv_iconst (v := 0) hx hb d_CertificateReader_readKey_79 (by decide) ?_
      exact k80 _ (bz_f (by decide))
    · refine lv_lload hx hb d_CertificateReader_readKey_57 (lv_at hl 0 rfl) ?_
      refine lv_ldc2 (v := 2147483647) hx hb hown (htb _ q4_51) d_CertificateReader_readKey_59 ?_
      refine W.lcmp hx hb d_CertificateReader_readKey_62 ?_
      refine lv_if_gt (tgt := 79) hx hb d_CertificateReader_readKey_63 (by decide) (fun c63 => ?_) (fun c63 => ?_)
      · refine lv_iconst (v := 0) hx hb d_CertificateReader_readKey_79 (by decide) ?_
        exact k80 _ (bz_f (by decide))
      · refine lv_lload hx hb d_CertificateReader_readKey_66 (lv_at hl 0 rfl) ?_
        refine lv_lconst (v := 1) hx hb d_CertificateReader_readKey_68 (by decide) ?_
        refine lv_land hx hb d_CertificateReader_readKey_69 ?_
        refine lv_lconst (v := 1) hx hb d_CertificateReader_readKey_70 (by decide) ?_
        refine W.lcmp hx hb d_CertificateReader_readKey_71 ?_
        refine lv_if_ne (tgt := 79) hx hb d_CertificateReader_readKey_72 (by decide) (fun c72 => ?_) (fun c72 => ?_)
        · refine lv_iconst (v := 0) hx hb d_CertificateReader_readKey_79 (by decide) ?_
          exact k80 _ (bz_f (by decide))
        · refine lv_iconst (v := 1) hx hb d_CertificateReader_readKey_75 (by decide) ?_
          refine lv_goto (tgt := 80) hx hb d_CertificateReader_readKey_76 (by decide) ?_
          exact k80 _ (bz_t rfl)
def y_CertificateReader_readHead : MethodName := ⟨"TrustChain$CertificateReader", "readHead", "(I)V"⟩
abbrev b_CertificateReader_readHead : ByteArray := prog_3_method_3_code
def w_CertificateReader_readHead : List Cond := Cond.code y_CertificateReader_readHead b_CertificateReader_readHead 4 (none) :: tb
theorem d_CertificateReader_readHead_0 : decode b_CertificateReader_readHead 0 = .ok (.aload_n 0, 1) := by decide +kernel
theorem d_CertificateReader_readHead_1 : decode b_CertificateReader_readHead 1 = .ok (.sipush 160, 3) := by decide +kernel
theorem d_CertificateReader_readHead_4 : decode b_CertificateReader_readHead 4 = .ok (.iload_n 1, 1) := by decide +kernel
theorem d_CertificateReader_readHead_5 : decode b_CertificateReader_readHead 5 = .ok (.invokevirtual 29, 3) := by decide +kernel
theorem d_CertificateReader_readHead_8 : decode b_CertificateReader_readHead 8 = .ok (.istore_n 2, 1) := by decide +kernel
theorem d_CertificateReader_readHead_9 : decode b_CertificateReader_readHead 9 = .ok (.aload_n 0, 1) := by decide +kernel
theorem d_CertificateReader_readHead_10 : decode b_CertificateReader_readHead 10 = .ok (.aload_n 0, 1) := by decide +kernel
theorem d_CertificateReader_readHead_11 : decode b_CertificateReader_readHead 11 = .ok (.iconst 2, 1) := by decide +kernel
theorem d_CertificateReader_readHead_12 : decode b_CertificateReader_readHead 12 = .ok (.iload_n 2, 1) := by decide +kernel
theorem d_CertificateReader_readHead_13 : decode b_CertificateReader_readHead 13 = .ok (.invokevirtual 70, 3) := by decide +kernel
theorem d_CertificateReader_readHead_16 : decode b_CertificateReader_readHead 16 = .ok (.invokevirtual 74, 3) := by decide +kernel
theorem d_CertificateReader_readHead_19 : decode b_CertificateReader_readHead 19 = .ok (.ldc2_w 77, 3) := by decide +kernel
theorem d_CertificateReader_readHead_22 : decode b_CertificateReader_readHead 22 = .ok (.lcmp, 1) := by decide +kernel
theorem d_CertificateReader_readHead_23 : decode b_CertificateReader_readHead 23 = .ok (.ifCond .ne 7, 3) := by decide +kernel
theorem d_CertificateReader_readHead_26 : decode b_CertificateReader_readHead 26 = .ok (.iconst 1, 1) := by decide +kernel
theorem d_CertificateReader_readHead_27 : decode b_CertificateReader_readHead 27 = .ok (.goto 4, 3) := by decide +kernel
theorem d_CertificateReader_readHead_30 : decode b_CertificateReader_readHead 30 = .ok (.iconst 0, 1) := by decide +kernel
theorem d_CertificateReader_readHead_31 : decode b_CertificateReader_readHead 31 = .ok (.invokevirtual 79, 3) := by decide +kernel
theorem d_CertificateReader_readHead_34 : decode b_CertificateReader_readHead 34 = .ok (.aload_n 0, 1) := by decide +kernel
theorem d_CertificateReader_readHead_35 : decode b_CertificateReader_readHead 35 = .ok (.iload_n 2, 1) := by decide +kernel
theorem d_CertificateReader_readHead_36 : decode b_CertificateReader_readHead 36 = .ok (.invokevirtual 51, 3) := by decide +kernel
theorem d_CertificateReader_readHead_39 : decode b_CertificateReader_readHead 39 = .ok (.aload_n 0, 1) := by decide +kernel
theorem d_CertificateReader_readHead_40 : decode b_CertificateReader_readHead 40 = .ok (.getfield 19, 3) := by decide +kernel
theorem d_CertificateReader_readHead_43 : decode b_CertificateReader_readHead 43 = .ok (.aload_n 0, 1) := by decide +kernel
theorem d_CertificateReader_readHead_44 : decode b_CertificateReader_readHead 44 = .ok (.iload_n 1, 1) := by decide +kernel
theorem d_CertificateReader_readHead_45 : decode b_CertificateReader_readHead 45 = .ok (.invokevirtual 83, 3) := by decide +kernel
theorem d_CertificateReader_readHead_48 : decode b_CertificateReader_readHead 48 = .ok (.putfield 87, 3) := by decide +kernel
theorem d_CertificateReader_readHead_51 : decode b_CertificateReader_readHead 51 = .ok (.aload_n 0, 1) := by decide +kernel
theorem d_CertificateReader_readHead_52 : decode b_CertificateReader_readHead 52 = .ok (.bipush 11, 2) := by decide +kernel
theorem d_CertificateReader_readHead_54 : decode b_CertificateReader_readHead 54 = .ok (.iload_n 1, 1) := by decide +kernel
theorem d_CertificateReader_readHead_55 : decode b_CertificateReader_readHead 55 = .ok (.invokevirtual 89, 3) := by decide +kernel
theorem d_CertificateReader_readHead_58 : decode b_CertificateReader_readHead 58 = .ok (.aload_n 0, 1) := by decide +kernel
theorem d_CertificateReader_readHead_59 : decode b_CertificateReader_readHead 59 = .ok (.getfield 19, 3) := by decide +kernel
theorem d_CertificateReader_readHead_62 : decode b_CertificateReader_readHead 62 = .ok (.aload_n 0, 1) := by decide +kernel
theorem d_CertificateReader_readHead_63 : decode b_CertificateReader_readHead 63 = .ok (.iload_n 1, 1) := by decide +kernel
theorem d_CertificateReader_readHead_64 : decode b_CertificateReader_readHead 64 = .ok (.invokevirtual 93, 3) := by decide +kernel
theorem d_CertificateReader_readHead_67 : decode b_CertificateReader_readHead 67 = .ok (.putfield 96, 3) := by decide +kernel
theorem d_CertificateReader_readHead_70 : decode b_CertificateReader_readHead 70 = .ok (.aload_n 0, 1) := by decide +kernel
theorem d_CertificateReader_readHead_71 : decode b_CertificateReader_readHead 71 = .ok (.bipush 48, 2) := by decide +kernel
theorem d_CertificateReader_readHead_73 : decode b_CertificateReader_readHead 73 = .ok (.iload_n 1, 1) := by decide +kernel
theorem d_CertificateReader_readHead_74 : decode b_CertificateReader_readHead 74 = .ok (.invokevirtual 29, 3) := by decide +kernel
theorem d_CertificateReader_readHead_77 : decode b_CertificateReader_readHead 77 = .ok (.istore_n 3, 1) := by decide +kernel
theorem d_CertificateReader_readHead_78 : decode b_CertificateReader_readHead 78 = .ok (.aload_n 0, 1) := by decide +kernel
theorem d_CertificateReader_readHead_79 : decode b_CertificateReader_readHead 79 = .ok (.getfield 19, 3) := by decide +kernel
theorem d_CertificateReader_readHead_82 : decode b_CertificateReader_readHead 82 = .ok (.aload_n 0, 1) := by decide +kernel
theorem d_CertificateReader_readHead_83 : decode b_CertificateReader_readHead 83 = .ok (.iload_n 3, 1) := by decide +kernel
theorem d_CertificateReader_readHead_84 : decode b_CertificateReader_readHead 84 = .ok (.invokevirtual 99, 3) := by decide +kernel
theorem d_CertificateReader_readHead_87 : decode b_CertificateReader_readHead 87 = .ok (.putfield 103, 3) := by decide +kernel
theorem d_CertificateReader_readHead_90 : decode b_CertificateReader_readHead 90 = .ok (.aload_n 0, 1) := by decide +kernel
theorem d_CertificateReader_readHead_91 : decode b_CertificateReader_readHead 91 = .ok (.getfield 19, 3) := by decide +kernel
theorem d_CertificateReader_readHead_94 : decode b_CertificateReader_readHead 94 = .ok (.aload_n 0, 1) := by decide +kernel
theorem d_CertificateReader_readHead_95 : decode b_CertificateReader_readHead 95 = .ok (.iload_n 3, 1) := by decide +kernel
theorem d_CertificateReader_readHead_96 : decode b_CertificateReader_readHead 96 = .ok (.invokevirtual 99, 3) := by decide +kernel
theorem d_CertificateReader_readHead_99 : decode b_CertificateReader_readHead 99 = .ok (.putfield 107, 3) := by decide +kernel
theorem d_CertificateReader_readHead_102 : decode b_CertificateReader_readHead 102 = .ok (.aload_n 0, 1) := by decide +kernel
theorem d_CertificateReader_readHead_103 : decode b_CertificateReader_readHead 103 = .ok (.iload_n 3, 1) := by decide +kernel
theorem d_CertificateReader_readHead_104 : decode b_CertificateReader_readHead 104 = .ok (.invokevirtual 51, 3) := by decide +kernel
theorem d_CertificateReader_readHead_107 : decode b_CertificateReader_readHead 107 = .ok (.aload_n 0, 1) := by decide +kernel
theorem d_CertificateReader_readHead_108 : decode b_CertificateReader_readHead 108 = .ok (.getfield 19, 3) := by decide +kernel
theorem d_CertificateReader_readHead_111 : decode b_CertificateReader_readHead 111 = .ok (.aload_n 0, 1) := by decide +kernel
theorem d_CertificateReader_readHead_112 : decode b_CertificateReader_readHead 112 = .ok (.iload_n 1, 1) := by decide +kernel
theorem d_CertificateReader_readHead_113 : decode b_CertificateReader_readHead 113 = .ok (.invokevirtual 110, 3) := by decide +kernel
theorem d_CertificateReader_readHead_116 : decode b_CertificateReader_readHead 116 = .ok (.putfield 113, 3) := by decide +kernel
theorem d_CertificateReader_readHead_119 : decode b_CertificateReader_readHead 119 = .ok (.aload_n 0, 1) := by decide +kernel
theorem d_CertificateReader_readHead_120 : decode b_CertificateReader_readHead 120 = .ok (.getfield 19, 3) := by decide +kernel
theorem d_CertificateReader_readHead_123 : decode b_CertificateReader_readHead 123 = .ok (.aload_n 0, 1) := by decide +kernel
theorem d_CertificateReader_readHead_124 : decode b_CertificateReader_readHead 124 = .ok (.getfield 116, 3) := by decide +kernel
theorem d_CertificateReader_readHead_127 : decode b_CertificateReader_readHead 127 = .ok (.putfield 119, 3) := by decide +kernel
theorem d_CertificateReader_readHead_130 : decode b_CertificateReader_readHead 130 = .ok (.aload_n 0, 1) := by decide +kernel
theorem d_CertificateReader_readHead_131 : decode b_CertificateReader_readHead 131 = .ok (.getfield 19, 3) := by decide +kernel
theorem d_CertificateReader_readHead_134 : decode b_CertificateReader_readHead 134 = .ok (.aload_n 0, 1) := by decide +kernel
theorem d_CertificateReader_readHead_135 : decode b_CertificateReader_readHead 135 = .ok (.getfield 19, 3) := by decide +kernel
theorem d_CertificateReader_readHead_138 : decode b_CertificateReader_readHead 138 = .ok (.getfield 113, 3) := by decide +kernel
theorem d_CertificateReader_readHead_141 : decode b_CertificateReader_readHead 141 = .ok (.aload_n 0, 1) := by decide +kernel
theorem d_CertificateReader_readHead_142 : decode b_CertificateReader_readHead 142 = .ok (.getfield 19, 3) := by decide +kernel
theorem d_CertificateReader_readHead_145 : decode b_CertificateReader_readHead 145 = .ok (.getfield 96, 3) := by decide +kernel
theorem d_CertificateReader_readHead_148 : decode b_CertificateReader_readHead 148 = .ok (.invokevirtual 122, 3) := by decide +kernel
theorem d_CertificateReader_readHead_151 : decode b_CertificateReader_readHead 151 = .ok (.putfield 126, 3) := by decide +kernel
theorem d_CertificateReader_readHead_154 : decode b_CertificateReader_readHead 154 = .ok (.return_, 1) := by decide +kernel
set_option maxHeartbeats 4000000 in
set_option maxRecDepth 100000 in
theorem eC_readHead (l : Launch) (dC : Nat → ClassId) (dI : Nat → Nat → Nat) (sb : sB) (h res t ki : Nat) (pa ma ex : Int32) (cB : ClassId) (k0 k1 k2 k3 k4 k5 k6 k7 k19 k20 k21 k22 k23 k24 : Nat) (k8 k9 k10 k11 k12 k13 k14 k15 k16 k17 k18 k27 : Int32) (k25 k26 : Int64) (sz : Nat) : Met l y_CertificateReader_readHead w_CertificateReader_readHead ({ frames := 4, cells := 4, slots := 12, locals := 99 }) (mu_P [.ref h, .int (nI 0)] (dC, dI) sb [(h, .inr (4, [.ref res, .ref t, .int (nI 0), .int (nI 0), .int (wI (some 0)), .int pa, .int ma, .int ex, .ref ki])), (t, .inl (cB, 0, .inl (tx eU))), (res, .inr (3, [.ref k0, .ref k1, .ref k2, .ref k3, .ref k4, .ref k5, .ref k6, .ref k7, .int k8, .int k9, .int k10, .int k11, .int k12, .int k13, .int k14, .int k15, .int k16, .int k17, .int k18, .ref k19, .ref k20, .ref k21, .ref k22, .ref k23, .ref k24, .long k25, .long k26, .int k27]))] [(cB, .byte)] sz) (va_Qv (fun (_u : Nat × Nat × Int32 × Nat × Int64 × Int64) => True) (mu_B (dC, dI) [(cB, .byte)] (va_A [(h, .inr (4, [.ref res, .ref t, .int (nI 0), .int (nI 0), .int (wI (some 0)), .int pa, .int ma, .int ex, .ref ki])), (t, .inl (cB, 0, .inl (tx eU))), (res, .inr (3, [.ref k0, .ref k1, .ref k2, .ref k3, .ref k4, .ref k5, .ref k6, .ref k7, .int k8, .int k9, .int k10, .int k11, .int k12, .int k13, .int k14, .int k15, .int k16, .int k17, .int k18, .ref k19, .ref k20, .ref k21, .ref k22, .ref k23, .ref k24, .long k25, .long k26, .int k27]))] sz) (fun u' : Nat × Nat × Int32 × Nat × Int64 × Int64 => [(h, .inr (4, [.ref res, .ref t, .int (nI 0), .int (nI 0), .int (wI (some 0)), .int 0, .int ma, .int ex, .ref ki])), (t, .inl (cB, 0, .inl (tx eU))), (res, .inr (3, [.ref k0, .ref k1, .ref k2, .ref u'.1, .ref u'.2.1, .ref k5, .ref k6, .ref k7, .int 0, .int k9, .int k10, .int k11, .int k12, .int k13, .int k14, .int u'.2.2.1, .int k16, .int k17, .int k18, .ref k19, .ref k20, .ref k21, .ref k22, .ref k23, .ref u'.2.2.2.1, .long u'.2.2.2.2.1, .long u'.2.2.2.2.2, .int k27]))])) (va_A [(h, .inr (4, [.ref res, .ref t, .int (nI 0), .int (nI 0), .int (wI (some 0)), .int pa, .int ma, .int ex, .ref ki])), (t, .inl (cB, 0, .inl (tx eU))), (res, .inr (3, [.ref k0, .ref k1, .ref k2, .ref k3, .ref k4, .ref k5, .ref k6, .ref k7, .int k8, .int k9, .int k10, .int k11, .int k12, .int k13, .int k14, .int k15, .int k16, .int k17, .int k18, .ref k19, .ref k20, .ref k21, .ref k22, .ref k23, .ref k24, .long k25, .long k26, .int k27]))] sz)) 4 12 (va_A [(h, .inr (4, [.ref res, .ref t, .int (nI 0), .int (nI 0), .int (wI (some 0)), .int pa, .int ma, .int ex, .ref ki])), (t, .inl (cB, 0, .inl (tx eU))), (res, .inr (3, [.ref k0, .ref k1, .ref k2, .ref k3, .ref k4, .ref k5, .ref k6, .ref k7, .int k8, .int k9, .int k10, .int k11, .int k12, .int k13, .int k14, .int k15, .int k16, .int k17, .int k18, .ref k19, .ref k20, .ref k21, .ref k22, .ref k23, .ref k24, .long k25, .long k26, .int k27]))] sz) := by
  refine Met.ofW (cc := b_CertificateReader_readHead) (maxL := 4) (ret := none) (by decide) rfl ?_
  intro p e s m args below meth c s₁ B hml hv
  obtain ⟨rfl, hsz, hB0, hP, hK, hD0, hN, hT0⟩ := hv
  have hx := B.exec
  have hb := B.bytes
  have hr := B.returns
  have hts := atoms_spec (ws := w_CertificateReader_readHead) B.pre
  have tbin : ∀ w ∈ tb, w ∈ w_CertificateReader_readHead := fun w h => List.mem_cons_of_mem _ h
  have htb : ∀ w ∈ tb, w.before _ s = true := fun w h => hts w (tbin w h)
  have hown : s.vm.findClass "TrustChain$CertificateReader" = some m.cls := findClass_of_methodNamed B.named
  have hlocks := B.notSynchronized
  subst hsz
  have hD := hD0.self (sz := s.heap.size)
  generalize hAe : va_A [(h, .inr (4, [.ref res, .ref t, .int (nI 0), .int (nI 0), .int (wI (some 0)), .int pa, .int ma, .int ex, .ref ki])), (t, .inl (cB, 0, .inl (tx eU))), (res, .inr (3, [.ref k0, .ref k1, .ref k2, .ref k3, .ref k4, .ref k5, .ref k6, .ref k7, .int k8, .int k9, .int k10, .int k11, .int k12, .int k13, .int k14, .int k15, .int k16, .int k17, .int k18, .ref k19, .ref k20, .ref k21, .ref k22, .ref k23, .ref k24, .long k25, .long k26, .int k27]))] s.heap.size = A at hD ⊢
  have hA : ∀ q : Nat, s.heap.size ≤ q → A q := fun q h => by rw [← hAe]; exact Or.inr h
  have hAs : ∀ q : Nat, A q → sb.1 ≤ q := fun q h => by
    rw [← hAe] at h
    rcases h with ⟨k, e, h⟩ | h
    · exact hD0.2 k _ h
    · exact Nat.le_trans hB0 h
  have hS : va_S A s.heap s.heap [] := va_S.rf
  have hcs : 4 ≤ (headSpec w_CertificateReader_readHead ({ frames := 4, cells := 4, slots := 12, locals := 99 })).room.cells ∧ 12 ≤ (headSpec w_CertificateReader_readHead ({ frames := 4, cells := 4, slots := 12, locals := 99 })).room.slots := ⟨Nat.le_refl _, Nat.le_refl _⟩
  have hP : va_P (dC, dI) classes [(h, .inr (4, [.ref res, .ref t, .int (nI 0), .int (nI 0), .int (wI (some 0)), .int pa, .int ma, .int ex, .ref ki])), (t, .inl (cB, 0, .inl (tx eU))), (res, .inr (3, [.ref k0, .ref k1, .ref k2, .ref k3, .ref k4, .ref k5, .ref k6, .ref k7, .int k8, .int k9, .int k10, .int k11, .int k12, .int k13, .int k14, .int k15, .int k16, .int k17, .int k18, .ref k19, .ref k20, .ref k21, .ref k22, .ref k23, .ref k24, .long k25, .long k26, .int k27]))] s.heap := hP
  have hl := lv_entry ([.ref h, .int (nI 0)]) (n := 4) (Nat.le_of_ble_eq_true rfl)
  rw [lg_entry_eq]
  generalize (lg_sl ([.ref h, .int (nI 0)]) ++ List.replicate (4 - (lg_sl ([.ref h, .int (nI 0)])).length) Slot.unset).toArray = ls at hl ⊢
  have hl : lv_has ls 4 [(0, .ref h), (1, .int (nI 0))] := hl
  refine lv_aload_n hx hb d_CertificateReader_readHead_0 rfl (lv_at hl 0 rfl) ?_
  refine lv_sipush (v := 160) hx hb d_CertificateReader_readHead_1 (by decide) ?_
  refine lv_iload_n hx hb d_CertificateReader_readHead_4 rfl (lv_at hl 1 rfl) ?_
  have hFc := va_free (wc := [(h, .inr (4, [.ref res, .ref t, .int (nI 0), .int (nI 0), .int (wI (some 0)), .int pa, .int ma, .int ex, .ref ki])), (t, .inl (cB, 0, .inl (tx eU)))]) hD hS hA [0, 1] rfl
  refine va_calli (mu_runU (As := [.int 160, .int (nI 0)]) (rest := []) ⟨hx, hb, hml, hown, hts⟩ (cC_open l dC dI sb h res t ki 0 0 0 (some 0) pa ma ex 0 cB eU 160 0 s.heap.size eU_lt (by decide) ew_0 (Nat.le_refl 0) (Nat.le_refl 0) (by decide)) (cu_of (n := 2) hts tbin q3_108 q3_109 q3_112 q3_111 q1_15 q3_113 rfl (by decide +kernel) ⟨rfl, rfl⟩ ⟨Nat.le_of_ble_eq_true rfl, Nat.le_of_ble_eq_true rfl⟩) rfl ⟨Nat.le_of_ble_eq_true rfl, Nat.le_of_ble_eq_true rfl⟩ hN (hT0.keep hS hAs) hAs (Nat.le_trans hB0 hS.1) hK hP hD [0, 1] (by decide) rfl [0] rfl 0 4 rfl rfl rfl hl.1 rfl (Nat.le_of_ble_eq_true rfl) d_CertificateReader_readHead_5) hS (fun q _ h => hFc q h) hFc (fun r5 u5 tS H5 locs ht hvm hw5 hB hz1 hk1 hS => ?_)
  obtain ⟨x5, rfl⟩ : ∃ z, z = u5 := ⟨_, rfl⟩
  obtain ⟨hP1, hK1, hD1⟩ := hB
  rw [ht] at hP1
  obtain ⟨hP, hD⟩ := va_join (wr := [(res, .inr (3, [.ref k0, .ref k1, .ref k2, .ref k3, .ref k4, .ref k5, .ref k6, .ref k7, .int k8, .int k9, .int k10, .int k11, .int k12, .int k13, .int k14, .int k15, .int k16, .int k17, .int k18, .ref k19, .ref k20, .ref k21, .ref k22, .ref k23, .ref k24, .long k25, .long k26, .int k27]))]) (w1 := [(h, .inr (4, [.ref res, .ref t, .int (nI x5.1), .int (nI x5.2.1), .int (wI x5.2.2), .int pa, .int ma, .int ex, .ref ki])), (t, .inl (cB, 0, .inl (tx eU)))]) hP hD [0, 1] [2] rfl rfl (by decide) (by decide) hk1 hFc hP1 hD1
  have hP : va_P (dC, dI) classes [(res, .inr (3, [.ref k0, .ref k1, .ref k2, .ref k3, .ref k4, .ref k5, .ref k6, .ref k7, .int k8, .int k9, .int k10, .int k11, .int k12, .int k13, .int k14, .int k15, .int k16, .int k17, .int k18, .ref k19, .ref k20, .ref k21, .ref k22, .ref k23, .ref k24, .long k25, .long k26, .int k27])), (h, .inr (4, [.ref res, .ref t, .int (nI x5.1), .int (nI x5.2.1), .int (wI x5.2.2), .int pa, .int ma, .int ex, .ref ki])), (t, .inl (cB, 0, .inl (tx eU)))] H5 := hP
  have hD : va_D A [(res, .inr (3, [.ref k0, .ref k1, .ref k2, .ref k3, .ref k4, .ref k5, .ref k6, .ref k7, .int k8, .int k9, .int k10, .int k11, .int k12, .int k13, .int k14, .int k15, .int k16, .int k17, .int k18, .ref k19, .ref k20, .ref k21, .ref k22, .ref k23, .ref k24, .long k25, .long k26, .int k27])), (h, .inr (4, [.ref res, .ref t, .int (nI x5.1), .int (nI x5.2.1), .int (wI x5.2.2), .int pa, .int ma, .int ex, .ref ki])), (t, .inl (cB, 0, .inl (tx eU)))] := hD
  obtain ⟨rfl, rfl⟩ : x5 = ((0, 0, some 0) : rS) ∧ r5 = nI 0 := hw5
  have hP : va_P (dC, dI) classes [(res, .inr (3, [.ref k0, .ref k1, .ref k2, .ref k3, .ref k4, .ref k5, .ref k6, .ref k7, .int k8, .int k9, .int k10, .int k11, .int k12, .int k13, .int k14, .int k15, .int k16, .int k17, .int k18, .ref k19, .ref k20, .ref k21, .ref k22, .ref k23, .ref k24, .long k25, .long k26, .int k27])), (h, .inr (4, [.ref res, .ref t, .int (nI 0), .int (nI 0), .int (wI (some 0)), .int pa, .int ma, .int ex, .ref ki])), (t, .inl (cB, 0, .inl (tx eU)))] H5 := hP
  have hD : va_D A [(res, .inr (3, [.ref k0, .ref k1, .ref k2, .ref k3, .ref k4, .ref k5, .ref k6, .ref k7, .int k8, .int k9, .int k10, .int k11, .int k12, .int k13, .int k14, .int k15, .int k16, .int k17, .int k18, .ref k19, .ref k20, .ref k21, .ref k22, .ref k23, .ref k24, .long k25, .long k26, .int k27])), (h, .inr (4, [.ref res, .ref t, .int (nI 0), .int (nI 0), .int (wI (some 0)), .int pa, .int ma, .int ex, .ref ki])), (t, .inl (cB, 0, .inl (tx eU)))] := hD
  refine lv_istore_n (lv' := [(2, .int (nI 0)), (0, .ref h), (1, .int (nI 0))]) hx hb d_CertificateReader_readHead_8 rfl hl (by decide) rfl (fun ls hl => ?_)
  refine lv_aload_n hx hb d_CertificateReader_readHead_9 rfl (lv_at hl 1 rfl) ?_
  refine lv_aload_n hx hb d_CertificateReader_readHead_10 rfl (lv_at hl 1 rfl) ?_
  refine lv_iconst (v := 2) hx hb d_CertificateReader_readHead_11 (by decide) ?_
  refine lv_iload_n hx hb d_CertificateReader_readHead_12 rfl (lv_at hl 0 rfl) ?_
  have hFc := va_free (wc := [(h, .inr (4, [.ref res, .ref t, .int (nI 0), .int (nI 0), .int (wI (some 0)), .int pa, .int ma, .int ex, .ref ki])), (t, .inl (cB, 0, .inl (tx eU)))]) hD hS hA [1, 2] rfl
  refine va_callr (mu_runU (As := [.int 2, .int (nI 0)]) (rest := [.ref h]) ⟨hx, hb, hml, hown, hts⟩ (cC_number l dC dI sb h res t ki 0 (0, 0, (some 0)) pa ma ex 0 cB eU 2 0 H5.size eU_lt (by decide) ei_0 (Nat.le_refl 0) (by decide)) (cu_of (n := 2) hts tbin q3_124 q3_125 q3_128 q3_127 q1_15 q3_129 rfl (by decide +kernel) ⟨rfl, rfl⟩ ⟨Nat.le_of_ble_eq_true rfl, Nat.le_of_ble_eq_true rfl⟩) rfl ⟨Nat.le_of_ble_eq_true rfl, Nat.le_of_ble_eq_true rfl⟩ hN (hT0.keep hS hAs) hAs (Nat.le_trans hB0 hS.1) hK hP hD [1, 2] (by decide) rfl [0] rfl 1 4 rfl rfl rfl hl.1 rfl (Nat.le_of_ble_eq_true rfl) d_CertificateReader_readHead_13) hS (fun q _ h => hFc q h) hFc (fun u13 q13 tS H13 locs ht hvm hw13 hB hz1 hk1 hS => ?_)
  obtain ⟨x13, rfl⟩ : ∃ z, z = u13 := ⟨_, rfl⟩
  obtain ⟨hP1, hK1, hD1⟩ := hB
  rw [ht] at hP1
  obtain ⟨hP, hD⟩ := va_join (wr := [(res, .inr (3, [.ref k0, .ref k1, .ref k2, .ref k3, .ref k4, .ref k5, .ref k6, .ref k7, .int k8, .int k9, .int k10, .int k11, .int k12, .int k13, .int k14, .int k15, .int k16, .int k17, .int k18, .ref k19, .ref k20, .ref k21, .ref k22, .ref k23, .ref k24, .long k25, .long k26, .int k27]))]) (w1 := [(h, .inr (4, [.ref res, .ref t, .int (nI x13.1), .int (nI x13.2.1), .int (wI x13.2.2), .int pa, .int ma, .int ex, .ref ki])), (t, .inl (cB, 0, .inl (tx eU))), (q13, .inr (0, [.ref t, .int (nI (rd_nm eU 0 (0, 0, (some 0)) 2 0).2.1), .int (nI (rd_nm eU 0 (0, 0, (some 0)) 2 0).2.2)]))]) hP hD [1, 2] [0] rfl rfl (by decide) (by decide) hk1 hFc hP1 hD1
  have hP : va_P (dC, dI) classes [(res, .inr (3, [.ref k0, .ref k1, .ref k2, .ref k3, .ref k4, .ref k5, .ref k6, .ref k7, .int k8, .int k9, .int k10, .int k11, .int k12, .int k13, .int k14, .int k15, .int k16, .int k17, .int k18, .ref k19, .ref k20, .ref k21, .ref k22, .ref k23, .ref k24, .long k25, .long k26, .int k27])), (h, .inr (4, [.ref res, .ref t, .int (nI x13.1), .int (nI x13.2.1), .int (wI x13.2.2), .int pa, .int ma, .int ex, .ref ki])), (t, .inl (cB, 0, .inl (tx eU))), (q13, .inr (0, [.ref t, .int (nI (rd_nm eU 0 (0, 0, (some 0)) 2 0).2.1), .int (nI (rd_nm eU 0 (0, 0, (some 0)) 2 0).2.2)]))] H13 := hP
  have hD : va_D A [(res, .inr (3, [.ref k0, .ref k1, .ref k2, .ref k3, .ref k4, .ref k5, .ref k6, .ref k7, .int k8, .int k9, .int k10, .int k11, .int k12, .int k13, .int k14, .int k15, .int k16, .int k17, .int k18, .ref k19, .ref k20, .ref k21, .ref k22, .ref k23, .ref k24, .long k25, .long k26, .int k27])), (h, .inr (4, [.ref res, .ref t, .int (nI x13.1), .int (nI x13.2.1), .int (wI x13.2.2), .int pa, .int ma, .int ex, .ref ki])), (t, .inl (cB, 0, .inl (tx eU))), (q13, .inr (0, [.ref t, .int (nI (rd_nm eU 0 (0, 0, (some 0)) 2 0).2.1), .int (nI (rd_nm eU 0 (0, 0, (some 0)) 2 0).2.2)]))] := hD
  obtain rfl : x13 = ((0, 0, some 0) : rS) := hw13
  have hP : va_P (dC, dI) classes [(res, .inr (3, [.ref k0, .ref k1, .ref k2, .ref k3, .ref k4, .ref k5, .ref k6, .ref k7, .int k8, .int k9, .int k10, .int k11, .int k12, .int k13, .int k14, .int k15, .int k16, .int k17, .int k18, .ref k19, .ref k20, .ref k21, .ref k22, .ref k23, .ref k24, .long k25, .long k26, .int k27])), (h, .inr (4, [.ref res, .ref t, .int (nI 0), .int (nI 0), .int (wI (some 0)), .int pa, .int ma, .int ex, .ref ki])), (t, .inl (cB, 0, .inl (tx eU))), (q13, .inr (0, [.ref t, .int (nI 0), .int (nI 0)]))] H13 := hP
  have hD : va_D A [(res, .inr (3, [.ref k0, .ref k1, .ref k2, .ref k3, .ref k4, .ref k5, .ref k6, .ref k7, .int k8, .int k9, .int k10, .int k11, .int k12, .int k13, .int k14, .int k15, .int k16, .int k17, .int k18, .ref k19, .ref k20, .ref k21, .ref k22, .ref k23, .ref k24, .long k25, .long k26, .int k27])), (h, .inr (4, [.ref res, .ref t, .int (nI 0), .int (nI 0), .int (wI (some 0)), .int pa, .int ma, .int ex, .ref ki])), (t, .inl (cB, 0, .inl (tx eU))), (q13, .inr (0, [.ref t, .int (nI 0), .int (nI 0)]))] := hD
  refine vp_callSl (pu_callV (As := []) (rest := [.ref h]) ⟨hx, hb, hml, hown, hts⟩ tbin (c_Slice_number l dC dI sb q13 t 0 0 0 cB eU eU_lt (Nat.le_refl 0) (Nat.le_refl 0) (by decide)) q3_139 q3_140 q3_141 q1_22 q3_142 (n := 0) (by decide +kernel) rfl ⟨rfl, rfl⟩ ⟨Nat.le_of_ble_eq_true rfl, Nat.le_of_ble_eq_true rfl⟩ ⟨Nat.le_of_ble_eq_true rfl, Nat.le_of_ble_eq_true rfl⟩ hN (hT0.keep hS hAs) hK hP [3, 2] rfl [0] rfl 3 0 rfl rfl rfl hl.1 rfl (Nat.le_of_ble_eq_true rfl) d_CertificateReader_readHead_16) (fun r16 hr16 => ?_)
  refine lv_ldc2 (v := 2) hx hb hown (htb _ q3_152) d_CertificateReader_readHead_19 ?_
  refine W.lcmp hx hb d_CertificateReader_readHead_22 ?_
  refine w_join (J := fun jv23 => bz jv23 (jv23 = 1)) (pc := 31) (ls := ls) (rest := [.ref h]) (fun jv23 hjv23 => ?_) (fun k31 => ?_)
  · skip
    have hFc := va_free (wc := [(h, .inr (4, [.ref res, .ref t, .int (nI 0), .int (nI 0), .int (wI (some 0)), .int pa, .int ma, .int ex, .ref ki]))]) hD hS hA [1] rfl
    refine va_callv (mu_runU (As := [.int jv23]) (rest := []) ⟨hx, hb, hml, hown, hts⟩ (cC_require l dC dI sb h res t ki 0 0 0 (some 0) pa ma ex 0 cB eU jv23 H13.size ew_0) (cu_of (n := 1) hts tbin q3_153 q3_154 q3_157 q3_156 q1_15 q3_158 rfl (by decide +kernel) ⟨rfl, rfl⟩ ⟨Nat.le_of_ble_eq_true rfl, Nat.le_of_ble_eq_true rfl⟩) rfl ⟨Nat.le_of_ble_eq_true rfl, Nat.le_of_ble_eq_true rfl⟩ hN (hT0.keep hS hAs) hAs (Nat.le_trans hB0 hS.1) hK hP hD [1] (by decide) rfl [] rfl 1 4 rfl rfl rfl hl.1 rfl (Nat.le_of_ble_eq_true rfl) d_CertificateReader_readHead_31) hS (fun q _ h => hFc q h) hFc (fun u31 tS H31 locs ht hvm hw31 hB hz1 hk1 hS => ?_)
    obtain ⟨x31, rfl⟩ : ∃ z, z = u31 := ⟨_, rfl⟩
    obtain ⟨hP1, hK1, hD1⟩ := hB
    rw [ht] at hP1
    obtain ⟨hP, hD⟩ := va_join (wr := [(res, .inr (3, [.ref k0, .ref k1, .ref k2, .ref k3, .ref k4, .ref k5, .ref k6, .ref k7, .int k8, .int k9, .int k10, .int k11, .int k12, .int k13, .int k14, .int k15, .int k16, .int k17, .int k18, .ref k19, .ref k20, .ref k21, .ref k22, .ref k23, .ref k24, .long k25, .long k26, .int k27])), (t, .inl (cB, 0, .inl (tx eU))), (q13, .inr (0, [.ref t, .int (nI 0), .int (nI 0)]))]) (w1 := [(h, .inr (4, [.ref res, .ref t, .int (nI x31.1), .int (nI x31.2.1), .int (wI x31.2.2), .int pa, .int ma, .int ex, .ref ki]))]) hP hD [1] [0, 2, 3] rfl rfl (by decide) (by decide) hk1 hFc hP1 hD1
    have hP : va_P (dC, dI) classes [(res, .inr (3, [.ref k0, .ref k1, .ref k2, .ref k3, .ref k4, .ref k5, .ref k6, .ref k7, .int k8, .int k9, .int k10, .int k11, .int k12, .int k13, .int k14, .int k15, .int k16, .int k17, .int k18, .ref k19, .ref k20, .ref k21, .ref k22, .ref k23, .ref k24, .long k25, .long k26, .int k27])), (t, .inl (cB, 0, .inl (tx eU))), (q13, .inr (0, [.ref t, .int (nI 0), .int (nI 0)])), (h, .inr (4, [.ref res, .ref t, .int (nI x31.1), .int (nI x31.2.1), .int (wI x31.2.2), .int pa, .int ma, .int ex, .ref ki]))] H31 := hP
    have hD : va_D A [(res, .inr (3, [.ref k0, .ref k1, .ref k2, .ref k3, .ref k4, .ref k5, .ref k6, .ref k7, .int k8, .int k9, .int k10, .int k11, .int k12, .int k13, .int k14, .int k15, .int k16, .int k17, .int k18, .ref k19, .ref k20, .ref k21, .ref k22, .ref k23, .ref k24, .long k25, .long k26, .int k27])), (t, .inl (cB, 0, .inl (tx eU))), (q13, .inr (0, [.ref t, .int (nI 0), .int (nI 0)])), (h, .inr (4, [.ref res, .ref t, .int (nI x31.1), .int (nI x31.2.1), .int (wI x31.2.2), .int pa, .int ma, .int ex, .ref ki]))] := hD
    obtain rfl : x31 = ((0, 0, some 0) : rS) := hw31
    have hP : va_P (dC, dI) classes [(res, .inr (3, [.ref k0, .ref k1, .ref k2, .ref k3, .ref k4, .ref k5, .ref k6, .ref k7, .int k8, .int k9, .int k10, .int k11, .int k12, .int k13, .int k14, .int k15, .int k16, .int k17, .int k18, .ref k19, .ref k20, .ref k21, .ref k22, .ref k23, .ref k24, .long k25, .long k26, .int k27])), (t, .inl (cB, 0, .inl (tx eU))), (q13, .inr (0, [.ref t, .int (nI 0), .int (nI 0)])), (h, .inr (4, [.ref res, .ref t, .int (nI 0), .int (nI 0), .int (wI (some 0)), .int pa, .int ma, .int ex, .ref ki]))] H31 := hP
    have hD : va_D A [(res, .inr (3, [.ref k0, .ref k1, .ref k2, .ref k3, .ref k4, .ref k5, .ref k6, .ref k7, .int k8, .int k9, .int k10, .int k11, .int k12, .int k13, .int k14, .int k15, .int k16, .int k17, .int k18, .ref k19, .ref k20, .ref k21, .ref k22, .ref k23, .ref k24, .long k25, .long k26, .int k27])), (t, .inl (cB, 0, .inl (tx eU))), (q13, .inr (0, [.ref t, .int (nI 0), .int (nI 0)])), (h, .inr (4, [.ref res, .ref t, .int (nI 0), .int (nI 0), .int (wI (some 0)), .int pa, .int ma, .int ex, .ref ki]))] := hD
    refine lv_aload_n hx hb d_CertificateReader_readHead_34 rfl (lv_at hl 1 rfl) ?_
    refine lv_iload_n hx hb d_CertificateReader_readHead_35 rfl (lv_at hl 0 rfl) ?_
    have hFc := va_free (wc := [(h, .inr (4, [.ref res, .ref t, .int (nI 0), .int (nI 0), .int (wI (some 0)), .int pa, .int ma, .int ex, .ref ki]))]) hD hS hA [3] rfl
    refine va_callv (mu_runU (As := [.int (nI 0)]) (rest := []) ⟨hx, hb, hml, hown, hts⟩ (cC_finish l dC dI sb h res t ki 0 0 0 (some 0) pa ma ex 0 cB eU 0 H31.size ew_0 (by decide) (by decide)) (cu_of (n := 1) hts tbin q3_159 q3_160 q3_163 q3_162 q1_15 q3_164 rfl (by decide +kernel) ⟨rfl, rfl⟩ ⟨Nat.le_of_ble_eq_true rfl, Nat.le_of_ble_eq_true rfl⟩) rfl ⟨Nat.le_of_ble_eq_true rfl, Nat.le_of_ble_eq_true rfl⟩ hN (hT0.keep hS hAs) hAs (Nat.le_trans hB0 hS.1) hK hP hD [3] (by decide) rfl [] rfl 3 4 rfl rfl rfl hl.1 rfl (Nat.le_of_ble_eq_true rfl) d_CertificateReader_readHead_36) hS (fun q _ h => hFc q h) hFc (fun u36 tS H36 locs ht hvm hw36 hB hz1 hk1 hS => ?_)
    obtain ⟨x36, rfl⟩ : ∃ z, z = u36 := ⟨_, rfl⟩
    obtain ⟨hP1, hK1, hD1⟩ := hB
    rw [ht] at hP1
    obtain ⟨hP, hD⟩ := va_join (wr := [(res, .inr (3, [.ref k0, .ref k1, .ref k2, .ref k3, .ref k4, .ref k5, .ref k6, .ref k7, .int k8, .int k9, .int k10, .int k11, .int k12, .int k13, .int k14, .int k15, .int k16, .int k17, .int k18, .ref k19, .ref k20, .ref k21, .ref k22, .ref k23, .ref k24, .long k25, .long k26, .int k27])), (t, .inl (cB, 0, .inl (tx eU))), (q13, .inr (0, [.ref t, .int (nI 0), .int (nI 0)]))]) (w1 := [(h, .inr (4, [.ref res, .ref t, .int (nI x36.1), .int (nI x36.2.1), .int (wI x36.2.2), .int pa, .int ma, .int ex, .ref ki]))]) hP hD [3] [0, 1, 2] rfl rfl (by decide) (by decide) hk1 hFc hP1 hD1
    have hP : va_P (dC, dI) classes [(res, .inr (3, [.ref k0, .ref k1, .ref k2, .ref k3, .ref k4, .ref k5, .ref k6, .ref k7, .int k8, .int k9, .int k10, .int k11, .int k12, .int k13, .int k14, .int k15, .int k16, .int k17, .int k18, .ref k19, .ref k20, .ref k21, .ref k22, .ref k23, .ref k24, .long k25, .long k26, .int k27])), (t, .inl (cB, 0, .inl (tx eU))), (q13, .inr (0, [.ref t, .int (nI 0), .int (nI 0)])), (h, .inr (4, [.ref res, .ref t, .int (nI x36.1), .int (nI x36.2.1), .int (wI x36.2.2), .int pa, .int ma, .int ex, .ref ki]))] H36 := hP
    have hD : va_D A [(res, .inr (3, [.ref k0, .ref k1, .ref k2, .ref k3, .ref k4, .ref k5, .ref k6, .ref k7, .int k8, .int k9, .int k10, .int k11, .int k12, .int k13, .int k14, .int k15, .int k16, .int k17, .int k18, .ref k19, .ref k20, .ref k21, .ref k22, .ref k23, .ref k24, .long k25, .long k26, .int k27])), (t, .inl (cB, 0, .inl (tx eU))), (q13, .inr (0, [.ref t, .int (nI 0), .int (nI 0)])), (h, .inr (4, [.ref res, .ref t, .int (nI x36.1), .int (nI x36.2.1), .int (wI x36.2.2), .int pa, .int ma, .int ex, .ref ki]))] := hD
    obtain rfl : x36 = ((0, 0, some 0) : rS) := hw36
    have hP : va_P (dC, dI) classes [(res, .inr (3, [.ref k0, .ref k1, .ref k2, .ref k3, .ref k4, .ref k5, .ref k6, .ref k7, .int k8, .int k9, .int k10, .int k11, .int k12, .int k13, .int k14, .int k15, .int k16, .int k17, .int k18, .ref k19, .ref k20, .ref k21, .ref k22, .ref k23, .ref k24, .long k25, .long k26, .int k27])), (t, .inl (cB, 0, .inl (tx eU))), (q13, .inr (0, [.ref t, .int (nI 0), .int (nI 0)])), (h, .inr (4, [.ref res, .ref t, .int (nI 0), .int (nI 0), .int (wI (some 0)), .int pa, .int ma, .int ex, .ref ki]))] H36 := hP
    have hD : va_D A [(res, .inr (3, [.ref k0, .ref k1, .ref k2, .ref k3, .ref k4, .ref k5, .ref k6, .ref k7, .int k8, .int k9, .int k10, .int k11, .int k12, .int k13, .int k14, .int k15, .int k16, .int k17, .int k18, .ref k19, .ref k20, .ref k21, .ref k22, .ref k23, .ref k24, .long k25, .long k26, .int k27])), (t, .inl (cB, 0, .inl (tx eU))), (q13, .inr (0, [.ref t, .int (nI 0), .int (nI 0)])), (h, .inr (4, [.ref res, .ref t, .int (nI 0), .int (nI 0), .int (wI (some 0)), .int pa, .int ma, .int ex, .ref ki]))] := hD
    refine lv_aload_n hx hb d_CertificateReader_readHead_39 rfl (lv_at hl 1 rfl) ?_
    refine va_get (v := .ref res) hx hb htb i_CertificateReader hown hK hP 3 rfl rfl 0 (by decide) (htb _ q3_55) (fun _ h9 => h9) rfl d_CertificateReader_readHead_40 ?_
    refine lv_aload_n hx hb d_CertificateReader_readHead_43 rfl (lv_at hl 1 rfl) ?_
    refine lv_iload_n hx hb d_CertificateReader_readHead_44 rfl (lv_at hl 2 rfl) ?_
    have hFc := va_free (wc := [(h, .inr (4, [.ref res, .ref t, .int (nI 0), .int (nI 0), .int (wI (some 0)), .int pa, .int ma, .int ex, .ref ki])), (t, .inl (cB, 0, .inl (tx eU)))]) hD hS hA [3, 1] rfl
    refine va_callr (mu_runU (As := [.int (nI 0)]) (rest := [.ref res]) ⟨hx, hb, hml, hown, hts⟩ (cC_serial l dC dI sb h res t ki 0 (0, 0, (some 0)) pa ma ex 0 cB eU 0 H36.size eU_lt (by decide) ei_0 (Nat.le_refl 0)) (cu_of (n := 1) hts tbin q3_165 q3_166 q3_169 q3_168 q1_15 q3_170 rfl (by decide +kernel) ⟨rfl, rfl⟩ ⟨Nat.le_of_ble_eq_true rfl, Nat.le_of_ble_eq_true rfl⟩) rfl ⟨Nat.le_of_ble_eq_true rfl, Nat.le_of_ble_eq_true rfl⟩ hN (hT0.keep hS hAs) hAs (Nat.le_trans hB0 hS.1) hK hP hD [3, 1] (by decide) rfl [0] rfl 3 4 rfl rfl rfl hl.1 rfl (Nat.le_of_ble_eq_true rfl) d_CertificateReader_readHead_45) hS (fun q _ h => hFc q h) hFc (fun u45 q45 tS H45 locs ht hvm hw45 hB hz1 hk1 hS => ?_)
    obtain ⟨x45, rfl⟩ : ∃ z, z = u45 := ⟨_, rfl⟩
    obtain ⟨hP1, hK1, hD1⟩ := hB
    rw [ht] at hP1
    obtain ⟨hP, hD⟩ := va_join (wr := [(res, .inr (3, [.ref k0, .ref k1, .ref k2, .ref k3, .ref k4, .ref k5, .ref k6, .ref k7, .int k8, .int k9, .int k10, .int k11, .int k12, .int k13, .int k14, .int k15, .int k16, .int k17, .int k18, .ref k19, .ref k20, .ref k21, .ref k22, .ref k23, .ref k24, .long k25, .long k26, .int k27])), (q13, .inr (0, [.ref t, .int (nI 0), .int (nI 0)]))]) (w1 := [(h, .inr (4, [.ref res, .ref t, .int (nI x45.1), .int (nI x45.2.1), .int (wI x45.2.2), .int pa, .int ma, .int ex, .ref ki])), (t, .inl (cB, 0, .inl (tx eU))), (q45, .inr (0, [.ref t, .int (nI (rd_ser eU 0 (0, 0, (some 0)) 0).2.1), .int (nI (rd_ser eU 0 (0, 0, (some 0)) 0).2.2)]))]) hP hD [3, 1] [0, 2] rfl rfl (by decide) (by decide) hk1 hFc hP1 hD1
    have hP : va_P (dC, dI) classes [(res, .inr (3, [.ref k0, .ref k1, .ref k2, .ref k3, .ref k4, .ref k5, .ref k6, .ref k7, .int k8, .int k9, .int k10, .int k11, .int k12, .int k13, .int k14, .int k15, .int k16, .int k17, .int k18, .ref k19, .ref k20, .ref k21, .ref k22, .ref k23, .ref k24, .long k25, .long k26, .int k27])), (q13, .inr (0, [.ref t, .int (nI 0), .int (nI 0)])), (h, .inr (4, [.ref res, .ref t, .int (nI x45.1), .int (nI x45.2.1), .int (wI x45.2.2), .int pa, .int ma, .int ex, .ref ki])), (t, .inl (cB, 0, .inl (tx eU))), (q45, .inr (0, [.ref t, .int (nI (rd_ser eU 0 (0, 0, (some 0)) 0).2.1), .int (nI (rd_ser eU 0 (0, 0, (some 0)) 0).2.2)]))] H45 := hP
    have hD : va_D A [(res, .inr (3, [.ref k0, .ref k1, .ref k2, .ref k3, .ref k4, .ref k5, .ref k6, .ref k7, .int k8, .int k9, .int k10, .int k11, .int k12, .int k13, .int k14, .int k15, .int k16, .int k17, .int k18, .ref k19, .ref k20, .ref k21, .ref k22, .ref k23, .ref k24, .long k25, .long k26, .int k27])), (q13, .inr (0, [.ref t, .int (nI 0), .int (nI 0)])), (h, .inr (4, [.ref res, .ref t, .int (nI x45.1), .int (nI x45.2.1), .int (wI x45.2.2), .int pa, .int ma, .int ex, .ref ki])), (t, .inl (cB, 0, .inl (tx eU))), (q45, .inr (0, [.ref t, .int (nI (rd_ser eU 0 (0, 0, (some 0)) 0).2.1), .int (nI (rd_ser eU 0 (0, 0, (some 0)) 0).2.2)]))] := hD
    obtain rfl : x45 = ((0, 0, some 0) : rS) := hw45
    have hP : va_P (dC, dI) classes [(res, .inr (3, [.ref k0, .ref k1, .ref k2, .ref k3, .ref k4, .ref k5, .ref k6, .ref k7, .int k8, .int k9, .int k10, .int k11, .int k12, .int k13, .int k14, .int k15, .int k16, .int k17, .int k18, .ref k19, .ref k20, .ref k21, .ref k22, .ref k23, .ref k24, .long k25, .long k26, .int k27])), (q13, .inr (0, [.ref t, .int (nI 0), .int (nI 0)])), (h, .inr (4, [.ref res, .ref t, .int (nI 0), .int (nI 0), .int (wI (some 0)), .int pa, .int ma, .int ex, .ref ki])), (t, .inl (cB, 0, .inl (tx eU))), (q45, .inr (0, [.ref t, .int (nI 0), .int (nI 0)]))] H45 := hP
    have hD : va_D A [(res, .inr (3, [.ref k0, .ref k1, .ref k2, .ref k3, .ref k4, .ref k5, .ref k6, .ref k7, .int k8, .int k9, .int k10, .int k11, .int k12, .int k13, .int k14, .int k15, .int k16, .int k17, .int k18, .ref k19, .ref k20, .ref k21, .ref k22, .ref k23, .ref k24, .long k25, .long k26, .int k27])), (q13, .inr (0, [.ref t, .int (nI 0), .int (nI 0)])), (h, .inr (4, [.ref res, .ref t, .int (nI 0), .int (nI 0), .int (wI (some 0)), .int pa, .int ma, .int ex, .ref ki])), (t, .inl (cB, 0, .inl (tx eU))), (q45, .inr (0, [.ref t, .int (nI 0), .int (nI 0)]))] := hD
    refine va_put (v := .ref q45) (ty := (.object "TrustChain$Slice")) hx hb htb i_Certificate t_Certificate t_Certificate_ok n_Certificate hown hK hP hD hS 0 rfl rfl 3 (by decide) (htb _ q2_148) (fun _ h9 => h9) rfl (by decide +kernel) rfl rfl (Nat.le_of_ble_eq_true rfl) d_CertificateReader_readHead_48 (fun H48 locs hP hD hS => ?_)
    have hP : va_P (dC, dI) classes [(res, .inr (3, [.ref k0, .ref k1, .ref k2, .ref q45, .ref k4, .ref k5, .ref k6, .ref k7, .int k8, .int k9, .int k10, .int k11, .int k12, .int k13, .int k14, .int k15, .int k16, .int k17, .int k18, .ref k19, .ref k20, .ref k21, .ref k22, .ref k23, .ref k24, .long k25, .long k26, .int k27])), (q13, .inr (0, [.ref t, .int (nI 0), .int (nI 0)])), (h, .inr (4, [.ref res, .ref t, .int (nI 0), .int (nI 0), .int (wI (some 0)), .int pa, .int ma, .int ex, .ref ki])), (t, .inl (cB, 0, .inl (tx eU))), (q45, .inr (0, [.ref t, .int (nI 0), .int (nI 0)]))] H48 := hP
    have hD : va_D A [(res, .inr (3, [.ref k0, .ref k1, .ref k2, .ref q45, .ref k4, .ref k5, .ref k6, .ref k7, .int k8, .int k9, .int k10, .int k11, .int k12, .int k13, .int k14, .int k15, .int k16, .int k17, .int k18, .ref k19, .ref k20, .ref k21, .ref k22, .ref k23, .ref k24, .long k25, .long k26, .int k27])), (q13, .inr (0, [.ref t, .int (nI 0), .int (nI 0)])), (h, .inr (4, [.ref res, .ref t, .int (nI 0), .int (nI 0), .int (wI (some 0)), .int pa, .int ma, .int ex, .ref ki])), (t, .inl (cB, 0, .inl (tx eU))), (q45, .inr (0, [.ref t, .int (nI 0), .int (nI 0)]))] := hD
    refine lv_aload_n hx hb d_CertificateReader_readHead_51 rfl (lv_at hl 1 rfl) ?_
    refine lv_bipush (v := 11) hx hb d_CertificateReader_readHead_52 (by decide) ?_
    refine lv_iload_n hx hb d_CertificateReader_readHead_54 rfl (lv_at hl 2 rfl) ?_
    have hFc := va_free (wc := [(h, .inr (4, [.ref res, .ref t, .int (nI 0), .int (nI 0), .int (wI (some 0)), .int pa, .int ma, .int ex, .ref ki])), (t, .inl (cB, 0, .inl (tx eU)))]) hD hS hA [2, 3] rfl
    refine va_callv (mu_runU (As := [.int 11, .int (nI 0)]) (rest := []) ⟨hx, hb, hml, hown, hts⟩ (cC_algorithm l dC dI sb h res t ki 0 (0, 0, (some 0)) pa ma ex 0 cB eU 11 0 H48.size eU_lt (by decide) ei_0 (Nat.le_refl 0) (by decide)) (cu_of (n := 2) hts tbin q3_175 q3_176 q3_179 q3_178 q1_15 q3_180 rfl (by decide +kernel) ⟨rfl, rfl⟩ ⟨Nat.le_of_ble_eq_true rfl, Nat.le_of_ble_eq_true rfl⟩) rfl ⟨Nat.le_of_ble_eq_true rfl, Nat.le_of_ble_eq_true rfl⟩ hN (hT0.keep hS hAs) hAs (Nat.le_trans hB0 hS.1) hK hP hD [2, 3] (by decide) rfl [0] rfl 2 4 rfl rfl rfl hl.1 rfl (Nat.le_of_ble_eq_true rfl) d_CertificateReader_readHead_55) hS (fun q _ h => hFc q h) hFc (fun u55 tS H55 locs ht hvm hw55 hB hz1 hk1 hS => ?_)
    obtain ⟨x55, rfl⟩ : ∃ z, z = u55 := ⟨_, rfl⟩
    obtain ⟨hP1, hK1, hD1⟩ := hB
    rw [ht] at hP1
    obtain ⟨hP, hD⟩ := va_join (wr := [(res, .inr (3, [.ref k0, .ref k1, .ref k2, .ref q45, .ref k4, .ref k5, .ref k6, .ref k7, .int k8, .int k9, .int k10, .int k11, .int k12, .int k13, .int k14, .int k15, .int k16, .int k17, .int k18, .ref k19, .ref k20, .ref k21, .ref k22, .ref k23, .ref k24, .long k25, .long k26, .int k27])), (q13, .inr (0, [.ref t, .int (nI 0), .int (nI 0)])), (q45, .inr (0, [.ref t, .int (nI 0), .int (nI 0)]))]) (w1 := [(h, .inr (4, [.ref res, .ref t, .int (nI x55.1), .int (nI x55.2.1), .int (wI x55.2.2), .int pa, .int ma, .int ex, .ref ki])), (t, .inl (cB, 0, .inl (tx eU)))]) hP hD [2, 3] [0, 1, 4] rfl rfl (by decide) (by decide) hk1 hFc hP1 hD1
    have hP : va_P (dC, dI) classes [(res, .inr (3, [.ref k0, .ref k1, .ref k2, .ref q45, .ref k4, .ref k5, .ref k6, .ref k7, .int k8, .int k9, .int k10, .int k11, .int k12, .int k13, .int k14, .int k15, .int k16, .int k17, .int k18, .ref k19, .ref k20, .ref k21, .ref k22, .ref k23, .ref k24, .long k25, .long k26, .int k27])), (q13, .inr (0, [.ref t, .int (nI 0), .int (nI 0)])), (q45, .inr (0, [.ref t, .int (nI 0), .int (nI 0)])), (h, .inr (4, [.ref res, .ref t, .int (nI x55.1), .int (nI x55.2.1), .int (wI x55.2.2), .int pa, .int ma, .int ex, .ref ki])), (t, .inl (cB, 0, .inl (tx eU)))] H55 := hP
    have hD : va_D A [(res, .inr (3, [.ref k0, .ref k1, .ref k2, .ref q45, .ref k4, .ref k5, .ref k6, .ref k7, .int k8, .int k9, .int k10, .int k11, .int k12, .int k13, .int k14, .int k15, .int k16, .int k17, .int k18, .ref k19, .ref k20, .ref k21, .ref k22, .ref k23, .ref k24, .long k25, .long k26, .int k27])), (q13, .inr (0, [.ref t, .int (nI 0), .int (nI 0)])), (q45, .inr (0, [.ref t, .int (nI 0), .int (nI 0)])), (h, .inr (4, [.ref res, .ref t, .int (nI x55.1), .int (nI x55.2.1), .int (wI x55.2.2), .int pa, .int ma, .int ex, .ref ki])), (t, .inl (cB, 0, .inl (tx eU)))] := hD
    obtain rfl : x55 = ((0, 0, some 0) : rS) := hw55
    have hP : va_P (dC, dI) classes [(res, .inr (3, [.ref k0, .ref k1, .ref k2, .ref q45, .ref k4, .ref k5, .ref k6, .ref k7, .int k8, .int k9, .int k10, .int k11, .int k12, .int k13, .int k14, .int k15, .int k16, .int k17, .int k18, .ref k19, .ref k20, .ref k21, .ref k22, .ref k23, .ref k24, .long k25, .long k26, .int k27])), (q13, .inr (0, [.ref t, .int (nI 0), .int (nI 0)])), (q45, .inr (0, [.ref t, .int (nI 0), .int (nI 0)])), (h, .inr (4, [.ref res, .ref t, .int (nI 0), .int (nI 0), .int (wI (some 0)), .int pa, .int ma, .int ex, .ref ki])), (t, .inl (cB, 0, .inl (tx eU)))] H55 := hP
    have hD : va_D A [(res, .inr (3, [.ref k0, .ref k1, .ref k2, .ref q45, .ref k4, .ref k5, .ref k6, .ref k7, .int k8, .int k9, .int k10, .int k11, .int k12, .int k13, .int k14, .int k15, .int k16, .int k17, .int k18, .ref k19, .ref k20, .ref k21, .ref k22, .ref k23, .ref k24, .long k25, .long k26, .int k27])), (q13, .inr (0, [.ref t, .int (nI 0), .int (nI 0)])), (q45, .inr (0, [.ref t, .int (nI 0), .int (nI 0)])), (h, .inr (4, [.ref res, .ref t, .int (nI 0), .int (nI 0), .int (wI (some 0)), .int pa, .int ma, .int ex, .ref ki])), (t, .inl (cB, 0, .inl (tx eU)))] := hD
    refine lv_aload_n hx hb d_CertificateReader_readHead_58 rfl (lv_at hl 1 rfl) ?_
    refine va_get (v := .ref res) hx hb htb i_CertificateReader hown hK hP 3 rfl rfl 0 (by decide) (htb _ q3_55) (fun _ h9 => h9) rfl d_CertificateReader_readHead_59 ?_
    refine lv_aload_n hx hb d_CertificateReader_readHead_62 rfl (lv_at hl 1 rfl) ?_
    refine lv_iload_n hx hb d_CertificateReader_readHead_63 rfl (lv_at hl 2 rfl) ?_
    have hFc := va_free (wc := [(h, .inr (4, [.ref res, .ref t, .int (nI 0), .int (nI 0), .int (wI (some 0)), .int pa, .int ma, .int ex, .ref ki])), (t, .inl (cB, 0, .inl (tx eU)))]) hD hS hA [3, 4] rfl
    refine va_callr (mu_runU (As := [.int (nI 0)]) (rest := [.ref res]) ⟨hx, hb, hml, hown, hts⟩ (eC_fullName l dC dI sb h res t ki pa ma ex cB H55.size) (cu_of (n := 1) hts tbin q3_184 q3_185 q3_188 q3_187 q1_15 q3_189 rfl (by decide +kernel) ⟨rfl, rfl⟩ ⟨Nat.le_of_ble_eq_true rfl, Nat.le_of_ble_eq_true rfl⟩) rfl ⟨Nat.le_of_ble_eq_true rfl, Nat.le_of_ble_eq_true rfl⟩ hN (hT0.keep hS hAs) hAs (Nat.le_trans hB0 hS.1) hK hP hD [3, 4] (by decide) rfl [0] rfl 3 4 rfl rfl rfl hl.1 rfl (Nat.le_of_ble_eq_true rfl) d_CertificateReader_readHead_64) hS (fun q _ h => hFc q h) hFc (fun u64 q64 tS H64 locs ht hvm hw64 hB hz1 hk1 hS => ?_)
    skip
    obtain ⟨hP1, hK1, hD1⟩ := hB
    rw [ht] at hP1
    obtain ⟨hP, hD⟩ := va_join (wr := [(res, .inr (3, [.ref k0, .ref k1, .ref k2, .ref q45, .ref k4, .ref k5, .ref k6, .ref k7, .int k8, .int k9, .int k10, .int k11, .int k12, .int k13, .int k14, .int k15, .int k16, .int k17, .int k18, .ref k19, .ref k20, .ref k21, .ref k22, .ref k23, .ref k24, .long k25, .long k26, .int k27])), (q13, .inr (0, [.ref t, .int (nI 0), .int (nI 0)])), (q45, .inr (0, [.ref t, .int (nI 0), .int (nI 0)]))]) (w1 := [(h, .inr (4, [.ref res, .ref t, .int (nI 0), .int (nI 0), .int (wI (some 0)), .int 0, .int ma, .int ex, .ref ki])), (t, .inl (cB, 0, .inl (tx eU))), (q64, .inr (0, [.ref t, .int (nI 0), .int (nI 0)]))]) hP hD [3, 4] [0, 1, 2] rfl rfl (by decide) (by decide) hk1 hFc hP1 hD1
    have hP : va_P (dC, dI) classes [(res, .inr (3, [.ref k0, .ref k1, .ref k2, .ref q45, .ref k4, .ref k5, .ref k6, .ref k7, .int k8, .int k9, .int k10, .int k11, .int k12, .int k13, .int k14, .int k15, .int k16, .int k17, .int k18, .ref k19, .ref k20, .ref k21, .ref k22, .ref k23, .ref k24, .long k25, .long k26, .int k27])), (q13, .inr (0, [.ref t, .int (nI 0), .int (nI 0)])), (q45, .inr (0, [.ref t, .int (nI 0), .int (nI 0)])), (h, .inr (4, [.ref res, .ref t, .int (nI 0), .int (nI 0), .int (wI (some 0)), .int 0, .int ma, .int ex, .ref ki])), (t, .inl (cB, 0, .inl (tx eU))), (q64, .inr (0, [.ref t, .int (nI 0), .int (nI 0)]))] H64 := hP
    have hD : va_D A [(res, .inr (3, [.ref k0, .ref k1, .ref k2, .ref q45, .ref k4, .ref k5, .ref k6, .ref k7, .int k8, .int k9, .int k10, .int k11, .int k12, .int k13, .int k14, .int k15, .int k16, .int k17, .int k18, .ref k19, .ref k20, .ref k21, .ref k22, .ref k23, .ref k24, .long k25, .long k26, .int k27])), (q13, .inr (0, [.ref t, .int (nI 0), .int (nI 0)])), (q45, .inr (0, [.ref t, .int (nI 0), .int (nI 0)])), (h, .inr (4, [.ref res, .ref t, .int (nI 0), .int (nI 0), .int (wI (some 0)), .int 0, .int ma, .int ex, .ref ki])), (t, .inl (cB, 0, .inl (tx eU))), (q64, .inr (0, [.ref t, .int (nI 0), .int (nI 0)]))] := hD
    refine va_put (v := .ref q64) (ty := (.object "TrustChain$Slice")) hx hb htb i_Certificate t_Certificate t_Certificate_ok n_Certificate hown hK hP hD hS 0 rfl rfl 24 (by decide) (htb _ q2_215) (fun x9 h9 => u_same (htb _ q2_213) x9 h9) rfl (by decide +kernel) rfl rfl (Nat.le_of_ble_eq_true rfl) d_CertificateReader_readHead_67 (fun H67 locs hP hD hS => ?_)
    have hP : va_P (dC, dI) classes [(res, .inr (3, [.ref k0, .ref k1, .ref k2, .ref q45, .ref k4, .ref k5, .ref k6, .ref k7, .int k8, .int k9, .int k10, .int k11, .int k12, .int k13, .int k14, .int k15, .int k16, .int k17, .int k18, .ref k19, .ref k20, .ref k21, .ref k22, .ref k23, .ref q64, .long k25, .long k26, .int k27])), (q13, .inr (0, [.ref t, .int (nI 0), .int (nI 0)])), (q45, .inr (0, [.ref t, .int (nI 0), .int (nI 0)])), (h, .inr (4, [.ref res, .ref t, .int (nI 0), .int (nI 0), .int (wI (some 0)), .int 0, .int ma, .int ex, .ref ki])), (t, .inl (cB, 0, .inl (tx eU))), (q64, .inr (0, [.ref t, .int (nI 0), .int (nI 0)]))] H67 := hP
    have hD : va_D A [(res, .inr (3, [.ref k0, .ref k1, .ref k2, .ref q45, .ref k4, .ref k5, .ref k6, .ref k7, .int k8, .int k9, .int k10, .int k11, .int k12, .int k13, .int k14, .int k15, .int k16, .int k17, .int k18, .ref k19, .ref k20, .ref k21, .ref k22, .ref k23, .ref q64, .long k25, .long k26, .int k27])), (q13, .inr (0, [.ref t, .int (nI 0), .int (nI 0)])), (q45, .inr (0, [.ref t, .int (nI 0), .int (nI 0)])), (h, .inr (4, [.ref res, .ref t, .int (nI 0), .int (nI 0), .int (wI (some 0)), .int 0, .int ma, .int ex, .ref ki])), (t, .inl (cB, 0, .inl (tx eU))), (q64, .inr (0, [.ref t, .int (nI 0), .int (nI 0)]))] := hD
    refine lv_aload_n hx hb d_CertificateReader_readHead_70 rfl (lv_at hl 1 rfl) ?_
    refine lv_bipush (v := 48) hx hb d_CertificateReader_readHead_71 (by decide) ?_
    refine lv_iload_n hx hb d_CertificateReader_readHead_73 rfl (lv_at hl 2 rfl) ?_
    have hFc := va_free (wc := [(h, .inr (4, [.ref res, .ref t, .int (nI 0), .int (nI 0), .int (wI (some 0)), .int 0, .int ma, .int ex, .ref ki])), (t, .inl (cB, 0, .inl (tx eU)))]) hD hS hA [3, 4] rfl
    refine va_calli (mu_runU (As := [.int 48, .int (nI 0)]) (rest := []) ⟨hx, hb, hml, hown, hts⟩ (cC_open l dC dI sb h res t ki 0 0 0 (some 0) 0 ma ex 0 cB eU 48 0 H67.size eU_lt (by decide) ew_0 (Nat.le_refl 0) (Nat.le_refl 0) (by decide)) (cu_of (n := 2) hts tbin q3_108 q3_109 q3_112 q3_111 q1_15 q3_113 rfl (by decide +kernel) ⟨rfl, rfl⟩ ⟨Nat.le_of_ble_eq_true rfl, Nat.le_of_ble_eq_true rfl⟩) rfl ⟨Nat.le_of_ble_eq_true rfl, Nat.le_of_ble_eq_true rfl⟩ hN (hT0.keep hS hAs) hAs (Nat.le_trans hB0 hS.1) hK hP hD [3, 4] (by decide) rfl [0] rfl 3 4 rfl rfl rfl hl.1 rfl (Nat.le_of_ble_eq_true rfl) d_CertificateReader_readHead_74) hS (fun q _ h => hFc q h) hFc (fun r74 u74 tS H74 locs ht hvm hw74 hB hz1 hk1 hS => ?_)
    obtain ⟨x74, rfl⟩ : ∃ z, z = u74 := ⟨_, rfl⟩
    obtain ⟨hP1, hK1, hD1⟩ := hB
    rw [ht] at hP1
    obtain ⟨hP, hD⟩ := va_join (wr := [(res, .inr (3, [.ref k0, .ref k1, .ref k2, .ref q45, .ref k4, .ref k5, .ref k6, .ref k7, .int k8, .int k9, .int k10, .int k11, .int k12, .int k13, .int k14, .int k15, .int k16, .int k17, .int k18, .ref k19, .ref k20, .ref k21, .ref k22, .ref k23, .ref q64, .long k25, .long k26, .int k27])), (q13, .inr (0, [.ref t, .int (nI 0), .int (nI 0)])), (q45, .inr (0, [.ref t, .int (nI 0), .int (nI 0)])), (q64, .inr (0, [.ref t, .int (nI 0), .int (nI 0)]))]) (w1 := [(h, .inr (4, [.ref res, .ref t, .int (nI x74.1), .int (nI x74.2.1), .int (wI x74.2.2), .int 0, .int ma, .int ex, .ref ki])), (t, .inl (cB, 0, .inl (tx eU)))]) hP hD [3, 4] [0, 1, 2, 5] rfl rfl (by decide) (by decide) hk1 hFc hP1 hD1
    have hP : va_P (dC, dI) classes [(res, .inr (3, [.ref k0, .ref k1, .ref k2, .ref q45, .ref k4, .ref k5, .ref k6, .ref k7, .int k8, .int k9, .int k10, .int k11, .int k12, .int k13, .int k14, .int k15, .int k16, .int k17, .int k18, .ref k19, .ref k20, .ref k21, .ref k22, .ref k23, .ref q64, .long k25, .long k26, .int k27])), (q13, .inr (0, [.ref t, .int (nI 0), .int (nI 0)])), (q45, .inr (0, [.ref t, .int (nI 0), .int (nI 0)])), (q64, .inr (0, [.ref t, .int (nI 0), .int (nI 0)])), (h, .inr (4, [.ref res, .ref t, .int (nI x74.1), .int (nI x74.2.1), .int (wI x74.2.2), .int 0, .int ma, .int ex, .ref ki])), (t, .inl (cB, 0, .inl (tx eU)))] H74 := hP
    have hD : va_D A [(res, .inr (3, [.ref k0, .ref k1, .ref k2, .ref q45, .ref k4, .ref k5, .ref k6, .ref k7, .int k8, .int k9, .int k10, .int k11, .int k12, .int k13, .int k14, .int k15, .int k16, .int k17, .int k18, .ref k19, .ref k20, .ref k21, .ref k22, .ref k23, .ref q64, .long k25, .long k26, .int k27])), (q13, .inr (0, [.ref t, .int (nI 0), .int (nI 0)])), (q45, .inr (0, [.ref t, .int (nI 0), .int (nI 0)])), (q64, .inr (0, [.ref t, .int (nI 0), .int (nI 0)])), (h, .inr (4, [.ref res, .ref t, .int (nI x74.1), .int (nI x74.2.1), .int (wI x74.2.2), .int 0, .int ma, .int ex, .ref ki])), (t, .inl (cB, 0, .inl (tx eU)))] := hD
    obtain ⟨rfl, rfl⟩ : x74 = ((0, 0, some 0) : rS) ∧ r74 = nI 0 := hw74
    have hP : va_P (dC, dI) classes [(res, .inr (3, [.ref k0, .ref k1, .ref k2, .ref q45, .ref k4, .ref k5, .ref k6, .ref k7, .int k8, .int k9, .int k10, .int k11, .int k12, .int k13, .int k14, .int k15, .int k16, .int k17, .int k18, .ref k19, .ref k20, .ref k21, .ref k22, .ref k23, .ref q64, .long k25, .long k26, .int k27])), (q13, .inr (0, [.ref t, .int (nI 0), .int (nI 0)])), (q45, .inr (0, [.ref t, .int (nI 0), .int (nI 0)])), (q64, .inr (0, [.ref t, .int (nI 0), .int (nI 0)])), (h, .inr (4, [.ref res, .ref t, .int (nI 0), .int (nI 0), .int (wI (some 0)), .int 0, .int ma, .int ex, .ref ki])), (t, .inl (cB, 0, .inl (tx eU)))] H74 := hP
    have hD : va_D A [(res, .inr (3, [.ref k0, .ref k1, .ref k2, .ref q45, .ref k4, .ref k5, .ref k6, .ref k7, .int k8, .int k9, .int k10, .int k11, .int k12, .int k13, .int k14, .int k15, .int k16, .int k17, .int k18, .ref k19, .ref k20, .ref k21, .ref k22, .ref k23, .ref q64, .long k25, .long k26, .int k27])), (q13, .inr (0, [.ref t, .int (nI 0), .int (nI 0)])), (q45, .inr (0, [.ref t, .int (nI 0), .int (nI 0)])), (q64, .inr (0, [.ref t, .int (nI 0), .int (nI 0)])), (h, .inr (4, [.ref res, .ref t, .int (nI 0), .int (nI 0), .int (wI (some 0)), .int 0, .int ma, .int ex, .ref ki])), (t, .inl (cB, 0, .inl (tx eU)))] := hD
    refine lv_istore_n (lv' := [(3, .int (nI 0)), (2, .int (nI 0)), (0, .ref h), (1, .int (nI 0))]) hx hb d_CertificateReader_readHead_77 rfl hl (by decide) rfl (fun ls hl => ?_)
    refine lv_aload_n hx hb d_CertificateReader_readHead_78 rfl (lv_at hl 2 rfl) ?_
    refine va_get (v := .ref res) hx hb htb i_CertificateReader hown hK hP 4 rfl rfl 0 (by decide) (htb _ q3_55) (fun _ h9 => h9) rfl d_CertificateReader_readHead_79 ?_
    refine lv_aload_n hx hb d_CertificateReader_readHead_82 rfl (lv_at hl 2 rfl) ?_
    refine lv_iload_n hx hb d_CertificateReader_readHead_83 rfl (lv_at hl 0 rfl) ?_
    have hFc := va_free (wc := [(h, .inr (4, [.ref res, .ref t, .int (nI 0), .int (nI 0), .int (wI (some 0)), .int 0, .int ma, .int ex, .ref ki])), (t, .inl (cB, 0, .inl (tx eU)))]) hD hS hA [4, 5] rfl
    refine va_calll (mu_runU (As := [.int (nI 0)]) (rest := [.ref res]) ⟨hx, hb, hml, hown, hts⟩ (cC_time l dC dI sb h res t ki 0 (0, 0, (some 0)) 0 ma ex 0 cB eU 0 H74.size eU_lt (by decide) ei_0 (Nat.le_refl 0)) (cu_of (n := 1) hts tbin q3_233 q3_234 q3_237 q3_236 q1_15 q3_238 rfl (by decide +kernel) ⟨rfl, rfl⟩ ⟨Nat.le_of_ble_eq_true rfl, Nat.le_of_ble_eq_true rfl⟩) rfl ⟨Nat.le_of_ble_eq_true rfl, Nat.le_of_ble_eq_true rfl⟩ hN (hT0.keep hS hAs) hAs (Nat.le_trans hB0 hS.1) hK hP hD [4, 5] (by decide) rfl [0] rfl 4 4 rfl rfl rfl hl.1 rfl (Nat.le_of_ble_eq_true rfl) d_CertificateReader_readHead_84) hS (fun q _ h => hFc q h) hFc (fun r84 u84 tS H84 locs ht hvm hw84 hB hz1 hk1 hS => ?_)
    obtain ⟨x84, rfl⟩ : ∃ z, z = u84 := ⟨_, rfl⟩
    obtain ⟨hP1, hK1, hD1⟩ := hB
    rw [ht] at hP1
    obtain ⟨hP, hD⟩ := va_join (wr := [(res, .inr (3, [.ref k0, .ref k1, .ref k2, .ref q45, .ref k4, .ref k5, .ref k6, .ref k7, .int k8, .int k9, .int k10, .int k11, .int k12, .int k13, .int k14, .int k15, .int k16, .int k17, .int k18, .ref k19, .ref k20, .ref k21, .ref k22, .ref k23, .ref q64, .long k25, .long k26, .int k27])), (q13, .inr (0, [.ref t, .int (nI 0), .int (nI 0)])), (q45, .inr (0, [.ref t, .int (nI 0), .int (nI 0)])), (q64, .inr (0, [.ref t, .int (nI 0), .int (nI 0)]))]) (w1 := [(h, .inr (4, [.ref res, .ref t, .int (nI x84.1), .int (nI x84.2.1), .int (wI x84.2.2), .int 0, .int ma, .int ex, .ref ki])), (t, .inl (cB, 0, .inl (tx eU)))]) hP hD [4, 5] [0, 1, 2, 3] rfl rfl (by decide) (by decide) hk1 hFc hP1 hD1
    have hP : va_P (dC, dI) classes [(res, .inr (3, [.ref k0, .ref k1, .ref k2, .ref q45, .ref k4, .ref k5, .ref k6, .ref k7, .int k8, .int k9, .int k10, .int k11, .int k12, .int k13, .int k14, .int k15, .int k16, .int k17, .int k18, .ref k19, .ref k20, .ref k21, .ref k22, .ref k23, .ref q64, .long k25, .long k26, .int k27])), (q13, .inr (0, [.ref t, .int (nI 0), .int (nI 0)])), (q45, .inr (0, [.ref t, .int (nI 0), .int (nI 0)])), (q64, .inr (0, [.ref t, .int (nI 0), .int (nI 0)])), (h, .inr (4, [.ref res, .ref t, .int (nI x84.1), .int (nI x84.2.1), .int (wI x84.2.2), .int 0, .int ma, .int ex, .ref ki])), (t, .inl (cB, 0, .inl (tx eU)))] H84 := hP
    have hD : va_D A [(res, .inr (3, [.ref k0, .ref k1, .ref k2, .ref q45, .ref k4, .ref k5, .ref k6, .ref k7, .int k8, .int k9, .int k10, .int k11, .int k12, .int k13, .int k14, .int k15, .int k16, .int k17, .int k18, .ref k19, .ref k20, .ref k21, .ref k22, .ref k23, .ref q64, .long k25, .long k26, .int k27])), (q13, .inr (0, [.ref t, .int (nI 0), .int (nI 0)])), (q45, .inr (0, [.ref t, .int (nI 0), .int (nI 0)])), (q64, .inr (0, [.ref t, .int (nI 0), .int (nI 0)])), (h, .inr (4, [.ref res, .ref t, .int (nI x84.1), .int (nI x84.2.1), .int (wI x84.2.2), .int 0, .int ma, .int ex, .ref ki])), (t, .inl (cB, 0, .inl (tx eU)))] := hD
    obtain rfl : x84 = ((0, 0, some 0) : rS) := hw84.1
    have hP : va_P (dC, dI) classes [(res, .inr (3, [.ref k0, .ref k1, .ref k2, .ref q45, .ref k4, .ref k5, .ref k6, .ref k7, .int k8, .int k9, .int k10, .int k11, .int k12, .int k13, .int k14, .int k15, .int k16, .int k17, .int k18, .ref k19, .ref k20, .ref k21, .ref k22, .ref k23, .ref q64, .long k25, .long k26, .int k27])), (q13, .inr (0, [.ref t, .int (nI 0), .int (nI 0)])), (q45, .inr (0, [.ref t, .int (nI 0), .int (nI 0)])), (q64, .inr (0, [.ref t, .int (nI 0), .int (nI 0)])), (h, .inr (4, [.ref res, .ref t, .int (nI 0), .int (nI 0), .int (wI (some 0)), .int 0, .int ma, .int ex, .ref ki])), (t, .inl (cB, 0, .inl (tx eU)))] H84 := hP
    have hD : va_D A [(res, .inr (3, [.ref k0, .ref k1, .ref k2, .ref q45, .ref k4, .ref k5, .ref k6, .ref k7, .int k8, .int k9, .int k10, .int k11, .int k12, .int k13, .int k14, .int k15, .int k16, .int k17, .int k18, .ref k19, .ref k20, .ref k21, .ref k22, .ref k23, .ref q64, .long k25, .long k26, .int k27])), (q13, .inr (0, [.ref t, .int (nI 0), .int (nI 0)])), (q45, .inr (0, [.ref t, .int (nI 0), .int (nI 0)])), (q64, .inr (0, [.ref t, .int (nI 0), .int (nI 0)])), (h, .inr (4, [.ref res, .ref t, .int (nI 0), .int (nI 0), .int (wI (some 0)), .int 0, .int ma, .int ex, .ref ki])), (t, .inl (cB, 0, .inl (tx eU)))] := hD
    refine va_put (v := .long r84) (ty := .long) hx hb htb i_Certificate t_Certificate t_Certificate_ok n_Certificate hown hK hP hD hS 0 rfl rfl 25 (by decide) (htb _ q2_220) (fun x9 h9 => u_same (htb _ q2_221) x9 h9) rfl (by decide +kernel) rfl rfl (Nat.le_of_ble_eq_true rfl) d_CertificateReader_readHead_87 (fun H87 locs hP hD hS => ?_)
    have hP : va_P (dC, dI) classes [(res, .inr (3, [.ref k0, .ref k1, .ref k2, .ref q45, .ref k4, .ref k5, .ref k6, .ref k7, .int k8, .int k9, .int k10, .int k11, .int k12, .int k13, .int k14, .int k15, .int k16, .int k17, .int k18, .ref k19, .ref k20, .ref k21, .ref k22, .ref k23, .ref q64, .long r84, .long k26, .int k27])), (q13, .inr (0, [.ref t, .int (nI 0), .int (nI 0)])), (q45, .inr (0, [.ref t, .int (nI 0), .int (nI 0)])), (q64, .inr (0, [.ref t, .int (nI 0), .int (nI 0)])), (h, .inr (4, [.ref res, .ref t, .int (nI 0), .int (nI 0), .int (wI (some 0)), .int 0, .int ma, .int ex, .ref ki])), (t, .inl (cB, 0, .inl (tx eU)))] H87 := hP
    have hD : va_D A [(res, .inr (3, [.ref k0, .ref k1, .ref k2, .ref q45, .ref k4, .ref k5, .ref k6, .ref k7, .int k8, .int k9, .int k10, .int k11, .int k12, .int k13, .int k14, .int k15, .int k16, .int k17, .int k18, .ref k19, .ref k20, .ref k21, .ref k22, .ref k23, .ref q64, .long r84, .long k26, .int k27])), (q13, .inr (0, [.ref t, .int (nI 0), .int (nI 0)])), (q45, .inr (0, [.ref t, .int (nI 0), .int (nI 0)])), (q64, .inr (0, [.ref t, .int (nI 0), .int (nI 0)])), (h, .inr (4, [.ref res, .ref t, .int (nI 0), .int (nI 0), .int (wI (some 0)), .int 0, .int ma, .int ex, .ref ki])), (t, .inl (cB, 0, .inl (tx eU)))] := hD
    refine lv_aload_n hx hb d_CertificateReader_readHead_90 rfl (lv_at hl 2 rfl) ?_
    refine va_get (v := .ref res) hx hb htb i_CertificateReader hown hK hP 4 rfl rfl 0 (by decide) (htb _ q3_55) (fun _ h9 => h9) rfl d_CertificateReader_readHead_91 ?_
    refine lv_aload_n hx hb d_CertificateReader_readHead_94 rfl (lv_at hl 2 rfl) ?_
    refine lv_iload_n hx hb d_CertificateReader_readHead_95 rfl (lv_at hl 0 rfl) ?_
    have hFc := va_free (wc := [(h, .inr (4, [.ref res, .ref t, .int (nI 0), .int (nI 0), .int (wI (some 0)), .int 0, .int ma, .int ex, .ref ki])), (t, .inl (cB, 0, .inl (tx eU)))]) hD hS hA [4, 5] rfl
    refine va_calll (mu_runU (As := [.int (nI 0)]) (rest := [.ref res]) ⟨hx, hb, hml, hown, hts⟩ (cC_time l dC dI sb h res t ki 0 (0, 0, (some 0)) 0 ma ex 0 cB eU 0 H87.size eU_lt (by decide) ei_0 (Nat.le_refl 0)) (cu_of (n := 1) hts tbin q3_233 q3_234 q3_237 q3_236 q1_15 q3_238 rfl (by decide +kernel) ⟨rfl, rfl⟩ ⟨Nat.le_of_ble_eq_true rfl, Nat.le_of_ble_eq_true rfl⟩) rfl ⟨Nat.le_of_ble_eq_true rfl, Nat.le_of_ble_eq_true rfl⟩ hN (hT0.keep hS hAs) hAs (Nat.le_trans hB0 hS.1) hK hP hD [4, 5] (by decide) rfl [0] rfl 4 4 rfl rfl rfl hl.1 rfl (Nat.le_of_ble_eq_true rfl) d_CertificateReader_readHead_96) hS (fun q _ h => hFc q h) hFc (fun r96 u96 tS H96 locs ht hvm hw96 hB hz1 hk1 hS => ?_)
    obtain ⟨x96, rfl⟩ : ∃ z, z = u96 := ⟨_, rfl⟩
    obtain ⟨hP1, hK1, hD1⟩ := hB
    rw [ht] at hP1
    obtain ⟨hP, hD⟩ := va_join (wr := [(res, .inr (3, [.ref k0, .ref k1, .ref k2, .ref q45, .ref k4, .ref k5, .ref k6, .ref k7, .int k8, .int k9, .int k10, .int k11, .int k12, .int k13, .int k14, .int k15, .int k16, .int k17, .int k18, .ref k19, .ref k20, .ref k21, .ref k22, .ref k23, .ref q64, .long r84, .long k26, .int k27])), (q13, .inr (0, [.ref t, .int (nI 0), .int (nI 0)])), (q45, .inr (0, [.ref t, .int (nI 0), .int (nI 0)])), (q64, .inr (0, [.ref t, .int (nI 0), .int (nI 0)]))]) (w1 := [(h, .inr (4, [.ref res, .ref t, .int (nI x96.1), .int (nI x96.2.1), .int (wI x96.2.2), .int 0, .int ma, .int ex, .ref ki])), (t, .inl (cB, 0, .inl (tx eU)))]) hP hD [4, 5] [0, 1, 2, 3] rfl rfl (by decide) (by decide) hk1 hFc hP1 hD1
    have hP : va_P (dC, dI) classes [(res, .inr (3, [.ref k0, .ref k1, .ref k2, .ref q45, .ref k4, .ref k5, .ref k6, .ref k7, .int k8, .int k9, .int k10, .int k11, .int k12, .int k13, .int k14, .int k15, .int k16, .int k17, .int k18, .ref k19, .ref k20, .ref k21, .ref k22, .ref k23, .ref q64, .long r84, .long k26, .int k27])), (q13, .inr (0, [.ref t, .int (nI 0), .int (nI 0)])), (q45, .inr (0, [.ref t, .int (nI 0), .int (nI 0)])), (q64, .inr (0, [.ref t, .int (nI 0), .int (nI 0)])), (h, .inr (4, [.ref res, .ref t, .int (nI x96.1), .int (nI x96.2.1), .int (wI x96.2.2), .int 0, .int ma, .int ex, .ref ki])), (t, .inl (cB, 0, .inl (tx eU)))] H96 := hP
    have hD : va_D A [(res, .inr (3, [.ref k0, .ref k1, .ref k2, .ref q45, .ref k4, .ref k5, .ref k6, .ref k7, .int k8, .int k9, .int k10, .int k11, .int k12, .int k13, .int k14, .int k15, .int k16, .int k17, .int k18, .ref k19, .ref k20, .ref k21, .ref k22, .ref k23, .ref q64, .long r84, .long k26, .int k27])), (q13, .inr (0, [.ref t, .int (nI 0), .int (nI 0)])), (q45, .inr (0, [.ref t, .int (nI 0), .int (nI 0)])), (q64, .inr (0, [.ref t, .int (nI 0), .int (nI 0)])), (h, .inr (4, [.ref res, .ref t, .int (nI x96.1), .int (nI x96.2.1), .int (wI x96.2.2), .int 0, .int ma, .int ex, .ref ki])), (t, .inl (cB, 0, .inl (tx eU)))] := hD
    obtain rfl : x96 = ((0, 0, some 0) : rS) := hw96.1
    have hP : va_P (dC, dI) classes [(res, .inr (3, [.ref k0, .ref k1, .ref k2, .ref q45, .ref k4, .ref k5, .ref k6, .ref k7, .int k8, .int k9, .int k10, .int k11, .int k12, .int k13, .int k14, .int k15, .int k16, .int k17, .int k18, .ref k19, .ref k20, .ref k21, .ref k22, .ref k23, .ref q64, .long r84, .long k26, .int k27])), (q13, .inr (0, [.ref t, .int (nI 0), .int (nI 0)])), (q45, .inr (0, [.ref t, .int (nI 0), .int (nI 0)])), (q64, .inr (0, [.ref t, .int (nI 0), .int (nI 0)])), (h, .inr (4, [.ref res, .ref t, .int (nI 0), .int (nI 0), .int (wI (some 0)), .int 0, .int ma, .int ex, .ref ki])), (t, .inl (cB, 0, .inl (tx eU)))] H96 := hP
    have hD : va_D A [(res, .inr (3, [.ref k0, .ref k1, .ref k2, .ref q45, .ref k4, .ref k5, .ref k6, .ref k7, .int k8, .int k9, .int k10, .int k11, .int k12, .int k13, .int k14, .int k15, .int k16, .int k17, .int k18, .ref k19, .ref k20, .ref k21, .ref k22, .ref k23, .ref q64, .long r84, .long k26, .int k27])), (q13, .inr (0, [.ref t, .int (nI 0), .int (nI 0)])), (q45, .inr (0, [.ref t, .int (nI 0), .int (nI 0)])), (q64, .inr (0, [.ref t, .int (nI 0), .int (nI 0)])), (h, .inr (4, [.ref res, .ref t, .int (nI 0), .int (nI 0), .int (wI (some 0)), .int 0, .int ma, .int ex, .ref ki])), (t, .inl (cB, 0, .inl (tx eU)))] := hD
    refine va_put (v := .long r96) (ty := .long) hx hb htb i_Certificate t_Certificate t_Certificate_ok n_Certificate hown hK hP hD hS 0 rfl rfl 26 (by decide) (htb _ q2_226) (fun x9 h9 => u_same (htb _ q2_227) x9 h9) rfl (by decide +kernel) rfl rfl (Nat.le_of_ble_eq_true rfl) d_CertificateReader_readHead_99 (fun H99 locs hP hD hS => ?_)
    have hP : va_P (dC, dI) classes [(res, .inr (3, [.ref k0, .ref k1, .ref k2, .ref q45, .ref k4, .ref k5, .ref k6, .ref k7, .int k8, .int k9, .int k10, .int k11, .int k12, .int k13, .int k14, .int k15, .int k16, .int k17, .int k18, .ref k19, .ref k20, .ref k21, .ref k22, .ref k23, .ref q64, .long r84, .long r96, .int k27])), (q13, .inr (0, [.ref t, .int (nI 0), .int (nI 0)])), (q45, .inr (0, [.ref t, .int (nI 0), .int (nI 0)])), (q64, .inr (0, [.ref t, .int (nI 0), .int (nI 0)])), (h, .inr (4, [.ref res, .ref t, .int (nI 0), .int (nI 0), .int (wI (some 0)), .int 0, .int ma, .int ex, .ref ki])), (t, .inl (cB, 0, .inl (tx eU)))] H99 := hP
    have hD : va_D A [(res, .inr (3, [.ref k0, .ref k1, .ref k2, .ref q45, .ref k4, .ref k5, .ref k6, .ref k7, .int k8, .int k9, .int k10, .int k11, .int k12, .int k13, .int k14, .int k15, .int k16, .int k17, .int k18, .ref k19, .ref k20, .ref k21, .ref k22, .ref k23, .ref q64, .long r84, .long r96, .int k27])), (q13, .inr (0, [.ref t, .int (nI 0), .int (nI 0)])), (q45, .inr (0, [.ref t, .int (nI 0), .int (nI 0)])), (q64, .inr (0, [.ref t, .int (nI 0), .int (nI 0)])), (h, .inr (4, [.ref res, .ref t, .int (nI 0), .int (nI 0), .int (wI (some 0)), .int 0, .int ma, .int ex, .ref ki])), (t, .inl (cB, 0, .inl (tx eU)))] := hD
    refine lv_aload_n hx hb d_CertificateReader_readHead_102 rfl (lv_at hl 2 rfl) ?_
    refine lv_iload_n hx hb d_CertificateReader_readHead_103 rfl (lv_at hl 0 rfl) ?_
    have hFc := va_free (wc := [(h, .inr (4, [.ref res, .ref t, .int (nI 0), .int (nI 0), .int (wI (some 0)), .int 0, .int ma, .int ex, .ref ki]))]) hD hS hA [4] rfl
    refine va_callv (mu_runU (As := [.int (nI 0)]) (rest := []) ⟨hx, hb, hml, hown, hts⟩ (cC_finish l dC dI sb h res t ki 0 0 0 (some 0) 0 ma ex 0 cB eU 0 H99.size ew_0 (by decide) (by decide)) (cu_of (n := 1) hts tbin q3_159 q3_160 q3_163 q3_162 q1_15 q3_164 rfl (by decide +kernel) ⟨rfl, rfl⟩ ⟨Nat.le_of_ble_eq_true rfl, Nat.le_of_ble_eq_true rfl⟩) rfl ⟨Nat.le_of_ble_eq_true rfl, Nat.le_of_ble_eq_true rfl⟩ hN (hT0.keep hS hAs) hAs (Nat.le_trans hB0 hS.1) hK hP hD [4] (by decide) rfl [] rfl 4 4 rfl rfl rfl hl.1 rfl (Nat.le_of_ble_eq_true rfl) d_CertificateReader_readHead_104) hS (fun q _ h => hFc q h) hFc (fun u104 tS H104 locs ht hvm hw104 hB hz1 hk1 hS => ?_)
    obtain ⟨x104, rfl⟩ : ∃ z, z = u104 := ⟨_, rfl⟩
    obtain ⟨hP1, hK1, hD1⟩ := hB
    rw [ht] at hP1
    obtain ⟨hP, hD⟩ := va_join (wr := [(res, .inr (3, [.ref k0, .ref k1, .ref k2, .ref q45, .ref k4, .ref k5, .ref k6, .ref k7, .int k8, .int k9, .int k10, .int k11, .int k12, .int k13, .int k14, .int k15, .int k16, .int k17, .int k18, .ref k19, .ref k20, .ref k21, .ref k22, .ref k23, .ref q64, .long r84, .long r96, .int k27])), (q13, .inr (0, [.ref t, .int (nI 0), .int (nI 0)])), (q45, .inr (0, [.ref t, .int (nI 0), .int (nI 0)])), (q64, .inr (0, [.ref t, .int (nI 0), .int (nI 0)])), (t, .inl (cB, 0, .inl (tx eU)))]) (w1 := [(h, .inr (4, [.ref res, .ref t, .int (nI x104.1), .int (nI x104.2.1), .int (wI x104.2.2), .int 0, .int ma, .int ex, .ref ki]))]) hP hD [4] [0, 1, 2, 3, 5] rfl rfl (by decide) (by decide) hk1 hFc hP1 hD1
    have hP : va_P (dC, dI) classes [(res, .inr (3, [.ref k0, .ref k1, .ref k2, .ref q45, .ref k4, .ref k5, .ref k6, .ref k7, .int k8, .int k9, .int k10, .int k11, .int k12, .int k13, .int k14, .int k15, .int k16, .int k17, .int k18, .ref k19, .ref k20, .ref k21, .ref k22, .ref k23, .ref q64, .long r84, .long r96, .int k27])), (q13, .inr (0, [.ref t, .int (nI 0), .int (nI 0)])), (q45, .inr (0, [.ref t, .int (nI 0), .int (nI 0)])), (q64, .inr (0, [.ref t, .int (nI 0), .int (nI 0)])), (t, .inl (cB, 0, .inl (tx eU))), (h, .inr (4, [.ref res, .ref t, .int (nI x104.1), .int (nI x104.2.1), .int (wI x104.2.2), .int 0, .int ma, .int ex, .ref ki]))] H104 := hP
    have hD : va_D A [(res, .inr (3, [.ref k0, .ref k1, .ref k2, .ref q45, .ref k4, .ref k5, .ref k6, .ref k7, .int k8, .int k9, .int k10, .int k11, .int k12, .int k13, .int k14, .int k15, .int k16, .int k17, .int k18, .ref k19, .ref k20, .ref k21, .ref k22, .ref k23, .ref q64, .long r84, .long r96, .int k27])), (q13, .inr (0, [.ref t, .int (nI 0), .int (nI 0)])), (q45, .inr (0, [.ref t, .int (nI 0), .int (nI 0)])), (q64, .inr (0, [.ref t, .int (nI 0), .int (nI 0)])), (t, .inl (cB, 0, .inl (tx eU))), (h, .inr (4, [.ref res, .ref t, .int (nI x104.1), .int (nI x104.2.1), .int (wI x104.2.2), .int 0, .int ma, .int ex, .ref ki]))] := hD
    obtain rfl : x104 = ((0, 0, some 0) : rS) := hw104
    have hP : va_P (dC, dI) classes [(res, .inr (3, [.ref k0, .ref k1, .ref k2, .ref q45, .ref k4, .ref k5, .ref k6, .ref k7, .int k8, .int k9, .int k10, .int k11, .int k12, .int k13, .int k14, .int k15, .int k16, .int k17, .int k18, .ref k19, .ref k20, .ref k21, .ref k22, .ref k23, .ref q64, .long r84, .long r96, .int k27])), (q13, .inr (0, [.ref t, .int (nI 0), .int (nI 0)])), (q45, .inr (0, [.ref t, .int (nI 0), .int (nI 0)])), (q64, .inr (0, [.ref t, .int (nI 0), .int (nI 0)])), (t, .inl (cB, 0, .inl (tx eU))), (h, .inr (4, [.ref res, .ref t, .int (nI 0), .int (nI 0), .int (wI (some 0)), .int 0, .int ma, .int ex, .ref ki]))] H104 := hP
    have hD : va_D A [(res, .inr (3, [.ref k0, .ref k1, .ref k2, .ref q45, .ref k4, .ref k5, .ref k6, .ref k7, .int k8, .int k9, .int k10, .int k11, .int k12, .int k13, .int k14, .int k15, .int k16, .int k17, .int k18, .ref k19, .ref k20, .ref k21, .ref k22, .ref k23, .ref q64, .long r84, .long r96, .int k27])), (q13, .inr (0, [.ref t, .int (nI 0), .int (nI 0)])), (q45, .inr (0, [.ref t, .int (nI 0), .int (nI 0)])), (q64, .inr (0, [.ref t, .int (nI 0), .int (nI 0)])), (t, .inl (cB, 0, .inl (tx eU))), (h, .inr (4, [.ref res, .ref t, .int (nI 0), .int (nI 0), .int (wI (some 0)), .int 0, .int ma, .int ex, .ref ki]))] := hD
    refine lv_aload_n hx hb d_CertificateReader_readHead_107 rfl (lv_at hl 2 rfl) ?_
    refine va_get (v := .ref res) hx hb htb i_CertificateReader hown hK hP 5 rfl rfl 0 (by decide) (htb _ q3_55) (fun _ h9 => h9) rfl d_CertificateReader_readHead_108 ?_
    refine lv_aload_n hx hb d_CertificateReader_readHead_111 rfl (lv_at hl 2 rfl) ?_
    refine lv_iload_n hx hb d_CertificateReader_readHead_112 rfl (lv_at hl 3 rfl) ?_
    have hFc := va_free (wc := [(h, .inr (4, [.ref res, .ref t, .int (nI 0), .int (nI 0), .int (wI (some 0)), .int 0, .int ma, .int ex, .ref ki])), (t, .inl (cB, 0, .inl (tx eU)))]) hD hS hA [5, 4] rfl
    refine va_callr (mu_runU (As := [.int (nI 0)]) (rest := [.ref res]) ⟨hx, hb, hml, hown, hts⟩ (eC_name l dC dI sb h res t ki 0 ma ex cB H104.size) (cu_of (n := 1) hts tbin q4_22 q4_23 q3_191 q4_25 q1_15 q3_195 rfl (by decide +kernel) ⟨rfl, rfl⟩ ⟨Nat.le_of_ble_eq_true rfl, Nat.le_of_ble_eq_true rfl⟩) rfl ⟨Nat.le_of_ble_eq_true rfl, Nat.le_of_ble_eq_true rfl⟩ hN (hT0.keep hS hAs) hAs (Nat.le_trans hB0 hS.1) hK hP hD [5, 4] (by decide) rfl [0] rfl 5 4 rfl rfl rfl hl.1 rfl (Nat.le_of_ble_eq_true rfl) d_CertificateReader_readHead_113) hS (fun q _ h => hFc q h) hFc (fun u113 q113 tS H113 locs ht hvm hw113 hB hz1 hk1 hS => ?_)
    skip
    obtain ⟨hP1, hK1, hD1⟩ := hB
    rw [ht] at hP1
    obtain ⟨hP, hD⟩ := va_join (wr := [(res, .inr (3, [.ref k0, .ref k1, .ref k2, .ref q45, .ref k4, .ref k5, .ref k6, .ref k7, .int k8, .int k9, .int k10, .int k11, .int k12, .int k13, .int k14, .int k15, .int k16, .int k17, .int k18, .ref k19, .ref k20, .ref k21, .ref k22, .ref k23, .ref q64, .long r84, .long r96, .int k27])), (q13, .inr (0, [.ref t, .int (nI 0), .int (nI 0)])), (q45, .inr (0, [.ref t, .int (nI 0), .int (nI 0)])), (q64, .inr (0, [.ref t, .int (nI 0), .int (nI 0)]))]) (w1 := [(h, .inr (4, [.ref res, .ref t, .int (nI 0), .int (nI 0), .int (wI (some 0)), .int 0, .int ma, .int ex, .ref ki])), (t, .inl (cB, 0, .inl (tx eU))), (q113, .inr (0, [.ref t, .int (nI 0), .int (nI 0)]))]) hP hD [5, 4] [0, 1, 2, 3] rfl rfl (by decide) (by decide) hk1 hFc hP1 hD1
    have hP : va_P (dC, dI) classes [(res, .inr (3, [.ref k0, .ref k1, .ref k2, .ref q45, .ref k4, .ref k5, .ref k6, .ref k7, .int k8, .int k9, .int k10, .int k11, .int k12, .int k13, .int k14, .int k15, .int k16, .int k17, .int k18, .ref k19, .ref k20, .ref k21, .ref k22, .ref k23, .ref q64, .long r84, .long r96, .int k27])), (q13, .inr (0, [.ref t, .int (nI 0), .int (nI 0)])), (q45, .inr (0, [.ref t, .int (nI 0), .int (nI 0)])), (q64, .inr (0, [.ref t, .int (nI 0), .int (nI 0)])), (h, .inr (4, [.ref res, .ref t, .int (nI 0), .int (nI 0), .int (wI (some 0)), .int 0, .int ma, .int ex, .ref ki])), (t, .inl (cB, 0, .inl (tx eU))), (q113, .inr (0, [.ref t, .int (nI 0), .int (nI 0)]))] H113 := hP
    have hD : va_D A [(res, .inr (3, [.ref k0, .ref k1, .ref k2, .ref q45, .ref k4, .ref k5, .ref k6, .ref k7, .int k8, .int k9, .int k10, .int k11, .int k12, .int k13, .int k14, .int k15, .int k16, .int k17, .int k18, .ref k19, .ref k20, .ref k21, .ref k22, .ref k23, .ref q64, .long r84, .long r96, .int k27])), (q13, .inr (0, [.ref t, .int (nI 0), .int (nI 0)])), (q45, .inr (0, [.ref t, .int (nI 0), .int (nI 0)])), (q64, .inr (0, [.ref t, .int (nI 0), .int (nI 0)])), (h, .inr (4, [.ref res, .ref t, .int (nI 0), .int (nI 0), .int (wI (some 0)), .int 0, .int ma, .int ex, .ref ki])), (t, .inl (cB, 0, .inl (tx eU))), (q113, .inr (0, [.ref t, .int (nI 0), .int (nI 0)]))] := hD
    refine va_put (v := .ref q113) (ty := (.object "TrustChain$Slice")) hx hb htb i_Certificate t_Certificate t_Certificate_ok n_Certificate hown hK hP hD hS 0 rfl rfl 4 (by decide) (htb _ q2_151) (fun _ h9 => h9) rfl (by decide +kernel) rfl rfl (Nat.le_of_ble_eq_true rfl) d_CertificateReader_readHead_116 (fun H116 locs hP hD hS => ?_)
    have hP : va_P (dC, dI) classes [(res, .inr (3, [.ref k0, .ref k1, .ref k2, .ref q45, .ref q113, .ref k5, .ref k6, .ref k7, .int k8, .int k9, .int k10, .int k11, .int k12, .int k13, .int k14, .int k15, .int k16, .int k17, .int k18, .ref k19, .ref k20, .ref k21, .ref k22, .ref k23, .ref q64, .long r84, .long r96, .int k27])), (q13, .inr (0, [.ref t, .int (nI 0), .int (nI 0)])), (q45, .inr (0, [.ref t, .int (nI 0), .int (nI 0)])), (q64, .inr (0, [.ref t, .int (nI 0), .int (nI 0)])), (h, .inr (4, [.ref res, .ref t, .int (nI 0), .int (nI 0), .int (wI (some 0)), .int 0, .int ma, .int ex, .ref ki])), (t, .inl (cB, 0, .inl (tx eU))), (q113, .inr (0, [.ref t, .int (nI 0), .int (nI 0)]))] H116 := hP
    have hD : va_D A [(res, .inr (3, [.ref k0, .ref k1, .ref k2, .ref q45, .ref q113, .ref k5, .ref k6, .ref k7, .int k8, .int k9, .int k10, .int k11, .int k12, .int k13, .int k14, .int k15, .int k16, .int k17, .int k18, .ref k19, .ref k20, .ref k21, .ref k22, .ref k23, .ref q64, .long r84, .long r96, .int k27])), (q13, .inr (0, [.ref t, .int (nI 0), .int (nI 0)])), (q45, .inr (0, [.ref t, .int (nI 0), .int (nI 0)])), (q64, .inr (0, [.ref t, .int (nI 0), .int (nI 0)])), (h, .inr (4, [.ref res, .ref t, .int (nI 0), .int (nI 0), .int (wI (some 0)), .int 0, .int ma, .int ex, .ref ki])), (t, .inl (cB, 0, .inl (tx eU))), (q113, .inr (0, [.ref t, .int (nI 0), .int (nI 0)]))] := hD
    refine lv_aload_n hx hb d_CertificateReader_readHead_119 rfl (lv_at hl 2 rfl) ?_
    refine va_get (v := .ref res) hx hb htb i_CertificateReader hown hK hP 4 rfl rfl 0 (by decide) (htb _ q3_55) (fun _ h9 => h9) rfl d_CertificateReader_readHead_120 ?_
    refine lv_aload_n hx hb d_CertificateReader_readHead_123 rfl (lv_at hl 2 rfl) ?_
    refine va_get (v := .int 0) hx hb htb i_CertificateReader hown hK hP 4 rfl rfl 5 (by decide) (htb _ q3_74) (fun x9 h9 => u_same (htb _ q3_75) x9 h9) rfl d_CertificateReader_readHead_124 ?_
    refine va_put (v := .int 0) (ty := .int) hx hb htb i_Certificate t_Certificate t_Certificate_ok n_Certificate hown hK hP hD hS 0 rfl rfl 8 (by decide) (htb _ q2_161) (fun _ h9 => h9) rfl (by decide +kernel) rfl rfl (Nat.le_of_ble_eq_true rfl) d_CertificateReader_readHead_127 (fun H127 locs hP hD hS => ?_)
    have hP : va_P (dC, dI) classes [(res, .inr (3, [.ref k0, .ref k1, .ref k2, .ref q45, .ref q113, .ref k5, .ref k6, .ref k7, .int 0, .int k9, .int k10, .int k11, .int k12, .int k13, .int k14, .int k15, .int k16, .int k17, .int k18, .ref k19, .ref k20, .ref k21, .ref k22, .ref k23, .ref q64, .long r84, .long r96, .int k27])), (q13, .inr (0, [.ref t, .int (nI 0), .int (nI 0)])), (q45, .inr (0, [.ref t, .int (nI 0), .int (nI 0)])), (q64, .inr (0, [.ref t, .int (nI 0), .int (nI 0)])), (h, .inr (4, [.ref res, .ref t, .int (nI 0), .int (nI 0), .int (wI (some 0)), .int 0, .int ma, .int ex, .ref ki])), (t, .inl (cB, 0, .inl (tx eU))), (q113, .inr (0, [.ref t, .int (nI 0), .int (nI 0)]))] H127 := hP
    have hD : va_D A [(res, .inr (3, [.ref k0, .ref k1, .ref k2, .ref q45, .ref q113, .ref k5, .ref k6, .ref k7, .int 0, .int k9, .int k10, .int k11, .int k12, .int k13, .int k14, .int k15, .int k16, .int k17, .int k18, .ref k19, .ref k20, .ref k21, .ref k22, .ref k23, .ref q64, .long r84, .long r96, .int k27])), (q13, .inr (0, [.ref t, .int (nI 0), .int (nI 0)])), (q45, .inr (0, [.ref t, .int (nI 0), .int (nI 0)])), (q64, .inr (0, [.ref t, .int (nI 0), .int (nI 0)])), (h, .inr (4, [.ref res, .ref t, .int (nI 0), .int (nI 0), .int (wI (some 0)), .int 0, .int ma, .int ex, .ref ki])), (t, .inl (cB, 0, .inl (tx eU))), (q113, .inr (0, [.ref t, .int (nI 0), .int (nI 0)]))] := hD
    refine lv_aload_n hx hb d_CertificateReader_readHead_130 rfl (lv_at hl 2 rfl) ?_
    refine va_get (v := .ref res) hx hb htb i_CertificateReader hown hK hP 4 rfl rfl 0 (by decide) (htb _ q3_55) (fun _ h9 => h9) rfl d_CertificateReader_readHead_131 ?_
    refine lv_aload_n hx hb d_CertificateReader_readHead_134 rfl (lv_at hl 2 rfl) ?_
    refine va_get (v := .ref res) hx hb htb i_CertificateReader hown hK hP 4 rfl rfl 0 (by decide) (htb _ q3_55) (fun _ h9 => h9) rfl d_CertificateReader_readHead_135 ?_
    refine va_get (v := .ref q113) hx hb htb i_Certificate hown hK hP 0 rfl rfl 4 (by decide) (htb _ q2_151) (fun _ h9 => h9) rfl d_CertificateReader_readHead_138 ?_
    refine lv_aload_n hx hb d_CertificateReader_readHead_141 rfl (lv_at hl 2 rfl) ?_
    refine va_get (v := .ref res) hx hb htb i_CertificateReader hown hK hP 4 rfl rfl 0 (by decide) (htb _ q3_55) (fun _ h9 => h9) rfl d_CertificateReader_readHead_142 ?_
    refine va_get (v := .ref q64) hx hb htb i_Certificate hown hK hP 0 rfl rfl 24 (by decide) (htb _ q2_215) (fun x9 h9 => u_same (htb _ q2_213) x9 h9) rfl d_CertificateReader_readHead_145 ?_
    refine vp_callSi (pu_callV (As := [.ref q64]) (rest := [.ref res]) ⟨hx, hb, hml, hown, hts⟩ tbin (c_Slice_same l dC dI sb q113 q64 t t 0 0 0 0 0 0 cB cB eU eU eU_lt (Nat.le_refl 0) (Nat.le_refl 0) (by decide) eU_lt (Nat.le_refl 0) (Nat.le_refl 0) (by decide)) q4_26 q4_27 q4_28 q1_22 q4_29 (n := 1) (by decide +kernel) rfl ⟨rfl, rfl⟩ ⟨Nat.le_of_ble_eq_true rfl, Nat.le_of_ble_eq_true rfl⟩ ⟨Nat.le_of_ble_eq_true rfl, Nat.le_of_ble_eq_true rfl⟩ hN (hT0.keep hS hAs) hK hP [6, 5, 3, 5] rfl [0, 0] rfl 6 0 rfl rfl rfl hl.1 rfl (Nat.le_of_ble_eq_true rfl) d_CertificateReader_readHead_148) (fun r148 hr148 => ?_)
    refine va_put (v := .int r148) (ty := .boolean) hx hb htb i_Certificate t_Certificate t_Certificate_ok n_Certificate hown hK hP hD hS 0 rfl rfl 15 (by decide) (htb _ q2_180) (fun _ h9 => h9) rfl (by decide +kernel) (bz_n hr148) (bz_fit hr148) (Nat.le_of_ble_eq_true rfl) d_CertificateReader_readHead_151 (fun H151 locs hP hD hS => ?_)
    have hP : va_P (dC, dI) classes [(res, .inr (3, [.ref k0, .ref k1, .ref k2, .ref q45, .ref q113, .ref k5, .ref k6, .ref k7, .int 0, .int k9, .int k10, .int k11, .int k12, .int k13, .int k14, .int r148, .int k16, .int k17, .int k18, .ref k19, .ref k20, .ref k21, .ref k22, .ref k23, .ref q64, .long r84, .long r96, .int k27])), (q13, .inr (0, [.ref t, .int (nI 0), .int (nI 0)])), (q45, .inr (0, [.ref t, .int (nI 0), .int (nI 0)])), (q64, .inr (0, [.ref t, .int (nI 0), .int (nI 0)])), (h, .inr (4, [.ref res, .ref t, .int (nI 0), .int (nI 0), .int (wI (some 0)), .int 0, .int ma, .int ex, .ref ki])), (t, .inl (cB, 0, .inl (tx eU))), (q113, .inr (0, [.ref t, .int (nI 0), .int (nI 0)]))] H151 := hP
    have hD : va_D A [(res, .inr (3, [.ref k0, .ref k1, .ref k2, .ref q45, .ref q113, .ref k5, .ref k6, .ref k7, .int 0, .int k9, .int k10, .int k11, .int k12, .int k13, .int k14, .int r148, .int k16, .int k17, .int k18, .ref k19, .ref k20, .ref k21, .ref k22, .ref k23, .ref q64, .long r84, .long r96, .int k27])), (q13, .inr (0, [.ref t, .int (nI 0), .int (nI 0)])), (q45, .inr (0, [.ref t, .int (nI 0), .int (nI 0)])), (q64, .inr (0, [.ref t, .int (nI 0), .int (nI 0)])), (h, .inr (4, [.ref res, .ref t, .int (nI 0), .int (nI 0), .int (wI (some 0)), .int 0, .int ma, .int ex, .ref ki])), (t, .inl (cB, 0, .inl (tx eU))), (q113, .inr (0, [.ref t, .int (nI 0), .int (nI 0)]))] := hD
    exact W.vret hx hb hr (fun t ht hW => ⟨⟨(q45, q113, r148, q64, r84, r96), rfl, trivial, by rw [ht]; exact hP.sub [4, 5, 0] rfl, va_K.moved hW.alike hK, hD.sub [4, 5, 0] (by decide) rfl⟩, hS.F ht⟩) hS.2.2 d_CertificateReader_readHead_154
  · skip
    refine lv_if_ne (tgt := 30) hx hb d_CertificateReader_readHead_23 (by decide) (fun c23 => ?_) (fun c23 => ?_)
    · refine lv_iconst (v := 0) hx hb d_CertificateReader_readHead_30 (by decide) ?_
      exact k31 _ (bz_f (by decide))
    · refine lv_iconst (v := 1) hx hb d_CertificateReader_readHead_26 (by decide) ?_
      refine lv_goto (tgt := 31) hx hb d_CertificateReader_readHead_27 (by decide) ?_
      exact k31 _ (bz_t rfl)
def y_CertificateReader_readCertificate : MethodName := ⟨"TrustChain$CertificateReader", "readCertificate", "()V"⟩
abbrev b_CertificateReader_readCertificate : ByteArray := prog_3_method_2_code
def w_CertificateReader_readCertificate : List Cond := Cond.code y_CertificateReader_readCertificate b_CertificateReader_readCertificate 5 (none) :: tb
theorem d_CertificateReader_readCertificate_0 : decode b_CertificateReader_readCertificate 0 = .ok (.aload_n 0, 1) := by decide +kernel
theorem d_CertificateReader_readCertificate_1 : decode b_CertificateReader_readCertificate 1 = .ok (.bipush 48, 2) := by decide +kernel
theorem d_CertificateReader_readCertificate_3 : decode b_CertificateReader_readCertificate 3 = .ok (.aload_n 0, 1) := by decide +kernel
theorem d_CertificateReader_readCertificate_4 : decode b_CertificateReader_readCertificate 4 = .ok (.getfield 25, 3) := by decide +kernel
theorem d_CertificateReader_readCertificate_7 : decode b_CertificateReader_readCertificate 7 = .ok (.arraylength, 1) := by decide +kernel
theorem d_CertificateReader_readCertificate_8 : decode b_CertificateReader_readCertificate 8 = .ok (.invokevirtual 29, 3) := by decide +kernel
theorem d_CertificateReader_readCertificate_11 : decode b_CertificateReader_readCertificate 11 = .ok (.istore_n 1, 1) := by decide +kernel
theorem d_CertificateReader_readCertificate_12 : decode b_CertificateReader_readCertificate 12 = .ok (.aload_n 0, 1) := by decide +kernel
theorem d_CertificateReader_readCertificate_13 : decode b_CertificateReader_readCertificate 13 = .ok (.getfield 33, 3) := by decide +kernel
theorem d_CertificateReader_readCertificate_16 : decode b_CertificateReader_readCertificate 16 = .ok (.istore_n 2, 1) := by decide +kernel
theorem d_CertificateReader_readCertificate_17 : decode b_CertificateReader_readCertificate 17 = .ok (.aload_n 0, 1) := by decide +kernel
theorem d_CertificateReader_readCertificate_18 : decode b_CertificateReader_readCertificate 18 = .ok (.bipush 48, 2) := by decide +kernel
theorem d_CertificateReader_readCertificate_20 : decode b_CertificateReader_readCertificate 20 = .ok (.iload_n 1, 1) := by decide +kernel
theorem d_CertificateReader_readCertificate_21 : decode b_CertificateReader_readCertificate 21 = .ok (.invokevirtual 29, 3) := by decide +kernel
theorem d_CertificateReader_readCertificate_24 : decode b_CertificateReader_readCertificate 24 = .ok (.istore_n 3, 1) := by decide +kernel
theorem d_CertificateReader_readCertificate_25 : decode b_CertificateReader_readCertificate 25 = .ok (.aload_n 0, 1) := by decide +kernel
theorem d_CertificateReader_readCertificate_26 : decode b_CertificateReader_readCertificate 26 = .ok (.iload_n 3, 1) := by decide +kernel
theorem d_CertificateReader_readCertificate_27 : decode b_CertificateReader_readCertificate 27 = .ok (.invokevirtual 37, 3) := by decide +kernel
theorem d_CertificateReader_readCertificate_30 : decode b_CertificateReader_readCertificate 30 = .ok (.aload_n 0, 1) := by decide +kernel
theorem d_CertificateReader_readCertificate_31 : decode b_CertificateReader_readCertificate 31 = .ok (.iload_n 3, 1) := by decide +kernel
theorem d_CertificateReader_readCertificate_32 : decode b_CertificateReader_readCertificate 32 = .ok (.invokevirtual 41, 3) := by decide +kernel
theorem d_CertificateReader_readCertificate_35 : decode b_CertificateReader_readCertificate 35 = .ok (.aload_n 0, 1) := by decide +kernel
theorem d_CertificateReader_readCertificate_36 : decode b_CertificateReader_readCertificate 36 = .ok (.sipush 163, 3) := by decide +kernel
theorem d_CertificateReader_readCertificate_39 : decode b_CertificateReader_readCertificate 39 = .ok (.iload_n 3, 1) := by decide +kernel
theorem d_CertificateReader_readCertificate_40 : decode b_CertificateReader_readCertificate 40 = .ok (.invokevirtual 44, 3) := by decide +kernel
theorem d_CertificateReader_readCertificate_43 : decode b_CertificateReader_readCertificate 43 = .ok (.ifCond .eq 25, 3) := by decide +kernel
theorem d_CertificateReader_readCertificate_46 : decode b_CertificateReader_readCertificate 46 = .ok (.aload_n 0, 1) := by decide +kernel
theorem d_CertificateReader_readCertificate_47 : decode b_CertificateReader_readCertificate 47 = .ok (.sipush 163, 3) := by decide +kernel
theorem d_CertificateReader_readCertificate_50 : decode b_CertificateReader_readCertificate 50 = .ok (.iload_n 3, 1) := by decide +kernel
theorem d_CertificateReader_readCertificate_51 : decode b_CertificateReader_readCertificate 51 = .ok (.invokevirtual 29, 3) := by decide +kernel
theorem d_CertificateReader_readCertificate_54 : decode b_CertificateReader_readCertificate 54 = .ok (.istore 4, 2) := by decide +kernel
theorem d_CertificateReader_readCertificate_56 : decode b_CertificateReader_readCertificate 56 = .ok (.aload_n 0, 1) := by decide +kernel
theorem d_CertificateReader_readCertificate_57 : decode b_CertificateReader_readCertificate 57 = .ok (.iload 4, 2) := by decide +kernel
theorem d_CertificateReader_readCertificate_59 : decode b_CertificateReader_readCertificate 59 = .ok (.invokevirtual 48, 3) := by decide +kernel
theorem d_CertificateReader_readCertificate_62 : decode b_CertificateReader_readCertificate 62 = .ok (.aload_n 0, 1) := by decide +kernel
theorem d_CertificateReader_readCertificate_63 : decode b_CertificateReader_readCertificate 63 = .ok (.iload 4, 2) := by decide +kernel
theorem d_CertificateReader_readCertificate_65 : decode b_CertificateReader_readCertificate 65 = .ok (.invokevirtual 51, 3) := by decide +kernel
theorem d_CertificateReader_readCertificate_68 : decode b_CertificateReader_readCertificate 68 = .ok (.aload_n 0, 1) := by decide +kernel
theorem d_CertificateReader_readCertificate_69 : decode b_CertificateReader_readCertificate 69 = .ok (.iload_n 3, 1) := by decide +kernel
theorem d_CertificateReader_readCertificate_70 : decode b_CertificateReader_readCertificate 70 = .ok (.invokevirtual 51, 3) := by decide +kernel
theorem d_CertificateReader_readCertificate_73 : decode b_CertificateReader_readCertificate 73 = .ok (.aload_n 0, 1) := by decide +kernel
theorem d_CertificateReader_readCertificate_74 : decode b_CertificateReader_readCertificate 74 = .ok (.getfield 19, 3) := by decide +kernel
theorem d_CertificateReader_readCertificate_77 : decode b_CertificateReader_readCertificate 77 = .ok (.new 11, 3) := by decide +kernel
theorem d_CertificateReader_readCertificate_80 : decode b_CertificateReader_readCertificate 80 = .ok (.dup, 1) := by decide +kernel
theorem d_CertificateReader_readCertificate_81 : decode b_CertificateReader_readCertificate 81 = .ok (.aload_n 0, 1) := by decide +kernel
theorem d_CertificateReader_readCertificate_82 : decode b_CertificateReader_readCertificate 82 = .ok (.getfield 25, 3) := by decide +kernel
theorem d_CertificateReader_readCertificate_85 : decode b_CertificateReader_readCertificate 85 = .ok (.iload_n 2, 1) := by decide +kernel
theorem d_CertificateReader_readCertificate_86 : decode b_CertificateReader_readCertificate 86 = .ok (.iload_n 3, 1) := by decide +kernel
theorem d_CertificateReader_readCertificate_87 : decode b_CertificateReader_readCertificate 87 = .ok (.invokespecial 13, 3) := by decide +kernel
theorem d_CertificateReader_readCertificate_90 : decode b_CertificateReader_readCertificate 90 = .ok (.putfield 54, 3) := by decide +kernel
theorem d_CertificateReader_readCertificate_93 : decode b_CertificateReader_readCertificate 93 = .ok (.aload_n 0, 1) := by decide +kernel
theorem d_CertificateReader_readCertificate_94 : decode b_CertificateReader_readCertificate 94 = .ok (.getfield 19, 3) := by decide +kernel
theorem d_CertificateReader_readCertificate_97 : decode b_CertificateReader_readCertificate 97 = .ok (.aload_n 0, 1) := by decide +kernel
theorem d_CertificateReader_readCertificate_98 : decode b_CertificateReader_readCertificate 98 = .ok (.getfield 58, 3) := by decide +kernel
theorem d_CertificateReader_readCertificate_101 : decode b_CertificateReader_readCertificate 101 = .ok (.putfield 61, 3) := by decide +kernel
theorem d_CertificateReader_readCertificate_104 : decode b_CertificateReader_readCertificate 104 = .ok (.aload_n 0, 1) := by decide +kernel
theorem d_CertificateReader_readCertificate_105 : decode b_CertificateReader_readCertificate 105 = .ok (.getfield 19, 3) := by decide +kernel
theorem d_CertificateReader_readCertificate_108 : decode b_CertificateReader_readCertificate 108 = .ok (.aload_n 0, 1) := by decide +kernel
theorem d_CertificateReader_readCertificate_109 : decode b_CertificateReader_readCertificate 109 = .ok (.getfield 62, 3) := by decide +kernel
theorem d_CertificateReader_readCertificate_112 : decode b_CertificateReader_readCertificate 112 = .ok (.putfield 65, 3) := by decide +kernel
theorem d_CertificateReader_readCertificate_115 : decode b_CertificateReader_readCertificate 115 = .ok (.aload_n 0, 1) := by decide +kernel
theorem d_CertificateReader_readCertificate_116 : decode b_CertificateReader_readCertificate 116 = .ok (.aload_n 0, 1) := by decide +kernel
theorem d_CertificateReader_readCertificate_117 : decode b_CertificateReader_readCertificate 117 = .ok (.getfield 19, 3) := by decide +kernel
theorem d_CertificateReader_readCertificate_120 : decode b_CertificateReader_readCertificate 120 = .ok (.iload_n 1, 1) := by decide +kernel
theorem d_CertificateReader_readCertificate_121 : decode b_CertificateReader_readCertificate 121 = .ok (.invokevirtual 66, 3) := by decide +kernel
theorem d_CertificateReader_readCertificate_124 : decode b_CertificateReader_readCertificate 124 = .ok (.return_, 1) := by decide +kernel
set_option maxHeartbeats 4000000 in
set_option maxRecDepth 100000 in
theorem eC_readCertificate (l : Launch) (dC : Nat → ClassId) (dI : Nat → Nat → Nat) (sb : sB) (h res t ki : Nat) (pa ma ex : Int32) (cB : ClassId) (k0 k1 k2 k3 k4 k5 k6 k7 k19 k20 k21 k22 k23 k24 : Nat) (k8 k9 k10 k11 k12 k13 k14 k15 k16 k17 k18 k27 : Int32) (k25 k26 : Int64) (sz : Nat) : Met l y_CertificateReader_readCertificate w_CertificateReader_readCertificate ({ frames := 5, cells := 8, slots := 24, locals := 123 }) (mu_P [.ref h] (dC, dI) sb [(h, .inr (4, [.ref res, .ref t, .int (nI 0), .int (nI 0), .int (wI none), .int pa, .int ma, .int ex, .ref ki])), (t, .inl (cB, 0, .inl (tx eU))), (res, .inr (3, [.ref k0, .ref k1, .ref k2, .ref k3, .ref k4, .ref k5, .ref k6, .ref k7, .int k8, .int k9, .int k10, .int k11, .int k12, .int k13, .int k14, .int k15, .int k16, .int k17, .int k18, .ref k19, .ref k20, .ref k21, .ref k22, .ref k23, .ref k24, .long k25, .long k26, .int k27]))] [(cB, .byte)] sz) (va_Qv (fun (_u : Nat × Nat × Nat × Int32 × Int32 × Int32 × Nat × Nat × Nat × Int64 × Int64) => True) (mu_B (dC, dI) [(cB, .byte)] (va_A [(h, .inr (4, [.ref res, .ref t, .int (nI 0), .int (nI 0), .int (wI none), .int pa, .int ma, .int ex, .ref ki])), (t, .inl (cB, 0, .inl (tx eU))), (res, .inr (3, [.ref k0, .ref k1, .ref k2, .ref k3, .ref k4, .ref k5, .ref k6, .ref k7, .int k8, .int k9, .int k10, .int k11, .int k12, .int k13, .int k14, .int k15, .int k16, .int k17, .int k18, .ref k19, .ref k20, .ref k21, .ref k22, .ref k23, .ref k24, .long k25, .long k26, .int k27]))] sz) (fun u' : Nat × Nat × Nat × Int32 × Int32 × Int32 × Nat × Nat × Nat × Int64 × Int64 => [(h, .inr (4, [.ref res, .ref t, .int (nI 0), .int (nI 0), .int (wI (some 0)), .int 0, .int ma, .int ex, .ref ki])), (t, .inl (cB, 0, .inl (tx eU))), (res, .inr (3, [.ref k0, .ref k1, .ref k2, .ref u'.1, .ref u'.2.1, .ref u'.2.2.1, .ref k6, .ref k7, .int 0, .int u'.2.2.2.1, .int u'.2.2.2.2.1, .int k11, .int k12, .int k13, .int ex, .int u'.2.2.2.2.2.1, .int k16, .int k17, .int k18, .ref k19, .ref k20, .ref k21, .ref u'.2.2.2.2.2.2.1, .ref u'.2.2.2.2.2.2.2.1, .ref u'.2.2.2.2.2.2.2.2.1, .long u'.2.2.2.2.2.2.2.2.2.1, .long u'.2.2.2.2.2.2.2.2.2.2, .int ma]))])) (va_A [(h, .inr (4, [.ref res, .ref t, .int (nI 0), .int (nI 0), .int (wI none), .int pa, .int ma, .int ex, .ref ki])), (t, .inl (cB, 0, .inl (tx eU))), (res, .inr (3, [.ref k0, .ref k1, .ref k2, .ref k3, .ref k4, .ref k5, .ref k6, .ref k7, .int k8, .int k9, .int k10, .int k11, .int k12, .int k13, .int k14, .int k15, .int k16, .int k17, .int k18, .ref k19, .ref k20, .ref k21, .ref k22, .ref k23, .ref k24, .long k25, .long k26, .int k27]))] sz)) 8 24 (va_A [(h, .inr (4, [.ref res, .ref t, .int (nI 0), .int (nI 0), .int (wI none), .int pa, .int ma, .int ex, .ref ki])), (t, .inl (cB, 0, .inl (tx eU))), (res, .inr (3, [.ref k0, .ref k1, .ref k2, .ref k3, .ref k4, .ref k5, .ref k6, .ref k7, .int k8, .int k9, .int k10, .int k11, .int k12, .int k13, .int k14, .int k15, .int k16, .int k17, .int k18, .ref k19, .ref k20, .ref k21, .ref k22, .ref k23, .ref k24, .long k25, .long k26, .int k27]))] sz) := by
  refine Met.ofW (cc := b_CertificateReader_readCertificate) (maxL := 5) (ret := none) (by decide) rfl ?_
  intro p e s m args below meth c s₁ B hml hv
  obtain ⟨rfl, hsz, hB0, hP, hK, hD0, hN, hT0⟩ := hv
  have hx := B.exec
  have hb := B.bytes
  have hr := B.returns
  have hts := atoms_spec (ws := w_CertificateReader_readCertificate) B.pre
  have tbin : ∀ w ∈ tb, w ∈ w_CertificateReader_readCertificate := fun w h => List.mem_cons_of_mem _ h
  have htb : ∀ w ∈ tb, w.before _ s = true := fun w h => hts w (tbin w h)
  have hown : s.vm.findClass "TrustChain$CertificateReader" = some m.cls := findClass_of_methodNamed B.named
  have hlocks := B.notSynchronized
  subst hsz
  have hD := hD0.self (sz := s.heap.size)
  generalize hAe : va_A [(h, .inr (4, [.ref res, .ref t, .int (nI 0), .int (nI 0), .int (wI none), .int pa, .int ma, .int ex, .ref ki])), (t, .inl (cB, 0, .inl (tx eU))), (res, .inr (3, [.ref k0, .ref k1, .ref k2, .ref k3, .ref k4, .ref k5, .ref k6, .ref k7, .int k8, .int k9, .int k10, .int k11, .int k12, .int k13, .int k14, .int k15, .int k16, .int k17, .int k18, .ref k19, .ref k20, .ref k21, .ref k22, .ref k23, .ref k24, .long k25, .long k26, .int k27]))] s.heap.size = A at hD ⊢
  have hA : ∀ q : Nat, s.heap.size ≤ q → A q := fun q h => by rw [← hAe]; exact Or.inr h
  have hAs : ∀ q : Nat, A q → sb.1 ≤ q := fun q h => by
    rw [← hAe] at h
    rcases h with ⟨k, e, h⟩ | h
    · exact hD0.2 k _ h
    · exact Nat.le_trans hB0 h
  have hS : va_S A s.heap s.heap [] := va_S.rf
  have hcs : 8 ≤ (headSpec w_CertificateReader_readCertificate ({ frames := 5, cells := 8, slots := 24, locals := 123 })).room.cells ∧ 24 ≤ (headSpec w_CertificateReader_readCertificate ({ frames := 5, cells := 8, slots := 24, locals := 123 })).room.slots := ⟨Nat.le_refl _, Nat.le_refl _⟩
  have hP : va_P (dC, dI) classes [(h, .inr (4, [.ref res, .ref t, .int (nI 0), .int (nI 0), .int (wI none), .int pa, .int ma, .int ex, .ref ki])), (t, .inl (cB, 0, .inl (tx eU))), (res, .inr (3, [.ref k0, .ref k1, .ref k2, .ref k3, .ref k4, .ref k5, .ref k6, .ref k7, .int k8, .int k9, .int k10, .int k11, .int k12, .int k13, .int k14, .int k15, .int k16, .int k17, .int k18, .ref k19, .ref k20, .ref k21, .ref k22, .ref k23, .ref k24, .long k25, .long k26, .int k27]))] s.heap := hP
  have hl := lv_entry ([.ref h]) (n := 5) (Nat.le_of_ble_eq_true rfl)
  rw [lg_entry_eq]
  generalize (lg_sl ([.ref h]) ++ List.replicate (5 - (lg_sl ([.ref h])).length) Slot.unset).toArray = ls at hl ⊢
  have hl : lv_has ls 5 [(0, .ref h)] := hl
  refine lv_aload_n hx hb d_CertificateReader_readCertificate_0 rfl (lv_at hl 0 rfl) ?_
  refine lv_bipush (v := 48) hx hb d_CertificateReader_readCertificate_1 (by decide) ?_
  refine lv_aload_n hx hb d_CertificateReader_readCertificate_3 rfl (lv_at hl 0 rfl) ?_
  refine va_get (v := .ref t) hx hb htb i_CertificateReader hown hK hP 0 rfl rfl 1 (by decide) (htb _ q3_58) (fun x9 h9 => u_same (htb _ q3_59) x9 h9) rfl d_CertificateReader_readCertificate_4 ?_
  refine va_alen (v := nI 0) hx hb hK hP 1 0 rfl rfl rfl d_CertificateReader_readCertificate_7 ?_
  have hFc := va_free (wc := [(h, .inr (4, [.ref res, .ref t, .int (nI 0), .int (nI 0), .int (wI none), .int pa, .int ma, .int ex, .ref ki])), (t, .inl (cB, 0, .inl (tx eU)))]) hD hS hA [0, 1] rfl
  refine va_calli (mu_runU (As := [.int 48, .int (nI 0)]) (rest := []) ⟨hx, hb, hml, hown, hts⟩ (cC_open l dC dI sb h res t ki 0 0 0 none pa ma ex 0 cB eU 48 0 s.heap.size eU_lt (by decide) ew_n (Nat.le_refl 0) (Nat.le_refl 0) (by decide)) (cu_of (n := 2) hts tbin q3_108 q3_109 q3_112 q3_111 q1_15 q3_113 rfl (by decide +kernel) ⟨rfl, rfl⟩ ⟨Nat.le_of_ble_eq_true rfl, Nat.le_of_ble_eq_true rfl⟩) rfl ⟨Nat.le_of_ble_eq_true rfl, Nat.le_of_ble_eq_true rfl⟩ hN (hT0.keep hS hAs) hAs (Nat.le_trans hB0 hS.1) hK hP hD [0, 1] (by decide) rfl [0] rfl 0 4 rfl rfl rfl hl.1 rfl (Nat.le_of_ble_eq_true rfl) d_CertificateReader_readCertificate_8) hS (fun q _ h => hFc q h) hFc (fun r8 u8 tS H8 locs ht hvm hw8 hB hz1 hk1 hS => ?_)
  obtain ⟨x8, rfl⟩ : ∃ z, z = u8 := ⟨_, rfl⟩
  obtain ⟨hP1, hK1, hD1⟩ := hB
  rw [ht] at hP1
  obtain ⟨hP, hD⟩ := va_join (wr := [(res, .inr (3, [.ref k0, .ref k1, .ref k2, .ref k3, .ref k4, .ref k5, .ref k6, .ref k7, .int k8, .int k9, .int k10, .int k11, .int k12, .int k13, .int k14, .int k15, .int k16, .int k17, .int k18, .ref k19, .ref k20, .ref k21, .ref k22, .ref k23, .ref k24, .long k25, .long k26, .int k27]))]) (w1 := [(h, .inr (4, [.ref res, .ref t, .int (nI x8.1), .int (nI x8.2.1), .int (wI x8.2.2), .int pa, .int ma, .int ex, .ref ki])), (t, .inl (cB, 0, .inl (tx eU)))]) hP hD [0, 1] [2] rfl rfl (by decide) (by decide) hk1 hFc hP1 hD1
  have hP : va_P (dC, dI) classes [(res, .inr (3, [.ref k0, .ref k1, .ref k2, .ref k3, .ref k4, .ref k5, .ref k6, .ref k7, .int k8, .int k9, .int k10, .int k11, .int k12, .int k13, .int k14, .int k15, .int k16, .int k17, .int k18, .ref k19, .ref k20, .ref k21, .ref k22, .ref k23, .ref k24, .long k25, .long k26, .int k27])), (h, .inr (4, [.ref res, .ref t, .int (nI x8.1), .int (nI x8.2.1), .int (wI x8.2.2), .int pa, .int ma, .int ex, .ref ki])), (t, .inl (cB, 0, .inl (tx eU)))] H8 := hP
  have hD : va_D A [(res, .inr (3, [.ref k0, .ref k1, .ref k2, .ref k3, .ref k4, .ref k5, .ref k6, .ref k7, .int k8, .int k9, .int k10, .int k11, .int k12, .int k13, .int k14, .int k15, .int k16, .int k17, .int k18, .ref k19, .ref k20, .ref k21, .ref k22, .ref k23, .ref k24, .long k25, .long k26, .int k27])), (h, .inr (4, [.ref res, .ref t, .int (nI x8.1), .int (nI x8.2.1), .int (wI x8.2.2), .int pa, .int ma, .int ex, .ref ki])), (t, .inl (cB, 0, .inl (tx eU)))] := hD
  obtain ⟨rfl, rfl⟩ : x8 = ((0, 0, some 0) : rS) ∧ r8 = nI 0 := hw8
  have hP : va_P (dC, dI) classes [(res, .inr (3, [.ref k0, .ref k1, .ref k2, .ref k3, .ref k4, .ref k5, .ref k6, .ref k7, .int k8, .int k9, .int k10, .int k11, .int k12, .int k13, .int k14, .int k15, .int k16, .int k17, .int k18, .ref k19, .ref k20, .ref k21, .ref k22, .ref k23, .ref k24, .long k25, .long k26, .int k27])), (h, .inr (4, [.ref res, .ref t, .int (nI 0), .int (nI 0), .int (wI (some 0)), .int pa, .int ma, .int ex, .ref ki])), (t, .inl (cB, 0, .inl (tx eU)))] H8 := hP
  have hD : va_D A [(res, .inr (3, [.ref k0, .ref k1, .ref k2, .ref k3, .ref k4, .ref k5, .ref k6, .ref k7, .int k8, .int k9, .int k10, .int k11, .int k12, .int k13, .int k14, .int k15, .int k16, .int k17, .int k18, .ref k19, .ref k20, .ref k21, .ref k22, .ref k23, .ref k24, .long k25, .long k26, .int k27])), (h, .inr (4, [.ref res, .ref t, .int (nI 0), .int (nI 0), .int (wI (some 0)), .int pa, .int ma, .int ex, .ref ki])), (t, .inl (cB, 0, .inl (tx eU)))] := hD
  refine lv_istore_n (lv' := [(1, .int (nI 0)), (0, .ref h)]) hx hb d_CertificateReader_readCertificate_11 rfl hl (by decide) rfl (fun ls hl => ?_)
  refine lv_aload_n hx hb d_CertificateReader_readCertificate_12 rfl (lv_at hl 1 rfl) ?_
  refine va_get (v := .int (nI 0)) hx hb htb i_CertificateReader hown hK hP 1 rfl rfl 2 (by decide) (htb _ q3_63) (fun x9 h9 => u_same (htb _ q3_64) x9 h9) rfl d_CertificateReader_readCertificate_13 ?_
  refine lv_istore_n (lv' := [(2, .int (nI 0)), (1, .int (nI 0)), (0, .ref h)]) hx hb d_CertificateReader_readCertificate_16 rfl hl (by decide) rfl (fun ls hl => ?_)
  refine lv_aload_n hx hb d_CertificateReader_readCertificate_17 rfl (lv_at hl 2 rfl) ?_
  refine lv_bipush (v := 48) hx hb d_CertificateReader_readCertificate_18 (by decide) ?_
  refine lv_iload_n hx hb d_CertificateReader_readCertificate_20 rfl (lv_at hl 1 rfl) ?_
  have hFc := va_free (wc := [(h, .inr (4, [.ref res, .ref t, .int (nI 0), .int (nI 0), .int (wI (some 0)), .int pa, .int ma, .int ex, .ref ki])), (t, .inl (cB, 0, .inl (tx eU)))]) hD hS hA [1, 2] rfl
  refine va_calli (mu_runU (As := [.int 48, .int (nI 0)]) (rest := []) ⟨hx, hb, hml, hown, hts⟩ (cC_open l dC dI sb h res t ki 0 0 0 (some 0) pa ma ex 0 cB eU 48 0 H8.size eU_lt (by decide) ew_0 (Nat.le_refl 0) (Nat.le_refl 0) (by decide)) (cu_of (n := 2) hts tbin q3_108 q3_109 q3_112 q3_111 q1_15 q3_113 rfl (by decide +kernel) ⟨rfl, rfl⟩ ⟨Nat.le_of_ble_eq_true rfl, Nat.le_of_ble_eq_true rfl⟩) rfl ⟨Nat.le_of_ble_eq_true rfl, Nat.le_of_ble_eq_true rfl⟩ hN (hT0.keep hS hAs) hAs (Nat.le_trans hB0 hS.1) hK hP hD [1, 2] (by decide) rfl [0] rfl 1 4 rfl rfl rfl hl.1 rfl (Nat.le_of_ble_eq_true rfl) d_CertificateReader_readCertificate_21) hS (fun q _ h => hFc q h) hFc (fun r21 u21 tS H21 locs ht hvm hw21 hB hz1 hk1 hS => ?_)
  obtain ⟨x21, rfl⟩ : ∃ z, z = u21 := ⟨_, rfl⟩
  obtain ⟨hP1, hK1, hD1⟩ := hB
  rw [ht] at hP1
  obtain ⟨hP, hD⟩ := va_join (wr := [(res, .inr (3, [.ref k0, .ref k1, .ref k2, .ref k3, .ref k4, .ref k5, .ref k6, .ref k7, .int k8, .int k9, .int k10, .int k11, .int k12, .int k13, .int k14, .int k15, .int k16, .int k17, .int k18, .ref k19, .ref k20, .ref k21, .ref k22, .ref k23, .ref k24, .long k25, .long k26, .int k27]))]) (w1 := [(h, .inr (4, [.ref res, .ref t, .int (nI x21.1), .int (nI x21.2.1), .int (wI x21.2.2), .int pa, .int ma, .int ex, .ref ki])), (t, .inl (cB, 0, .inl (tx eU)))]) hP hD [1, 2] [0] rfl rfl (by decide) (by decide) hk1 hFc hP1 hD1
  have hP : va_P (dC, dI) classes [(res, .inr (3, [.ref k0, .ref k1, .ref k2, .ref k3, .ref k4, .ref k5, .ref k6, .ref k7, .int k8, .int k9, .int k10, .int k11, .int k12, .int k13, .int k14, .int k15, .int k16, .int k17, .int k18, .ref k19, .ref k20, .ref k21, .ref k22, .ref k23, .ref k24, .long k25, .long k26, .int k27])), (h, .inr (4, [.ref res, .ref t, .int (nI x21.1), .int (nI x21.2.1), .int (wI x21.2.2), .int pa, .int ma, .int ex, .ref ki])), (t, .inl (cB, 0, .inl (tx eU)))] H21 := hP
  have hD : va_D A [(res, .inr (3, [.ref k0, .ref k1, .ref k2, .ref k3, .ref k4, .ref k5, .ref k6, .ref k7, .int k8, .int k9, .int k10, .int k11, .int k12, .int k13, .int k14, .int k15, .int k16, .int k17, .int k18, .ref k19, .ref k20, .ref k21, .ref k22, .ref k23, .ref k24, .long k25, .long k26, .int k27])), (h, .inr (4, [.ref res, .ref t, .int (nI x21.1), .int (nI x21.2.1), .int (wI x21.2.2), .int pa, .int ma, .int ex, .ref ki])), (t, .inl (cB, 0, .inl (tx eU)))] := hD
  obtain ⟨rfl, rfl⟩ : x21 = ((0, 0, some 0) : rS) ∧ r21 = nI 0 := hw21
  have hP : va_P (dC, dI) classes [(res, .inr (3, [.ref k0, .ref k1, .ref k2, .ref k3, .ref k4, .ref k5, .ref k6, .ref k7, .int k8, .int k9, .int k10, .int k11, .int k12, .int k13, .int k14, .int k15, .int k16, .int k17, .int k18, .ref k19, .ref k20, .ref k21, .ref k22, .ref k23, .ref k24, .long k25, .long k26, .int k27])), (h, .inr (4, [.ref res, .ref t, .int (nI 0), .int (nI 0), .int (wI (some 0)), .int pa, .int ma, .int ex, .ref ki])), (t, .inl (cB, 0, .inl (tx eU)))] H21 := hP
  have hD : va_D A [(res, .inr (3, [.ref k0, .ref k1, .ref k2, .ref k3, .ref k4, .ref k5, .ref k6, .ref k7, .int k8, .int k9, .int k10, .int k11, .int k12, .int k13, .int k14, .int k15, .int k16, .int k17, .int k18, .ref k19, .ref k20, .ref k21, .ref k22, .ref k23, .ref k24, .long k25, .long k26, .int k27])), (h, .inr (4, [.ref res, .ref t, .int (nI 0), .int (nI 0), .int (wI (some 0)), .int pa, .int ma, .int ex, .ref ki])), (t, .inl (cB, 0, .inl (tx eU)))] := hD
  refine lv_istore_n (lv' := [(3, .int (nI 0)), (2, .int (nI 0)), (1, .int (nI 0)), (0, .ref h)]) hx hb d_CertificateReader_readCertificate_24 rfl hl (by decide) rfl (fun ls hl => ?_)
  refine lv_aload_n hx hb d_CertificateReader_readCertificate_25 rfl (lv_at hl 3 rfl) ?_
  refine lv_iload_n hx hb d_CertificateReader_readCertificate_26 rfl (lv_at hl 0 rfl) ?_
  have hFc := va_free (wc := [(h, .inr (4, [.ref res, .ref t, .int (nI 0), .int (nI 0), .int (wI (some 0)), .int pa, .int ma, .int ex, .ref ki])), (t, .inl (cB, 0, .inl (tx eU))), (res, .inr (3, [.ref k0, .ref k1, .ref k2, .ref k3, .ref k4, .ref k5, .ref k6, .ref k7, .int k8, .int k9, .int k10, .int k11, .int k12, .int k13, .int k14, .int k15, .int k16, .int k17, .int k18, .ref k19, .ref k20, .ref k21, .ref k22, .ref k23, .ref k24, .long k25, .long k26, .int k27]))]) hD hS hA [1, 2, 0] rfl
  refine va_callv (mu_runV (As := [.int (nI 0)]) (rest := []) ⟨hx, hb, hml, hown, hts⟩ tbin (eC_readHead l dC dI sb h res t ki pa ma ex cB k0 k1 k2 k3 k4 k5 k6 k7 k19 k20 k21 k22 k23 k24 k8 k9 k10 k11 k12 k13 k14 k15 k16 k17 k18 k27 k25 k26 H21.size) q3_120 q3_122 qp_4 q1_16 q3_123 (n := 1) (by decide +kernel) rfl ⟨rfl, rfl⟩ ⟨Nat.le_of_ble_eq_true rfl, Nat.le_of_ble_eq_true rfl⟩ ⟨Nat.le_of_ble_eq_true rfl, Nat.le_of_ble_eq_true rfl⟩ hN (hT0.keep hS hAs) hAs (Nat.le_trans hB0 hS.1) hK hP hD [1, 2, 0] (by decide) rfl [0] rfl 1 4 rfl rfl rfl hl.1 rfl (Nat.le_of_ble_eq_true rfl) d_CertificateReader_readCertificate_27) hS (fun q _ h => hFc q h) hFc (fun u27 tS H27 locs ht hvm hw27 hB hz1 hk1 hS => ?_)
  obtain ⟨a27_0, a27_1, a27_2, a27_3, a27_4, a27_5⟩ := u27
  obtain ⟨hP1, hK1, hD1⟩ := hB
  rw [ht] at hP1
  obtain ⟨hP, hD⟩ := va_join (wr := []) (w1 := [(h, .inr (4, [.ref res, .ref t, .int (nI 0), .int (nI 0), .int (wI (some 0)), .int 0, .int ma, .int ex, .ref ki])), (t, .inl (cB, 0, .inl (tx eU))), (res, .inr (3, [.ref k0, .ref k1, .ref k2, .ref a27_0, .ref a27_1, .ref k5, .ref k6, .ref k7, .int 0, .int k9, .int k10, .int k11, .int k12, .int k13, .int k14, .int a27_2, .int k16, .int k17, .int k18, .ref k19, .ref k20, .ref k21, .ref k22, .ref k23, .ref a27_3, .long a27_4, .long a27_5, .int k27]))]) hP hD [1, 2, 0] [] rfl rfl (by decide) (by decide) hk1 hFc hP1 hD1
  have hP : va_P (dC, dI) classes [(h, .inr (4, [.ref res, .ref t, .int (nI 0), .int (nI 0), .int (wI (some 0)), .int 0, .int ma, .int ex, .ref ki])), (t, .inl (cB, 0, .inl (tx eU))), (res, .inr (3, [.ref k0, .ref k1, .ref k2, .ref a27_0, .ref a27_1, .ref k5, .ref k6, .ref k7, .int 0, .int k9, .int k10, .int k11, .int k12, .int k13, .int k14, .int a27_2, .int k16, .int k17, .int k18, .ref k19, .ref k20, .ref k21, .ref k22, .ref k23, .ref a27_3, .long a27_4, .long a27_5, .int k27]))] H27 := hP
  have hD : va_D A [(h, .inr (4, [.ref res, .ref t, .int (nI 0), .int (nI 0), .int (wI (some 0)), .int 0, .int ma, .int ex, .ref ki])), (t, .inl (cB, 0, .inl (tx eU))), (res, .inr (3, [.ref k0, .ref k1, .ref k2, .ref a27_0, .ref a27_1, .ref k5, .ref k6, .ref k7, .int 0, .int k9, .int k10, .int k11, .int k12, .int k13, .int k14, .int a27_2, .int k16, .int k17, .int k18, .ref k19, .ref k20, .ref k21, .ref k22, .ref k23, .ref a27_3, .long a27_4, .long a27_5, .int k27]))] := hD
  refine lv_aload_n hx hb d_CertificateReader_readCertificate_30 rfl (lv_at hl 3 rfl) ?_
  refine lv_iload_n hx hb d_CertificateReader_readCertificate_31 rfl (lv_at hl 0 rfl) ?_
  have hFc := va_free (wc := [(h, .inr (4, [.ref res, .ref t, .int (nI 0), .int (nI 0), .int (wI (some 0)), .int 0, .int ma, .int ex, .ref ki])), (t, .inl (cB, 0, .inl (tx eU))), (res, .inr (3, [.ref k0, .ref k1, .ref k2, .ref a27_0, .ref a27_1, .ref k5, .ref k6, .ref k7, .int 0, .int k9, .int k10, .int k11, .int k12, .int k13, .int k14, .int a27_2, .int k16, .int k17, .int k18, .ref k19, .ref k20, .ref k21, .ref k22, .ref k23, .ref a27_3, .long a27_4, .long a27_5, .int k27]))]) hD hS hA [0, 1, 2] rfl
  refine va_callv (mu_runV (As := [.int (nI 0)]) (rest := []) ⟨hx, hb, hml, hown, hts⟩ tbin (eC_readKey l dC dI sb h res t ki 0 ma ex cB k0 k1 k2 a27_0 a27_1 k5 k6 k7 k19 k20 k21 k22 k23 a27_3 0 k9 k10 k11 k12 k13 k14 a27_2 k16 k17 k18 k27 a27_4 a27_5 H27.size) q4_34 q4_36 qp_5 q1_16 q4_37 (n := 1) (by decide +kernel) rfl ⟨rfl, rfl⟩ ⟨Nat.le_of_ble_eq_true rfl, Nat.le_of_ble_eq_true rfl⟩ ⟨Nat.le_of_ble_eq_true rfl, Nat.le_of_ble_eq_true rfl⟩ hN (hT0.keep hS hAs) hAs (Nat.le_trans hB0 hS.1) hK hP hD [0, 1, 2] (by decide) rfl [0] rfl 0 4 rfl rfl rfl hl.1 rfl (Nat.le_of_ble_eq_true rfl) d_CertificateReader_readCertificate_32) hS (fun q _ h => hFc q h) hFc (fun u32 tS H32 locs ht hvm hw32 hB hz1 hk1 hS => ?_)
  obtain ⟨a32_0, a32_1, a32_2⟩ := u32
  obtain ⟨hP1, hK1, hD1⟩ := hB
  rw [ht] at hP1
  obtain ⟨hP, hD⟩ := va_join (wr := []) (w1 := [(h, .inr (4, [.ref res, .ref t, .int (nI 0), .int (nI 0), .int (wI (some 0)), .int 0, .int ma, .int ex, .ref ki])), (t, .inl (cB, 0, .inl (tx eU))), (res, .inr (3, [.ref k0, .ref k1, .ref k2, .ref a27_0, .ref a27_1, .ref a32_0, .ref k6, .ref k7, .int 0, .int a32_1, .int a32_2, .int k11, .int k12, .int k13, .int k14, .int a27_2, .int k16, .int k17, .int k18, .ref k19, .ref k20, .ref k21, .ref k22, .ref k23, .ref a27_3, .long a27_4, .long a27_5, .int k27]))]) hP hD [0, 1, 2] [] rfl rfl (by decide) (by decide) hk1 hFc hP1 hD1
  have hP : va_P (dC, dI) classes [(h, .inr (4, [.ref res, .ref t, .int (nI 0), .int (nI 0), .int (wI (some 0)), .int 0, .int ma, .int ex, .ref ki])), (t, .inl (cB, 0, .inl (tx eU))), (res, .inr (3, [.ref k0, .ref k1, .ref k2, .ref a27_0, .ref a27_1, .ref a32_0, .ref k6, .ref k7, .int 0, .int a32_1, .int a32_2, .int k11, .int k12, .int k13, .int k14, .int a27_2, .int k16, .int k17, .int k18, .ref k19, .ref k20, .ref k21, .ref k22, .ref k23, .ref a27_3, .long a27_4, .long a27_5, .int k27]))] H32 := hP
  have hD : va_D A [(h, .inr (4, [.ref res, .ref t, .int (nI 0), .int (nI 0), .int (wI (some 0)), .int 0, .int ma, .int ex, .ref ki])), (t, .inl (cB, 0, .inl (tx eU))), (res, .inr (3, [.ref k0, .ref k1, .ref k2, .ref a27_0, .ref a27_1, .ref a32_0, .ref k6, .ref k7, .int 0, .int a32_1, .int a32_2, .int k11, .int k12, .int k13, .int k14, .int a27_2, .int k16, .int k17, .int k18, .ref k19, .ref k20, .ref k21, .ref k22, .ref k23, .ref a27_3, .long a27_4, .long a27_5, .int k27]))] := hD
  refine lv_aload_n hx hb d_CertificateReader_readCertificate_35 rfl (lv_at hl 3 rfl) ?_
  refine lv_sipush (v := 163) hx hb d_CertificateReader_readCertificate_36 (by decide) ?_
  refine lv_iload_n hx hb d_CertificateReader_readCertificate_39 rfl (lv_at hl 0 rfl) ?_
  refine vp_callSi (pu_callU (As := [.int 163, .int (nI 0)]) (rest := []) ⟨hx, hb, hml, hown, hts⟩ (cC_nextIs l dC dI sb h res t ki 0 0 0 (some 0) 0 ma ex 0 cB eU 163 0 eU_lt (by decide) ew_0 (Nat.le_refl 0) (Nat.le_refl 0) (by decide)) (cu_of (n := 2) hts tbin q4_52 q4_53 q3_207 q4_55 q1_15 q3_211 rfl (by decide +kernel) ⟨rfl, rfl⟩ ⟨Nat.le_of_ble_eq_true rfl, Nat.le_of_ble_eq_true rfl⟩) rfl ⟨Nat.le_of_ble_eq_true rfl, Nat.le_of_ble_eq_true rfl⟩ hN (hT0.keep hS hAs) hK hP [0, 1] rfl [0] rfl 0 4 rfl rfl rfl hl.1 rfl (Nat.le_of_ble_eq_true rfl) d_CertificateReader_readCertificate_40) (fun r40 hr40 => ?_)
  refine lv_if_eq (tgt := 68) hx hb d_CertificateReader_readCertificate_43 (by decide) (fun c43 => ?_) (fun c43 => ?_)
  rotate_left
  · exact nomatch (bz_1 hr40 c43).1
  refine lv_aload_n hx hb d_CertificateReader_readCertificate_68 rfl (lv_at hl 3 rfl) ?_
  refine lv_iload_n hx hb d_CertificateReader_readCertificate_69 rfl (lv_at hl 0 rfl) ?_
  have hFc := va_free (wc := [(h, .inr (4, [.ref res, .ref t, .int (nI 0), .int (nI 0), .int (wI (some 0)), .int 0, .int ma, .int ex, .ref ki]))]) hD hS hA [0] rfl
  refine va_callv (mu_runU (As := [.int (nI 0)]) (rest := []) ⟨hx, hb, hml, hown, hts⟩ (cC_finish l dC dI sb h res t ki 0 0 0 (some 0) 0 ma ex 0 cB eU 0 H32.size ew_0 (by decide) (by decide)) (cu_of (n := 1) hts tbin q3_159 q3_160 q3_163 q3_162 q1_15 q3_164 rfl (by decide +kernel) ⟨rfl, rfl⟩ ⟨Nat.le_of_ble_eq_true rfl, Nat.le_of_ble_eq_true rfl⟩) rfl ⟨Nat.le_of_ble_eq_true rfl, Nat.le_of_ble_eq_true rfl⟩ hN (hT0.keep hS hAs) hAs (Nat.le_trans hB0 hS.1) hK hP hD [0] (by decide) rfl [] rfl 0 4 rfl rfl rfl hl.1 rfl (Nat.le_of_ble_eq_true rfl) d_CertificateReader_readCertificate_70) hS (fun q _ h => hFc q h) hFc (fun u70 tS H70 locs ht hvm hw70 hB hz1 hk1 hS => ?_)
  obtain ⟨x70, rfl⟩ : ∃ z, z = u70 := ⟨_, rfl⟩
  obtain ⟨hP1, hK1, hD1⟩ := hB
  rw [ht] at hP1
  obtain ⟨hP, hD⟩ := va_join (wr := [(t, .inl (cB, 0, .inl (tx eU))), (res, .inr (3, [.ref k0, .ref k1, .ref k2, .ref a27_0, .ref a27_1, .ref a32_0, .ref k6, .ref k7, .int 0, .int a32_1, .int a32_2, .int k11, .int k12, .int k13, .int k14, .int a27_2, .int k16, .int k17, .int k18, .ref k19, .ref k20, .ref k21, .ref k22, .ref k23, .ref a27_3, .long a27_4, .long a27_5, .int k27]))]) (w1 := [(h, .inr (4, [.ref res, .ref t, .int (nI x70.1), .int (nI x70.2.1), .int (wI x70.2.2), .int 0, .int ma, .int ex, .ref ki]))]) hP hD [0] [1, 2] rfl rfl (by decide) (by decide) hk1 hFc hP1 hD1
  have hP : va_P (dC, dI) classes [(t, .inl (cB, 0, .inl (tx eU))), (res, .inr (3, [.ref k0, .ref k1, .ref k2, .ref a27_0, .ref a27_1, .ref a32_0, .ref k6, .ref k7, .int 0, .int a32_1, .int a32_2, .int k11, .int k12, .int k13, .int k14, .int a27_2, .int k16, .int k17, .int k18, .ref k19, .ref k20, .ref k21, .ref k22, .ref k23, .ref a27_3, .long a27_4, .long a27_5, .int k27])), (h, .inr (4, [.ref res, .ref t, .int (nI x70.1), .int (nI x70.2.1), .int (wI x70.2.2), .int 0, .int ma, .int ex, .ref ki]))] H70 := hP
  have hD : va_D A [(t, .inl (cB, 0, .inl (tx eU))), (res, .inr (3, [.ref k0, .ref k1, .ref k2, .ref a27_0, .ref a27_1, .ref a32_0, .ref k6, .ref k7, .int 0, .int a32_1, .int a32_2, .int k11, .int k12, .int k13, .int k14, .int a27_2, .int k16, .int k17, .int k18, .ref k19, .ref k20, .ref k21, .ref k22, .ref k23, .ref a27_3, .long a27_4, .long a27_5, .int k27])), (h, .inr (4, [.ref res, .ref t, .int (nI x70.1), .int (nI x70.2.1), .int (wI x70.2.2), .int 0, .int ma, .int ex, .ref ki]))] := hD
  obtain rfl : x70 = ((0, 0, some 0) : rS) := hw70
  have hP : va_P (dC, dI) classes [(t, .inl (cB, 0, .inl (tx eU))), (res, .inr (3, [.ref k0, .ref k1, .ref k2, .ref a27_0, .ref a27_1, .ref a32_0, .ref k6, .ref k7, .int 0, .int a32_1, .int a32_2, .int k11, .int k12, .int k13, .int k14, .int a27_2, .int k16, .int k17, .int k18, .ref k19, .ref k20, .ref k21, .ref k22, .ref k23, .ref a27_3, .long a27_4, .long a27_5, .int k27])), (h, .inr (4, [.ref res, .ref t, .int (nI 0), .int (nI 0), .int (wI (some 0)), .int 0, .int ma, .int ex, .ref ki]))] H70 := hP
  have hD : va_D A [(t, .inl (cB, 0, .inl (tx eU))), (res, .inr (3, [.ref k0, .ref k1, .ref k2, .ref a27_0, .ref a27_1, .ref a32_0, .ref k6, .ref k7, .int 0, .int a32_1, .int a32_2, .int k11, .int k12, .int k13, .int k14, .int a27_2, .int k16, .int k17, .int k18, .ref k19, .ref k20, .ref k21, .ref k22, .ref k23, .ref a27_3, .long a27_4, .long a27_5, .int k27])), (h, .inr (4, [.ref res, .ref t, .int (nI 0), .int (nI 0), .int (wI (some 0)), .int 0, .int ma, .int ex, .ref ki]))] := hD
  refine lv_aload_n hx hb d_CertificateReader_readCertificate_73 rfl (lv_at hl 3 rfl) ?_
  refine va_get (v := .ref res) hx hb htb i_CertificateReader hown hK hP 2 rfl rfl 0 (by decide) (htb _ q3_55) (fun _ h9 => h9) rfl d_CertificateReader_readCertificate_74 ?_
  refine va_new (ci := 0) (fs := [.null, .int 0, .int 0]) hx hb htb i_Slice t_Slice t_Slice_ok hown (htb _ q2_91) (htb _ q2_92) (htb _ q1_22) hK hP hD hS hA rfl (fun j hj => by rcases (show j = 0 ∨ j = 1 ∨ j = 2 by omega) with rfl | rfl | rfl <;> rfl) (Nat.le_of_ble_eq_true rfl) (Nat.le_of_ble_eq_true rfl) d_CertificateReader_readCertificate_77 (fun q77 H77 hP hD hS => ?_)
  have hP : va_P (dC, dI) classes [(t, .inl (cB, 0, .inl (tx eU))), (res, .inr (3, [.ref k0, .ref k1, .ref k2, .ref a27_0, .ref a27_1, .ref a32_0, .ref k6, .ref k7, .int 0, .int a32_1, .int a32_2, .int k11, .int k12, .int k13, .int k14, .int a27_2, .int k16, .int k17, .int k18, .ref k19, .ref k20, .ref k21, .ref k22, .ref k23, .ref a27_3, .long a27_4, .long a27_5, .int k27])), (h, .inr (4, [.ref res, .ref t, .int (nI 0), .int (nI 0), .int (wI (some 0)), .int 0, .int ma, .int ex, .ref ki])), (q77, .inr (0, [.null, .int 0, .int 0]))] H77 := hP
  have hD : va_D A [(t, .inl (cB, 0, .inl (tx eU))), (res, .inr (3, [.ref k0, .ref k1, .ref k2, .ref a27_0, .ref a27_1, .ref a32_0, .ref k6, .ref k7, .int 0, .int a32_1, .int a32_2, .int k11, .int k12, .int k13, .int k14, .int a27_2, .int k16, .int k17, .int k18, .ref k19, .ref k20, .ref k21, .ref k22, .ref k23, .ref a27_3, .long a27_4, .long a27_5, .int k27])), (h, .inr (4, [.ref res, .ref t, .int (nI 0), .int (nI 0), .int (wI (some 0)), .int 0, .int ma, .int ex, .ref ki])), (q77, .inr (0, [.null, .int 0, .int 0]))] := hD
  refine lv_dup hx hb d_CertificateReader_readCertificate_80 rfl ?_
  refine lv_aload_n hx hb d_CertificateReader_readCertificate_81 rfl (lv_at hl 3 rfl) ?_
  refine va_get (v := .ref t) hx hb htb i_CertificateReader hown hK hP 2 rfl rfl 1 (by decide) (htb _ q3_58) (fun x9 h9 => u_same (htb _ q3_59) x9 h9) rfl d_CertificateReader_readCertificate_82 ?_
  refine lv_iload_n hx hb d_CertificateReader_readCertificate_85 rfl (lv_at hl 1 rfl) ?_
  refine lv_iload_n hx hb d_CertificateReader_readCertificate_86 rfl (lv_at hl 0 rfl) ?_
  have hFc := va_free (wc := [(q77, .inr (0, [.null, .int 0, .int 0]))]) hD hS hA [3] rfl
  refine va_callv (mu_runI (As := [.ref t, .int (nI 0), .int (nI 0)]) (rest := [.ref q77, .ref res]) ⟨hx, hb, hml, hown, hts⟩ tbin (c_Slice_init l dC dI sb q77 t (nI 0) (nI 0) H77.size) q2_93 q2_94 q1_22 q2_95 rfl (n := 3) (by decide +kernel) rfl ⟨rfl, rfl⟩ ⟨Nat.le_of_ble_eq_true rfl, Nat.le_of_ble_eq_true rfl⟩ ⟨Nat.le_of_ble_eq_true rfl, Nat.le_of_ble_eq_true rfl⟩ hN (hT0.keep hS hAs) hAs (Nat.le_trans hB0 hS.1) hK hP hD [3] (by decide) rfl [] rfl hl.1 rfl (Nat.le_of_ble_eq_true rfl) d_CertificateReader_readCertificate_87) hS (fun q _ h => hFc q h) hFc (fun u87 tS H87 locs ht hvm hw87 hB hz1 hk1 hS => ?_)
  skip
  obtain ⟨hP1, hK1, hD1⟩ := hB
  rw [ht] at hP1
  obtain ⟨hP, hD⟩ := va_join (wr := [(t, .inl (cB, 0, .inl (tx eU))), (res, .inr (3, [.ref k0, .ref k1, .ref k2, .ref a27_0, .ref a27_1, .ref a32_0, .ref k6, .ref k7, .int 0, .int a32_1, .int a32_2, .int k11, .int k12, .int k13, .int k14, .int a27_2, .int k16, .int k17, .int k18, .ref k19, .ref k20, .ref k21, .ref k22, .ref k23, .ref a27_3, .long a27_4, .long a27_5, .int k27])), (h, .inr (4, [.ref res, .ref t, .int (nI 0), .int (nI 0), .int (wI (some 0)), .int 0, .int ma, .int ex, .ref ki]))]) (w1 := [(q77, .inr (0, [.ref t, .int (nI 0), .int (nI 0)]))]) hP hD [3] [0, 1, 2] rfl rfl (by decide) (by decide) hk1 hFc hP1 hD1
  have hP : va_P (dC, dI) classes [(t, .inl (cB, 0, .inl (tx eU))), (res, .inr (3, [.ref k0, .ref k1, .ref k2, .ref a27_0, .ref a27_1, .ref a32_0, .ref k6, .ref k7, .int 0, .int a32_1, .int a32_2, .int k11, .int k12, .int k13, .int k14, .int a27_2, .int k16, .int k17, .int k18, .ref k19, .ref k20, .ref k21, .ref k22, .ref k23, .ref a27_3, .long a27_4, .long a27_5, .int k27])), (h, .inr (4, [.ref res, .ref t, .int (nI 0), .int (nI 0), .int (wI (some 0)), .int 0, .int ma, .int ex, .ref ki])), (q77, .inr (0, [.ref t, .int (nI 0), .int (nI 0)]))] H87 := hP
  have hD : va_D A [(t, .inl (cB, 0, .inl (tx eU))), (res, .inr (3, [.ref k0, .ref k1, .ref k2, .ref a27_0, .ref a27_1, .ref a32_0, .ref k6, .ref k7, .int 0, .int a32_1, .int a32_2, .int k11, .int k12, .int k13, .int k14, .int a27_2, .int k16, .int k17, .int k18, .ref k19, .ref k20, .ref k21, .ref k22, .ref k23, .ref a27_3, .long a27_4, .long a27_5, .int k27])), (h, .inr (4, [.ref res, .ref t, .int (nI 0), .int (nI 0), .int (wI (some 0)), .int 0, .int ma, .int ex, .ref ki])), (q77, .inr (0, [.ref t, .int (nI 0), .int (nI 0)]))] := hD
  refine va_put (v := .ref q77) (ty := (.object "TrustChain$Slice")) hx hb htb i_Certificate t_Certificate t_Certificate_ok n_Certificate hown hK hP hD hS 1 rfl rfl 22 (by decide) (htb _ q2_203) (fun x9 h9 => u_same (htb _ q2_204) x9 h9) rfl (by decide +kernel) rfl rfl (Nat.le_of_ble_eq_true rfl) d_CertificateReader_readCertificate_90 (fun H90 locs hP hD hS => ?_)
  have hP : va_P (dC, dI) classes [(t, .inl (cB, 0, .inl (tx eU))), (res, .inr (3, [.ref k0, .ref k1, .ref k2, .ref a27_0, .ref a27_1, .ref a32_0, .ref k6, .ref k7, .int 0, .int a32_1, .int a32_2, .int k11, .int k12, .int k13, .int k14, .int a27_2, .int k16, .int k17, .int k18, .ref k19, .ref k20, .ref k21, .ref q77, .ref k23, .ref a27_3, .long a27_4, .long a27_5, .int k27])), (h, .inr (4, [.ref res, .ref t, .int (nI 0), .int (nI 0), .int (wI (some 0)), .int 0, .int ma, .int ex, .ref ki])), (q77, .inr (0, [.ref t, .int (nI 0), .int (nI 0)]))] H90 := hP
  have hD : va_D A [(t, .inl (cB, 0, .inl (tx eU))), (res, .inr (3, [.ref k0, .ref k1, .ref k2, .ref a27_0, .ref a27_1, .ref a32_0, .ref k6, .ref k7, .int 0, .int a32_1, .int a32_2, .int k11, .int k12, .int k13, .int k14, .int a27_2, .int k16, .int k17, .int k18, .ref k19, .ref k20, .ref k21, .ref q77, .ref k23, .ref a27_3, .long a27_4, .long a27_5, .int k27])), (h, .inr (4, [.ref res, .ref t, .int (nI 0), .int (nI 0), .int (wI (some 0)), .int 0, .int ma, .int ex, .ref ki])), (q77, .inr (0, [.ref t, .int (nI 0), .int (nI 0)]))] := hD
  refine lv_aload_n hx hb d_CertificateReader_readCertificate_93 rfl (lv_at hl 3 rfl) ?_
  refine va_get (v := .ref res) hx hb htb i_CertificateReader hown hK hP 2 rfl rfl 0 (by decide) (htb _ q3_55) (fun _ h9 => h9) rfl d_CertificateReader_readCertificate_94 ?_
  refine lv_aload_n hx hb d_CertificateReader_readCertificate_97 rfl (lv_at hl 3 rfl) ?_
  refine va_get (v := .int ex) hx hb htb i_CertificateReader hown hK hP 2 rfl rfl 7 (by decide) (htb _ q3_82) (fun x9 h9 => u_same (htb _ q3_83) x9 h9) rfl d_CertificateReader_readCertificate_98 ?_
  refine va_put (v := .int ex) (ty := .int) hx hb htb i_Certificate t_Certificate t_Certificate_ok n_Certificate hown hK hP hD hS 1 rfl rfl 14 (by decide) (htb _ q2_178) (fun _ h9 => h9) rfl (by decide +kernel) rfl rfl (Nat.le_of_ble_eq_true rfl) d_CertificateReader_readCertificate_101 (fun H101 locs hP hD hS => ?_)
  have hP : va_P (dC, dI) classes [(t, .inl (cB, 0, .inl (tx eU))), (res, .inr (3, [.ref k0, .ref k1, .ref k2, .ref a27_0, .ref a27_1, .ref a32_0, .ref k6, .ref k7, .int 0, .int a32_1, .int a32_2, .int k11, .int k12, .int k13, .int ex, .int a27_2, .int k16, .int k17, .int k18, .ref k19, .ref k20, .ref k21, .ref q77, .ref k23, .ref a27_3, .long a27_4, .long a27_5, .int k27])), (h, .inr (4, [.ref res, .ref t, .int (nI 0), .int (nI 0), .int (wI (some 0)), .int 0, .int ma, .int ex, .ref ki])), (q77, .inr (0, [.ref t, .int (nI 0), .int (nI 0)]))] H101 := hP
  have hD : va_D A [(t, .inl (cB, 0, .inl (tx eU))), (res, .inr (3, [.ref k0, .ref k1, .ref k2, .ref a27_0, .ref a27_1, .ref a32_0, .ref k6, .ref k7, .int 0, .int a32_1, .int a32_2, .int k11, .int k12, .int k13, .int ex, .int a27_2, .int k16, .int k17, .int k18, .ref k19, .ref k20, .ref k21, .ref q77, .ref k23, .ref a27_3, .long a27_4, .long a27_5, .int k27])), (h, .inr (4, [.ref res, .ref t, .int (nI 0), .int (nI 0), .int (wI (some 0)), .int 0, .int ma, .int ex, .ref ki])), (q77, .inr (0, [.ref t, .int (nI 0), .int (nI 0)]))] := hD
  refine lv_aload_n hx hb d_CertificateReader_readCertificate_104 rfl (lv_at hl 3 rfl) ?_
  refine va_get (v := .ref res) hx hb htb i_CertificateReader hown hK hP 2 rfl rfl 0 (by decide) (htb _ q3_55) (fun _ h9 => h9) rfl d_CertificateReader_readCertificate_105 ?_
  refine lv_aload_n hx hb d_CertificateReader_readCertificate_108 rfl (lv_at hl 3 rfl) ?_
  refine va_get (v := .int ma) hx hb htb i_CertificateReader hown hK hP 2 rfl rfl 6 (by decide) (htb _ q3_77) (fun x9 h9 => u_same (htb _ q3_78) x9 h9) rfl d_CertificateReader_readCertificate_109 ?_
  refine va_put (v := .int ma) (ty := .int) hx hb htb i_Certificate t_Certificate t_Certificate_ok n_Certificate hown hK hP hD hS 1 rfl rfl 27 (by decide) (htb _ q2_231) (fun x9 h9 => u_same (htb _ q2_232) x9 h9) rfl (by decide +kernel) rfl rfl (Nat.le_of_ble_eq_true rfl) d_CertificateReader_readCertificate_112 (fun H112 locs hP hD hS => ?_)
  have hP : va_P (dC, dI) classes [(t, .inl (cB, 0, .inl (tx eU))), (res, .inr (3, [.ref k0, .ref k1, .ref k2, .ref a27_0, .ref a27_1, .ref a32_0, .ref k6, .ref k7, .int 0, .int a32_1, .int a32_2, .int k11, .int k12, .int k13, .int ex, .int a27_2, .int k16, .int k17, .int k18, .ref k19, .ref k20, .ref k21, .ref q77, .ref k23, .ref a27_3, .long a27_4, .long a27_5, .int ma])), (h, .inr (4, [.ref res, .ref t, .int (nI 0), .int (nI 0), .int (wI (some 0)), .int 0, .int ma, .int ex, .ref ki])), (q77, .inr (0, [.ref t, .int (nI 0), .int (nI 0)]))] H112 := hP
  have hD : va_D A [(t, .inl (cB, 0, .inl (tx eU))), (res, .inr (3, [.ref k0, .ref k1, .ref k2, .ref a27_0, .ref a27_1, .ref a32_0, .ref k6, .ref k7, .int 0, .int a32_1, .int a32_2, .int k11, .int k12, .int k13, .int ex, .int a27_2, .int k16, .int k17, .int k18, .ref k19, .ref k20, .ref k21, .ref q77, .ref k23, .ref a27_3, .long a27_4, .long a27_5, .int ma])), (h, .inr (4, [.ref res, .ref t, .int (nI 0), .int (nI 0), .int (wI (some 0)), .int 0, .int ma, .int ex, .ref ki])), (q77, .inr (0, [.ref t, .int (nI 0), .int (nI 0)]))] := hD
  refine lv_aload_n hx hb d_CertificateReader_readCertificate_115 rfl (lv_at hl 3 rfl) ?_
  refine lv_aload_n hx hb d_CertificateReader_readCertificate_116 rfl (lv_at hl 3 rfl) ?_
  refine va_get (v := .ref res) hx hb htb i_CertificateReader hown hK hP 2 rfl rfl 0 (by decide) (htb _ q3_55) (fun _ h9 => h9) rfl d_CertificateReader_readCertificate_117 ?_
  refine lv_iload_n hx hb d_CertificateReader_readCertificate_120 rfl (lv_at hl 2 rfl) ?_
  have hFc := va_free (wc := [(h, .inr (4, [.ref res, .ref t, .int (nI 0), .int (nI 0), .int (wI (some 0)), .int 0, .int ma, .int ex, .ref ki])), (t, .inl (cB, 0, .inl (tx eU))), (res, .inr (3, [.ref k0, .ref k1, .ref k2, .ref a27_0, .ref a27_1, .ref a32_0, .ref k6, .ref k7, .int 0, .int a32_1, .int a32_2, .int k11, .int k12, .int k13, .int ex, .int a27_2, .int k16, .int k17, .int k18, .ref k19, .ref k20, .ref k21, .ref q77, .ref k23, .ref a27_3, .long a27_4, .long a27_5, .int ma]))]) hD hS hA [2, 0, 1] rfl
  refine va_callv (mu_runU (As := [.ref res, .int (nI 0)]) (rest := []) ⟨hx, hb, hml, hown, hts⟩ (eC_readSignature l dC dI sb h res t ki 0 ma ex cB k0 k1 k2 a27_0 a27_1 a32_0 k6 k7 k19 k20 k21 q77 k23 a27_3 0 a32_1 a32_2 k11 k12 k13 ex a27_2 k16 k17 k18 ma a27_4 a27_5 H112.size) (cu_of (n := 2) hts tbin q4_225 q4_226 q4_229 q4_228 q1_15 q4_230 rfl (by decide +kernel) ⟨rfl, rfl⟩ ⟨Nat.le_of_ble_eq_true rfl, Nat.le_of_ble_eq_true rfl⟩) rfl ⟨Nat.le_of_ble_eq_true rfl, Nat.le_of_ble_eq_true rfl⟩ hN (hT0.keep hS hAs) hAs (Nat.le_trans hB0 hS.1) hK hP hD [2, 0, 1] (by decide) rfl [0] rfl 2 4 rfl rfl rfl hl.1 rfl (Nat.le_of_ble_eq_true rfl) d_CertificateReader_readCertificate_121) hS (fun q _ h => hFc q h) hFc (fun u121 tS H121 locs ht hvm hw121 hB hz1 hk1 hS => ?_)
  obtain ⟨a121_0, rfl⟩ : ∃ z, z = u121 := ⟨_, rfl⟩
  obtain ⟨hP1, hK1, hD1⟩ := hB
  rw [ht] at hP1
  obtain ⟨hP, hD⟩ := va_join (wr := [(q77, .inr (0, [.ref t, .int (nI 0), .int (nI 0)]))]) (w1 := [(h, .inr (4, [.ref res, .ref t, .int (nI 0), .int (nI 0), .int (wI (some 0)), .int 0, .int ma, .int ex, .ref ki])), (t, .inl (cB, 0, .inl (tx eU))), (res, .inr (3, [.ref k0, .ref k1, .ref k2, .ref a27_0, .ref a27_1, .ref a32_0, .ref k6, .ref k7, .int 0, .int a32_1, .int a32_2, .int k11, .int k12, .int k13, .int ex, .int a27_2, .int k16, .int k17, .int k18, .ref k19, .ref k20, .ref k21, .ref q77, .ref a121_0, .ref a27_3, .long a27_4, .long a27_5, .int ma]))]) hP hD [2, 0, 1] [3] rfl rfl (by decide) (by decide) hk1 hFc hP1 hD1
  have hP : va_P (dC, dI) classes [(q77, .inr (0, [.ref t, .int (nI 0), .int (nI 0)])), (h, .inr (4, [.ref res, .ref t, .int (nI 0), .int (nI 0), .int (wI (some 0)), .int 0, .int ma, .int ex, .ref ki])), (t, .inl (cB, 0, .inl (tx eU))), (res, .inr (3, [.ref k0, .ref k1, .ref k2, .ref a27_0, .ref a27_1, .ref a32_0, .ref k6, .ref k7, .int 0, .int a32_1, .int a32_2, .int k11, .int k12, .int k13, .int ex, .int a27_2, .int k16, .int k17, .int k18, .ref k19, .ref k20, .ref k21, .ref q77, .ref a121_0, .ref a27_3, .long a27_4, .long a27_5, .int ma]))] H121 := hP
  have hD : va_D A [(q77, .inr (0, [.ref t, .int (nI 0), .int (nI 0)])), (h, .inr (4, [.ref res, .ref t, .int (nI 0), .int (nI 0), .int (wI (some 0)), .int 0, .int ma, .int ex, .ref ki])), (t, .inl (cB, 0, .inl (tx eU))), (res, .inr (3, [.ref k0, .ref k1, .ref k2, .ref a27_0, .ref a27_1, .ref a32_0, .ref k6, .ref k7, .int 0, .int a32_1, .int a32_2, .int k11, .int k12, .int k13, .int ex, .int a27_2, .int k16, .int k17, .int k18, .ref k19, .ref k20, .ref k21, .ref q77, .ref a121_0, .ref a27_3, .long a27_4, .long a27_5, .int ma]))] := hD
  exact W.vret hx hb hr (fun t ht hW => ⟨⟨(a27_0, a27_1, a32_0, a32_1, a32_2, a27_2, q77, a121_0, a27_3, a27_4, a27_5), rfl, trivial, by rw [ht]; exact hP.sub [1, 2, 3] rfl, va_K.moved hW.alike hK, hD.sub [1, 2, 3] (by decide) rfl⟩, hS.F ht⟩) hS.2.2 d_CertificateReader_readCertificate_124
set_option maxHeartbeats 4000000 in
set_option maxRecDepth 100000 in
theorem eL_name (l : Launch) (dC : Nat → ClassId) (dI : Nat → Nat → Nat) (sb : sB) (h res t ki : Nat) (pa ma ex ie : Int32) (cB : ClassId) (sz : Nat) : Met l y_Reader_name w_Reader_name ({ frames := 2, cells := 1, slots := 3, locals := 46 }) (mu_P [.ref h, .int (nI 0)] (dC, dI) sb [(h, .inr (5, [.ref res, .int ie, .ref t, .int (nI 0), .int (nI 0), .int (wI (some 0)), .int pa, .int ma, .int ex, .ref ki])), (t, .inl (cB, 0, .inl (tx eU)))] [(cB, .byte)] sz) (va_Qr (fun (_u : Unit) => True) (mu_Br (dC, dI) [(cB, .byte)] (va_A [(h, .inr (5, [.ref res, .int ie, .ref t, .int (nI 0), .int (nI 0), .int (wI (some 0)), .int pa, .int ma, .int ex, .ref ki])), (t, .inl (cB, 0, .inl (tx eU)))] sz) (fun (_ : Unit) (q : Nat) => [(h, .inr (5, [.ref res, .int ie, .ref t, .int (nI 0), .int (nI 0), .int (wI (some 0)), .int 0, .int ma, .int ex, .ref ki])), (t, .inl (cB, 0, .inl (tx eU))), (q, .inr (0, [.ref t, .int (nI 0), .int (nI 0)]))])) (va_A [(h, .inr (5, [.ref res, .int ie, .ref t, .int (nI 0), .int (nI 0), .int (wI (some 0)), .int pa, .int ma, .int ex, .ref ki])), (t, .inl (cB, 0, .inl (tx eU)))] sz)) 1 3 (va_A [(h, .inr (5, [.ref res, .int ie, .ref t, .int (nI 0), .int (nI 0), .int (wI (some 0)), .int pa, .int ma, .int ex, .ref ki])), (t, .inl (cB, 0, .inl (tx eU)))] sz) := by
  refine Met.ofW (cc := b_Reader_name) (maxL := 11) (ret := (some (FieldType.object "TrustChain$Slice"))) (by decide) rfl ?_
  intro p e s m args below meth c s₁ B hml hv
  obtain ⟨rfl, hsz, hB0, hP, hK, hD0, hN, hT0⟩ := hv
  have hx := B.exec
  have hb := B.bytes
  have hr := B.returns
  have hts := atoms_spec (ws := w_Reader_name) B.pre
  have tbin : ∀ w ∈ tb, w ∈ w_Reader_name := fun w h => List.mem_cons_of_mem _ h
  have htb : ∀ w ∈ tb, w.before _ s = true := fun w h => hts w (tbin w h)
  have hown : s.vm.findClass "TrustChain$Reader" = some m.cls := findClass_of_methodNamed B.named
  have hlocks := B.notSynchronized
  subst hsz
  have hD := hD0.self (sz := s.heap.size)
  generalize hAe : va_A [(h, .inr (5, [.ref res, .int ie, .ref t, .int (nI 0), .int (nI 0), .int (wI (some 0)), .int pa, .int ma, .int ex, .ref ki])), (t, .inl (cB, 0, .inl (tx eU)))] s.heap.size = A at hD ⊢
  have hA : ∀ q : Nat, s.heap.size ≤ q → A q := fun q h => by rw [← hAe]; exact Or.inr h
  have hAs : ∀ q : Nat, A q → sb.1 ≤ q := fun q h => by
    rw [← hAe] at h
    rcases h with ⟨k, e, h⟩ | h
    · exact hD0.2 k _ h
    · exact Nat.le_trans hB0 h
  have hS : va_S A s.heap s.heap [] := va_S.rf
  have hcs : 1 ≤ (headSpec w_Reader_name ({ frames := 2, cells := 1, slots := 3, locals := 46 })).room.cells ∧ 3 ≤ (headSpec w_Reader_name ({ frames := 2, cells := 1, slots := 3, locals := 46 })).room.slots := ⟨Nat.le_refl _, Nat.le_refl _⟩
  have hP : va_P (dC, dI) classes [(h, .inr (5, [.ref res, .int ie, .ref t, .int (nI 0), .int (nI 0), .int (wI (some 0)), .int pa, .int ma, .int ex, .ref ki])), (t, .inl (cB, 0, .inl (tx eU)))] s.heap := hP
  have hl := lv_entry ([.ref h, .int (nI 0)]) (n := 11) (Nat.le_of_ble_eq_true rfl)
  rw [lg_entry_eq]
  generalize (lg_sl ([.ref h, .int (nI 0)]) ++ List.replicate (11 - (lg_sl ([.ref h, .int (nI 0)])).length) Slot.unset).toArray = ls at hl ⊢
  have hl : lv_has ls 11 [(0, .ref h), (1, .int (nI 0))] := hl
  refine lv_aload_n hx hb d_Reader_name_0 rfl (lv_at hl 0 rfl) ?_
  refine lv_bipush (v := 48) hx hb d_Reader_name_1 (by decide) ?_
  refine lv_iload_n hx hb d_Reader_name_3 rfl (lv_at hl 1 rfl) ?_
  have hFc := va_free (wc := [(h, .inr (5, [.ref res, .int ie, .ref t, .int (nI 0), .int (nI 0), .int (wI (some 0)), .int pa, .int ma, .int ex, .ref ki])), (t, .inl (cB, 0, .inl (tx eU)))]) hD hS hA [0, 1] rfl
  refine va_calli (mu_runU (As := [.int 48, .int (nI 0)]) (rest := []) ⟨hx, hb, hml, hown, hts⟩ (cL_open l dC dI sb h res t ki 0 0 0 (some 0) pa ma ex ie cB eU 48 0 s.heap.size eU_lt (by decide) ew_0 (Nat.le_refl 0) (Nat.le_refl 0) (by decide)) (cu_of (n := 2) hts tbin q3_130 q9_192 q3_112 q9_194 q1_15 q3_113 rfl (by decide +kernel) ⟨rfl, rfl⟩ ⟨Nat.le_of_ble_eq_true rfl, Nat.le_of_ble_eq_true rfl⟩) rfl ⟨Nat.le_of_ble_eq_true rfl, Nat.le_of_ble_eq_true rfl⟩ hN (hT0.keep hS hAs) hAs (Nat.le_trans hB0 hS.1) hK hP hD [0, 1] (by decide) rfl [0] rfl 0 5 rfl rfl rfl hl.1 rfl (Nat.le_of_ble_eq_true rfl) d_Reader_name_4) hS (fun q _ h => hFc q h) hFc (fun r4 u4 tS H4 locs ht hvm hw4 hB hz1 hk1 hS => ?_)
  obtain ⟨x4, rfl⟩ : ∃ z, z = u4 := ⟨_, rfl⟩
  obtain ⟨hP1, hK1, hD1⟩ := hB
  rw [ht] at hP1
  obtain ⟨hP, hD⟩ := va_join (wr := []) (w1 := [(h, .inr (5, [.ref res, .int ie, .ref t, .int (nI x4.1), .int (nI x4.2.1), .int (wI x4.2.2), .int pa, .int ma, .int ex, .ref ki])), (t, .inl (cB, 0, .inl (tx eU)))]) hP hD [0, 1] [] rfl rfl (by decide) (by decide) hk1 hFc hP1 hD1
  have hP : va_P (dC, dI) classes [(h, .inr (5, [.ref res, .int ie, .ref t, .int (nI x4.1), .int (nI x4.2.1), .int (wI x4.2.2), .int pa, .int ma, .int ex, .ref ki])), (t, .inl (cB, 0, .inl (tx eU)))] H4 := hP
  have hD : va_D A [(h, .inr (5, [.ref res, .int ie, .ref t, .int (nI x4.1), .int (nI x4.2.1), .int (wI x4.2.2), .int pa, .int ma, .int ex, .ref ki])), (t, .inl (cB, 0, .inl (tx eU)))] := hD
  obtain ⟨rfl, rfl⟩ : x4 = ((0, 0, some 0) : rS) ∧ r4 = nI 0 := hw4
  have hP : va_P (dC, dI) classes [(h, .inr (5, [.ref res, .int ie, .ref t, .int (nI 0), .int (nI 0), .int (wI (some 0)), .int pa, .int ma, .int ex, .ref ki])), (t, .inl (cB, 0, .inl (tx eU)))] H4 := hP
  have hD : va_D A [(h, .inr (5, [.ref res, .int ie, .ref t, .int (nI 0), .int (nI 0), .int (wI (some 0)), .int pa, .int ma, .int ex, .ref ki])), (t, .inl (cB, 0, .inl (tx eU)))] := hD
  refine lv_istore_n (lv' := [(2, .int (nI 0)), (0, .ref h), (1, .int (nI 0))]) hx hb d_Reader_name_7 rfl hl (by decide) rfl (fun ls hl => ?_)
  refine lv_aload_n hx hb d_Reader_name_8 rfl (lv_at hl 1 rfl) ?_
  refine va_get (v := .int (nI 0)) hx hb htb i_ListReader hown hK hP 0 rfl rfl 3 (by decide) (htb _ q3_62) (fun _ h9 => h9) rfl d_Reader_name_9 ?_
  refine lv_istore_n (lv' := [(3, .int (nI 0)), (2, .int (nI 0)), (0, .ref h), (1, .int (nI 0))]) hx hb d_Reader_name_12 rfl hl (by decide) rfl (fun ls hl => ?_)
  refine lv_aload_n hx hb d_Reader_name_13 rfl (lv_at hl 2 rfl) ?_
  refine lv_iconst (v := 0) hx hb d_Reader_name_14 (by decide) ?_
  refine va_put (v := .int 0) (ty := .int) hx hb htb i_ListReader t_ListReader t_ListReader_ok n_ListReader hown hK hP hD hS 0 rfl rfl 6 (by decide) (htb _ q3_73) (fun _ h9 => h9) rfl (by decide +kernel) rfl rfl (Nat.le_of_ble_eq_true rfl) d_Reader_name_15 (fun H15 locs hP hD hS => ?_)
  have hP : va_P (dC, dI) classes [(h, .inr (5, [.ref res, .int ie, .ref t, .int (nI 0), .int (nI 0), .int (wI (some 0)), .int 0, .int ma, .int ex, .ref ki])), (t, .inl (cB, 0, .inl (tx eU)))] H15 := hP
  have hD : va_D A [(h, .inr (5, [.ref res, .int ie, .ref t, .int (nI 0), .int (nI 0), .int (wI (some 0)), .int 0, .int ma, .int ex, .ref ki])), (t, .inl (cB, 0, .inl (tx eU)))] := hD
  refine lv_iconst (v := 0) hx hb d_Reader_name_18 (by decide) ?_
  refine lv_istore (lv' := [(4, .int 0), (3, .int (nI 0)), (2, .int (nI 0)), (0, .ref h), (1, .int (nI 0))]) hx hb d_Reader_name_19 hl (by decide) rfl (fun ls hl => ?_)
  refine lv_iload hx hb d_Reader_name_21 (lv_at hl 0 rfl) ?_
  refine lv_sipush (v := 2048) hx hb d_Reader_name_23 (by decide) ?_
  refine lv_icmp_ge (tgt := 215) hx hb d_Reader_name_26 (by decide) (fun c26 => ?_) (fun c26 => ?_)
  · exact absurd c26 (by decide)
  refine lv_aload_n hx hb d_Reader_name_29 rfl (lv_at hl 3 rfl) ?_
  refine lv_iload_n hx hb d_Reader_name_30 rfl (lv_at hl 2 rfl) ?_
  refine vp_callSi (pu_callU (As := [.int (nI 0)]) (rest := []) ⟨hx, hb, hml, hown, hts⟩ (cL_more l dC dI sb h res t ki 0 0 0 (some 0) 0 ma ex ie cB eU 0 ew_0 (by decide) (by decide)) (cu_of (n := 1) hts tbin q3_196 q3_198 q3_197 q3_200 q1_15 q3_201 rfl (by decide +kernel) ⟨rfl, rfl⟩ ⟨Nat.le_of_ble_eq_true rfl, Nat.le_of_ble_eq_true rfl⟩) rfl ⟨Nat.le_of_ble_eq_true rfl, Nat.le_of_ble_eq_true rfl⟩ hN (hT0.keep hS hAs) hK hP [0] rfl [] rfl 0 5 rfl rfl rfl hl.1 rfl (Nat.le_of_ble_eq_true rfl) d_Reader_name_31) (fun r31 hr31 => ?_)
  refine lv_if_eq (tgt := 215) hx hb d_Reader_name_34 (by decide) (fun c34 => ?_) (fun c34 => ?_)
  rotate_left
  · exact nomatch (bz_1 hr31 c34).1
  refine va_new (ci := 0) (fs := [.null, .int 0, .int 0]) hx hb htb i_Slice t_Slice t_Slice_ok hown (htb _ q3_137) (htb _ q2_92) (htb _ q1_22) hK hP hD hS hA rfl (fun j hj => by rcases (show j = 0 ∨ j = 1 ∨ j = 2 by omega) with rfl | rfl | rfl <;> rfl) (Nat.le_of_ble_eq_true rfl) (Nat.le_of_ble_eq_true rfl) d_Reader_name_215 (fun q215 H215 hP hD hS => ?_)
  have hP : va_P (dC, dI) classes [(h, .inr (5, [.ref res, .int ie, .ref t, .int (nI 0), .int (nI 0), .int (wI (some 0)), .int 0, .int ma, .int ex, .ref ki])), (t, .inl (cB, 0, .inl (tx eU))), (q215, .inr (0, [.null, .int 0, .int 0]))] H215 := hP
  have hD : va_D A [(h, .inr (5, [.ref res, .int ie, .ref t, .int (nI 0), .int (nI 0), .int (wI (some 0)), .int 0, .int ma, .int ex, .ref ki])), (t, .inl (cB, 0, .inl (tx eU))), (q215, .inr (0, [.null, .int 0, .int 0]))] := hD
  refine lv_dup hx hb d_Reader_name_218 rfl ?_
  refine lv_aload_n hx hb d_Reader_name_219 rfl (lv_at hl 3 rfl) ?_
  refine va_get (v := .ref t) hx hb htb i_ListReader hown hK hP 0 rfl rfl 2 (by decide) (htb _ q3_57) (fun _ h9 => h9) rfl d_Reader_name_220 ?_
  refine lv_iload_n hx hb d_Reader_name_223 rfl (lv_at hl 1 rfl) ?_
  refine lv_iload_n hx hb d_Reader_name_224 rfl (lv_at hl 2 rfl) ?_
  have hFc := va_free (wc := [(q215, .inr (0, [.null, .int 0, .int 0]))]) hD hS hA [2] rfl
  refine va_callv (mu_runI (As := [.ref t, .int (nI 0), .int (nI 0)]) (rest := [.ref q215]) ⟨hx, hb, hml, hown, hts⟩ tbin (c_Slice_init l dC dI sb q215 t (nI 0) (nI 0) H215.size) q3_138 q2_94 q1_22 q2_95 rfl (n := 3) (by decide +kernel) rfl ⟨rfl, rfl⟩ ⟨Nat.le_of_ble_eq_true rfl, Nat.le_of_ble_eq_true rfl⟩ ⟨Nat.le_of_ble_eq_true rfl, Nat.le_of_ble_eq_true rfl⟩ hN (hT0.keep hS hAs) hAs (Nat.le_trans hB0 hS.1) hK hP hD [2] (by decide) rfl [] rfl hl.1 rfl (Nat.le_of_ble_eq_true rfl) d_Reader_name_225) hS (fun q _ h => hFc q h) hFc (fun u225 tS H225 locs ht hvm hw225 hB hz1 hk1 hS => ?_)
  skip
  obtain ⟨hP1, hK1, hD1⟩ := hB
  rw [ht] at hP1
  obtain ⟨hP, hD⟩ := va_join (wr := [(h, .inr (5, [.ref res, .int ie, .ref t, .int (nI 0), .int (nI 0), .int (wI (some 0)), .int 0, .int ma, .int ex, .ref ki])), (t, .inl (cB, 0, .inl (tx eU)))]) (w1 := [(q215, .inr (0, [.ref t, .int (nI 0), .int (nI 0)]))]) hP hD [2] [0, 1] rfl rfl (by decide) (by decide) hk1 hFc hP1 hD1
  have hP : va_P (dC, dI) classes [(h, .inr (5, [.ref res, .int ie, .ref t, .int (nI 0), .int (nI 0), .int (wI (some 0)), .int 0, .int ma, .int ex, .ref ki])), (t, .inl (cB, 0, .inl (tx eU))), (q215, .inr (0, [.ref t, .int (nI 0), .int (nI 0)]))] H225 := hP
  have hD : va_D A [(h, .inr (5, [.ref res, .int ie, .ref t, .int (nI 0), .int (nI 0), .int (wI (some 0)), .int 0, .int ma, .int ex, .ref ki])), (t, .inl (cB, 0, .inl (tx eU))), (q215, .inr (0, [.ref t, .int (nI 0), .int (nI 0)]))] := hD
  exact W.aret (v := .ref q215) hx hb hr (Or.inl ⟨_, rfl⟩) (Or.inr ⟨_, rfl⟩) (fun t ht hW => ⟨⟨(), q215, rfl, trivial, by rw [ht]; exact hP, va_K.moved hW.alike hK, hD⟩, hS.F ht⟩) hS.2.2 d_Reader_name_228
set_option maxHeartbeats 4000000 in
set_option maxRecDepth 100000 in
theorem eL_fullName (l : Launch) (dC : Nat → ClassId) (dI : Nat → Nat → Nat) (sb : sB) (h res t ki : Nat) (pa ma ex ie : Int32) (cB : ClassId) (sz : Nat) : Met l y_Reader_fullName w_Reader_fullName ({ frames := 3, cells := 1, slots := 3, locals := 76 }) (mu_P [.ref h, .int (nI 0)] (dC, dI) sb [(h, .inr (5, [.ref res, .int ie, .ref t, .int (nI 0), .int (nI 0), .int (wI (some 0)), .int pa, .int ma, .int ex, .ref ki])), (t, .inl (cB, 0, .inl (tx eU)))] [(cB, .byte)] sz) (va_Qr (fun (_u : Unit) => True) (mu_Br (dC, dI) [(cB, .byte)] (va_A [(h, .inr (5, [.ref res, .int ie, .ref t, .int (nI 0), .int (nI 0), .int (wI (some 0)), .int pa, .int ma, .int ex, .ref ki])), (t, .inl (cB, 0, .inl (tx eU)))] sz) (fun (_ : Unit) (q : Nat) => [(h, .inr (5, [.ref res, .int ie, .ref t, .int (nI 0), .int (nI 0), .int (wI (some 0)), .int 0, .int ma, .int ex, .ref ki])), (t, .inl (cB, 0, .inl (tx eU))), (q, .inr (0, [.ref t, .int (nI 0), .int (nI 0)]))])) (va_A [(h, .inr (5, [.ref res, .int ie, .ref t, .int (nI 0), .int (nI 0), .int (wI (some 0)), .int pa, .int ma, .int ex, .ref ki])), (t, .inl (cB, 0, .inl (tx eU)))] sz)) 1 3 (va_A [(h, .inr (5, [.ref res, .int ie, .ref t, .int (nI 0), .int (nI 0), .int (wI (some 0)), .int pa, .int ma, .int ex, .ref ki])), (t, .inl (cB, 0, .inl (tx eU)))] sz) := by
  refine Met.ofW (cc := b_Reader_fullName) (maxL := 4) (ret := (some (FieldType.object "TrustChain$Slice"))) (by decide) rfl ?_
  intro p e s m args below meth c s₁ B hml hv
  obtain ⟨rfl, hsz, hB0, hP, hK, hD0, hN, hT0⟩ := hv
  have hx := B.exec
  have hb := B.bytes
  have hr := B.returns
  have hts := atoms_spec (ws := w_Reader_fullName) B.pre
  have tbin : ∀ w ∈ tb, w ∈ w_Reader_fullName := fun w h => List.mem_cons_of_mem _ h
  have htb : ∀ w ∈ tb, w.before _ s = true := fun w h => hts w (tbin w h)
  have hown : s.vm.findClass "TrustChain$Reader" = some m.cls := findClass_of_methodNamed B.named
  have hlocks := B.notSynchronized
  subst hsz
  have hD := hD0.self (sz := s.heap.size)
  generalize hAe : va_A [(h, .inr (5, [.ref res, .int ie, .ref t, .int (nI 0), .int (nI 0), .int (wI (some 0)), .int pa, .int ma, .int ex, .ref ki])), (t, .inl (cB, 0, .inl (tx eU)))] s.heap.size = A at hD ⊢
  have hA : ∀ q : Nat, s.heap.size ≤ q → A q := fun q h => by rw [← hAe]; exact Or.inr h
  have hAs : ∀ q : Nat, A q → sb.1 ≤ q := fun q h => by
    rw [← hAe] at h
    rcases h with ⟨k, e, h⟩ | h
    · exact hD0.2 k _ h
    · exact Nat.le_trans hB0 h
  have hS : va_S A s.heap s.heap [] := va_S.rf
  have hcs : 1 ≤ (headSpec w_Reader_fullName ({ frames := 3, cells := 1, slots := 3, locals := 76 })).room.cells ∧ 3 ≤ (headSpec w_Reader_fullName ({ frames := 3, cells := 1, slots := 3, locals := 76 })).room.slots := ⟨Nat.le_refl _, Nat.le_refl _⟩
  have hP : va_P (dC, dI) classes [(h, .inr (5, [.ref res, .int ie, .ref t, .int (nI 0), .int (nI 0), .int (wI (some 0)), .int pa, .int ma, .int ex, .ref ki])), (t, .inl (cB, 0, .inl (tx eU)))] s.heap := hP
  have hl := lv_entry ([.ref h, .int (nI 0)]) (n := 4) (Nat.le_of_ble_eq_true rfl)
  rw [lg_entry_eq]
  generalize (lg_sl ([.ref h, .int (nI 0)]) ++ List.replicate (4 - (lg_sl ([.ref h, .int (nI 0)])).length) Slot.unset).toArray = ls at hl ⊢
  have hl : lv_has ls 4 [(0, .ref h), (1, .int (nI 0))] := hl
  refine lv_aload_n hx hb d_Reader_fullName_0 rfl (lv_at hl 0 rfl) ?_
  refine va_get (v := .int (nI 0)) hx hb htb i_ListReader hown hK hP 0 rfl rfl 3 (by decide) (htb _ q3_62) (fun _ h9 => h9) rfl d_Reader_fullName_1 ?_
  refine lv_istore_n (lv' := [(2, .int (nI 0)), (0, .ref h), (1, .int (nI 0))]) hx hb d_Reader_fullName_4 rfl hl (by decide) rfl (fun ls hl => ?_)
  refine lv_aload_n hx hb d_Reader_fullName_5 rfl (lv_at hl 1 rfl) ?_
  refine lv_iload_n hx hb d_Reader_fullName_6 rfl (lv_at hl 2 rfl) ?_
  have hFc := va_free (wc := [(h, .inr (5, [.ref res, .int ie, .ref t, .int (nI 0), .int (nI 0), .int (wI (some 0)), .int pa, .int ma, .int ex, .ref ki])), (t, .inl (cB, 0, .inl (tx eU)))]) hD hS hA [0, 1] rfl
  refine va_callr (mu_runU (As := [.int (nI 0)]) (rest := []) ⟨hx, hb, hml, hown, hts⟩ (eL_name l dC dI sb h res t ki pa ma ex ie cB s.heap.size) (cu_of (n := 1) hts tbin q3_190 q3_192 q3_191 q3_194 q1_15 q3_195 rfl (by decide +kernel) ⟨rfl, rfl⟩ ⟨Nat.le_of_ble_eq_true rfl, Nat.le_of_ble_eq_true rfl⟩) rfl ⟨Nat.le_of_ble_eq_true rfl, Nat.le_of_ble_eq_true rfl⟩ hN (hT0.keep hS hAs) hAs (Nat.le_trans hB0 hS.1) hK hP hD [0, 1] (by decide) rfl [0] rfl 0 5 rfl rfl rfl hl.1 rfl (Nat.le_of_ble_eq_true rfl) d_Reader_fullName_7) hS (fun q _ h => hFc q h) hFc (fun u7 q7 tS H7 locs ht hvm hw7 hB hz1 hk1 hS => ?_)
  skip
  obtain ⟨hP1, hK1, hD1⟩ := hB
  rw [ht] at hP1
  obtain ⟨hP, hD⟩ := va_join (wr := []) (w1 := [(h, .inr (5, [.ref res, .int ie, .ref t, .int (nI 0), .int (nI 0), .int (wI (some 0)), .int 0, .int ma, .int ex, .ref ki])), (t, .inl (cB, 0, .inl (tx eU))), (q7, .inr (0, [.ref t, .int (nI 0), .int (nI 0)]))]) hP hD [0, 1] [] rfl rfl (by decide) (by decide) hk1 hFc hP1 hD1
  have hP : va_P (dC, dI) classes [(h, .inr (5, [.ref res, .int ie, .ref t, .int (nI 0), .int (nI 0), .int (wI (some 0)), .int 0, .int ma, .int ex, .ref ki])), (t, .inl (cB, 0, .inl (tx eU))), (q7, .inr (0, [.ref t, .int (nI 0), .int (nI 0)]))] H7 := hP
  have hD : va_D A [(h, .inr (5, [.ref res, .int ie, .ref t, .int (nI 0), .int (nI 0), .int (wI (some 0)), .int 0, .int ma, .int ex, .ref ki])), (t, .inl (cB, 0, .inl (tx eU))), (q7, .inr (0, [.ref t, .int (nI 0), .int (nI 0)]))] := hD
  refine lv_astore_n (lv' := [(3, .ref q7), (2, .int (nI 0)), (0, .ref h), (1, .int (nI 0))]) hx hb d_Reader_fullName_10 rfl hl (by decide) rfl (fun ls hl => ?_)
  refine lv_aload_n hx hb d_Reader_fullName_11 rfl (lv_at hl 0 rfl) ?_
  refine vp_callSi (pu_callV (As := []) (rest := []) ⟨hx, hb, hml, hown, hts⟩ tbin (c_Slice_length l dC dI sb q7 t 0 0 (Nat.le_refl 0)) q3_173 q3_144 q3_145 q1_22 q3_146 (n := 0) (by decide +kernel) rfl ⟨rfl, rfl⟩ ⟨Nat.le_of_ble_eq_true rfl, Nat.le_of_ble_eq_true rfl⟩ ⟨Nat.le_of_ble_eq_true rfl, Nat.le_of_ble_eq_true rfl⟩ hN (hT0.keep hS hAs) hK hP [2] rfl [] rfl 2 0 rfl rfl rfl hl.1 rfl (Nat.le_of_ble_eq_true rfl) d_Reader_fullName_12) (fun r12 hr12 => ?_)
  subst hr12
  refine lv_if_ne (tgt := 23) hx hb d_Reader_fullName_15 (by decide) (fun c15 => ?_) (fun c15 => ?_)
  · exact absurd c15 (by decide)
  refine lv_aload_n hx hb d_Reader_fullName_18 rfl (lv_at hl 2 rfl) ?_
  refine lv_iload_n hx hb d_Reader_fullName_19 rfl (lv_at hl 1 rfl) ?_
  have hFc := va_free (wc := [(h, .inr (5, [.ref res, .int ie, .ref t, .int (nI 0), .int (nI 0), .int (wI (some 0)), .int 0, .int ma, .int ex, .ref ki]))]) hD hS hA [0] rfl
  refine va_callv (mu_runU (As := [.int (nI 0)]) (rest := []) ⟨hx, hb, hml, hown, hts⟩ (cL_refuse l dC dI sb h res t ki 0 0 0 (some 0) 0 ma ex ie cB eU 0 H7.size ew_0) (cu_of (n := 1) hts tbin q3_227 q3_229 q3_228 q3_231 q1_15 q3_232 rfl (by decide +kernel) ⟨rfl, rfl⟩ ⟨Nat.le_of_ble_eq_true rfl, Nat.le_of_ble_eq_true rfl⟩) rfl ⟨Nat.le_of_ble_eq_true rfl, Nat.le_of_ble_eq_true rfl⟩ hN (hT0.keep hS hAs) hAs (Nat.le_trans hB0 hS.1) hK hP hD [0] (by decide) rfl [] rfl 0 5 rfl rfl rfl hl.1 rfl (Nat.le_of_ble_eq_true rfl) d_Reader_fullName_20) hS (fun q _ h => hFc q h) hFc (fun u20 tS H20 locs ht hvm hw20 hB hz1 hk1 hS => ?_)
  obtain ⟨x20, rfl⟩ : ∃ z, z = u20 := ⟨_, rfl⟩
  obtain ⟨hP1, hK1, hD1⟩ := hB
  rw [ht] at hP1
  obtain ⟨hP, hD⟩ := va_join (wr := [(t, .inl (cB, 0, .inl (tx eU))), (q7, .inr (0, [.ref t, .int (nI 0), .int (nI 0)]))]) (w1 := [(h, .inr (5, [.ref res, .int ie, .ref t, .int (nI x20.1), .int (nI x20.2.1), .int (wI x20.2.2), .int 0, .int ma, .int ex, .ref ki]))]) hP hD [0] [1, 2] rfl rfl (by decide) (by decide) hk1 hFc hP1 hD1
  have hP : va_P (dC, dI) classes [(t, .inl (cB, 0, .inl (tx eU))), (q7, .inr (0, [.ref t, .int (nI 0), .int (nI 0)])), (h, .inr (5, [.ref res, .int ie, .ref t, .int (nI x20.1), .int (nI x20.2.1), .int (wI x20.2.2), .int 0, .int ma, .int ex, .ref ki]))] H20 := hP
  have hD : va_D A [(t, .inl (cB, 0, .inl (tx eU))), (q7, .inr (0, [.ref t, .int (nI 0), .int (nI 0)])), (h, .inr (5, [.ref res, .int ie, .ref t, .int (nI x20.1), .int (nI x20.2.1), .int (wI x20.2.2), .int 0, .int ma, .int ex, .ref ki]))] := hD
  obtain rfl : x20 = ((0, 0, some 0) : rS) := hw20
  have hP : va_P (dC, dI) classes [(t, .inl (cB, 0, .inl (tx eU))), (q7, .inr (0, [.ref t, .int (nI 0), .int (nI 0)])), (h, .inr (5, [.ref res, .int ie, .ref t, .int (nI 0), .int (nI 0), .int (wI (some 0)), .int 0, .int ma, .int ex, .ref ki]))] H20 := hP
  have hD : va_D A [(t, .inl (cB, 0, .inl (tx eU))), (q7, .inr (0, [.ref t, .int (nI 0), .int (nI 0)])), (h, .inr (5, [.ref res, .int ie, .ref t, .int (nI 0), .int (nI 0), .int (wI (some 0)), .int 0, .int ma, .int ex, .ref ki]))] := hD
  refine lv_aload_n hx hb d_Reader_fullName_23 rfl (lv_at hl 0 rfl) ?_
  exact W.aret (v := .ref q7) hx hb hr (Or.inl ⟨_, rfl⟩) (Or.inr ⟨_, rfl⟩) (fun t ht hW => ⟨⟨(), q7, rfl, trivial, by rw [ht]; exact hP.sub [2, 0, 1] rfl, va_K.moved hW.alike hK, hD.sub [2, 0, 1] (by decide) rfl⟩, hS.F ht⟩) hS.2.2 d_Reader_fullName_24
set_option maxHeartbeats 4000000 in
set_option maxRecDepth 100000 in
theorem eL_readSignature (l : Launch) (dC : Nat → ClassId) (dI : Nat → Nat → Nat) (sb : sB) (h res t ki : Nat) (pa ma ex ie : Int32) (cB : ClassId) (k0 k1 k2 k3 k4 k5 : Nat) (k8 : Int32) (k6 k7 : Int64) (sz : Nat) : Met l y_Reader_readSignature w_Reader_readSignature ({ frames := 3, cells := 1, slots := 3, locals := 72 }) (mu_P [.ref h, .ref res, .int (nI 0)] (dC, dI) sb [(h, .inr (5, [.ref res, .int ie, .ref t, .int (nI 0), .int (nI 0), .int (wI (some 0)), .int pa, .int ma, .int ex, .ref ki])), (t, .inl (cB, 0, .inl (tx eU))), (res, .inr (2, [.ref k0, .ref k1, .ref k2, .ref k3, .ref k4, .ref k5, .long k6, .long k7, .int k8]))] [(cB, .byte)] sz) (va_Qv (fun (_u : Nat) => True) (mu_B (dC, dI) [(cB, .byte)] (va_A [(h, .inr (5, [.ref res, .int ie, .ref t, .int (nI 0), .int (nI 0), .int (wI (some 0)), .int pa, .int ma, .int ex, .ref ki])), (t, .inl (cB, 0, .inl (tx eU))), (res, .inr (2, [.ref k0, .ref k1, .ref k2, .ref k3, .ref k4, .ref k5, .long k6, .long k7, .int k8]))] sz) (fun u' : Nat => [(h, .inr (5, [.ref res, .int ie, .ref t, .int (nI 0), .int (nI 0), .int (wI (some 0)), .int pa, .int ma, .int ex, .ref ki])), (t, .inl (cB, 0, .inl (tx eU))), (res, .inr (2, [.ref k0, .ref k1, .ref k2, .ref k3, .ref u', .ref k5, .long k6, .long k7, .int k8]))])) (va_A [(h, .inr (5, [.ref res, .int ie, .ref t, .int (nI 0), .int (nI 0), .int (wI (some 0)), .int pa, .int ma, .int ex, .ref ki])), (t, .inl (cB, 0, .inl (tx eU))), (res, .inr (2, [.ref k0, .ref k1, .ref k2, .ref k3, .ref k4, .ref k5, .long k6, .long k7, .int k8]))] sz)) 1 3 (va_A [(h, .inr (5, [.ref res, .int ie, .ref t, .int (nI 0), .int (nI 0), .int (wI (some 0)), .int pa, .int ma, .int ex, .ref ki])), (t, .inl (cB, 0, .inl (tx eU))), (res, .inr (2, [.ref k0, .ref k1, .ref k2, .ref k3, .ref k4, .ref k5, .long k6, .long k7, .int k8]))] sz) := by
  refine Met.ofW (cc := b_Reader_readSignature) (maxL := 4) (ret := none) (by decide) rfl ?_
  intro p e s m args below meth c s₁ B hml hv
  obtain ⟨rfl, hsz, hB0, hP, hK, hD0, hN, hT0⟩ := hv
  have hx := B.exec
  have hb := B.bytes
  have hr := B.returns
  have hts := atoms_spec (ws := w_Reader_readSignature) B.pre
  have tbin : ∀ w ∈ tb, w ∈ w_Reader_readSignature := fun w h => List.mem_cons_of_mem _ h
  have htb : ∀ w ∈ tb, w.before _ s = true := fun w h => hts w (tbin w h)
  have hown : s.vm.findClass "TrustChain$Reader" = some m.cls := findClass_of_methodNamed B.named
  have hlocks := B.notSynchronized
  subst hsz
  have hD := hD0.self (sz := s.heap.size)
  generalize hAe : va_A [(h, .inr (5, [.ref res, .int ie, .ref t, .int (nI 0), .int (nI 0), .int (wI (some 0)), .int pa, .int ma, .int ex, .ref ki])), (t, .inl (cB, 0, .inl (tx eU))), (res, .inr (2, [.ref k0, .ref k1, .ref k2, .ref k3, .ref k4, .ref k5, .long k6, .long k7, .int k8]))] s.heap.size = A at hD ⊢
  have hA : ∀ q : Nat, s.heap.size ≤ q → A q := fun q h => by rw [← hAe]; exact Or.inr h
  have hAs : ∀ q : Nat, A q → sb.1 ≤ q := fun q h => by
    rw [← hAe] at h
    rcases h with ⟨k, e, h⟩ | h
    · exact hD0.2 k _ h
    · exact Nat.le_trans hB0 h
  have hS : va_S A s.heap s.heap [] := va_S.rf
  have hcs : 1 ≤ (headSpec w_Reader_readSignature ({ frames := 3, cells := 1, slots := 3, locals := 72 })).room.cells ∧ 3 ≤ (headSpec w_Reader_readSignature ({ frames := 3, cells := 1, slots := 3, locals := 72 })).room.slots := ⟨Nat.le_refl _, Nat.le_refl _⟩
  have hP : va_P (dC, dI) classes [(h, .inr (5, [.ref res, .int ie, .ref t, .int (nI 0), .int (nI 0), .int (wI (some 0)), .int pa, .int ma, .int ex, .ref ki])), (t, .inl (cB, 0, .inl (tx eU))), (res, .inr (2, [.ref k0, .ref k1, .ref k2, .ref k3, .ref k4, .ref k5, .long k6, .long k7, .int k8]))] s.heap := hP
  have hl := lv_entry ([.ref h, .ref res, .int (nI 0)]) (n := 4) (Nat.le_of_ble_eq_true rfl)
  rw [lg_entry_eq]
  generalize (lg_sl ([.ref h, .ref res, .int (nI 0)]) ++ List.replicate (4 - (lg_sl ([.ref h, .ref res, .int (nI 0)])).length) Slot.unset).toArray = ls at hl ⊢
  have hl : lv_has ls 4 [(0, .ref h), (1, .ref res), (2, .int (nI 0))] := hl
  refine lv_aload_n hx hb d_Reader_readSignature_0 rfl (lv_at hl 0 rfl) ?_
  refine lv_bipush (v := 11) hx hb d_Reader_readSignature_1 (by decide) ?_
  refine lv_iload_n hx hb d_Reader_readSignature_3 rfl (lv_at hl 2 rfl) ?_
  have hFc := va_free (wc := [(h, .inr (5, [.ref res, .int ie, .ref t, .int (nI 0), .int (nI 0), .int (wI (some 0)), .int pa, .int ma, .int ex, .ref ki])), (t, .inl (cB, 0, .inl (tx eU)))]) hD hS hA [0, 1] rfl
  refine va_callv (mu_runU (As := [.int 11, .int (nI 0)]) (rest := []) ⟨hx, hb, hml, hown, hts⟩ (cL_algorithm l dC dI sb h res t ki 0 (0, 0, (some 0)) pa ma ex ie cB eU 11 0 s.heap.size eU_lt (by decide) ei_0 (Nat.le_refl 0) (by decide)) (cu_of (n := 2) hts tbin q4_231 q9_213 q3_179 q9_215 q1_15 q3_180 rfl (by decide +kernel) ⟨rfl, rfl⟩ ⟨Nat.le_of_ble_eq_true rfl, Nat.le_of_ble_eq_true rfl⟩) rfl ⟨Nat.le_of_ble_eq_true rfl, Nat.le_of_ble_eq_true rfl⟩ hN (hT0.keep hS hAs) hAs (Nat.le_trans hB0 hS.1) hK hP hD [0, 1] (by decide) rfl [0] rfl 0 5 rfl rfl rfl hl.1 rfl (Nat.le_of_ble_eq_true rfl) d_Reader_readSignature_4) hS (fun q _ h => hFc q h) hFc (fun u4 tS H4 locs ht hvm hw4 hB hz1 hk1 hS => ?_)
  obtain ⟨x4, rfl⟩ : ∃ z, z = u4 := ⟨_, rfl⟩
  obtain ⟨hP1, hK1, hD1⟩ := hB
  rw [ht] at hP1
  obtain ⟨hP, hD⟩ := va_join (wr := [(res, .inr (2, [.ref k0, .ref k1, .ref k2, .ref k3, .ref k4, .ref k5, .long k6, .long k7, .int k8]))]) (w1 := [(h, .inr (5, [.ref res, .int ie, .ref t, .int (nI x4.1), .int (nI x4.2.1), .int (wI x4.2.2), .int pa, .int ma, .int ex, .ref ki])), (t, .inl (cB, 0, .inl (tx eU)))]) hP hD [0, 1] [2] rfl rfl (by decide) (by decide) hk1 hFc hP1 hD1
  have hP : va_P (dC, dI) classes [(res, .inr (2, [.ref k0, .ref k1, .ref k2, .ref k3, .ref k4, .ref k5, .long k6, .long k7, .int k8])), (h, .inr (5, [.ref res, .int ie, .ref t, .int (nI x4.1), .int (nI x4.2.1), .int (wI x4.2.2), .int pa, .int ma, .int ex, .ref ki])), (t, .inl (cB, 0, .inl (tx eU)))] H4 := hP
  have hD : va_D A [(res, .inr (2, [.ref k0, .ref k1, .ref k2, .ref k3, .ref k4, .ref k5, .long k6, .long k7, .int k8])), (h, .inr (5, [.ref res, .int ie, .ref t, .int (nI x4.1), .int (nI x4.2.1), .int (wI x4.2.2), .int pa, .int ma, .int ex, .ref ki])), (t, .inl (cB, 0, .inl (tx eU)))] := hD
  obtain rfl : x4 = ((0, 0, some 0) : rS) := hw4
  have hP : va_P (dC, dI) classes [(res, .inr (2, [.ref k0, .ref k1, .ref k2, .ref k3, .ref k4, .ref k5, .long k6, .long k7, .int k8])), (h, .inr (5, [.ref res, .int ie, .ref t, .int (nI 0), .int (nI 0), .int (wI (some 0)), .int pa, .int ma, .int ex, .ref ki])), (t, .inl (cB, 0, .inl (tx eU)))] H4 := hP
  have hD : va_D A [(res, .inr (2, [.ref k0, .ref k1, .ref k2, .ref k3, .ref k4, .ref k5, .long k6, .long k7, .int k8])), (h, .inr (5, [.ref res, .int ie, .ref t, .int (nI 0), .int (nI 0), .int (wI (some 0)), .int pa, .int ma, .int ex, .ref ki])), (t, .inl (cB, 0, .inl (tx eU)))] := hD
  refine lv_aload_n hx hb d_Reader_readSignature_7 rfl (lv_at hl 0 rfl) ?_
  refine lv_iload_n hx hb d_Reader_readSignature_8 rfl (lv_at hl 2 rfl) ?_
  have hFc := va_free (wc := [(h, .inr (5, [.ref res, .int ie, .ref t, .int (nI 0), .int (nI 0), .int (wI (some 0)), .int pa, .int ma, .int ex, .ref ki])), (t, .inl (cB, 0, .inl (tx eU)))]) hD hS hA [1, 2] rfl
  refine va_calli (mu_runU (As := [.int (nI 0)]) (rest := []) ⟨hx, hb, hml, hown, hts⟩ (cL_openBits l dC dI sb h res t ki 0 (0, 0, (some 0)) pa ma ex ie cB eU 0 H4.size eU_lt (by decide) ei_0 (Nat.le_refl 0)) (cu_of (n := 1) hts tbin q4_232 q9_216 q4_42 q9_218 q1_15 q4_43 rfl (by decide +kernel) ⟨rfl, rfl⟩ ⟨Nat.le_of_ble_eq_true rfl, Nat.le_of_ble_eq_true rfl⟩) rfl ⟨Nat.le_of_ble_eq_true rfl, Nat.le_of_ble_eq_true rfl⟩ hN (hT0.keep hS hAs) hAs (Nat.le_trans hB0 hS.1) hK hP hD [1, 2] (by decide) rfl [0] rfl 1 5 rfl rfl rfl hl.1 rfl (Nat.le_of_ble_eq_true rfl) d_Reader_readSignature_9) hS (fun q _ h => hFc q h) hFc (fun r9 u9 tS H9 locs ht hvm hw9 hB hz1 hk1 hS => ?_)
  obtain ⟨x9, rfl⟩ : ∃ z, z = u9 := ⟨_, rfl⟩
  obtain ⟨hP1, hK1, hD1⟩ := hB
  rw [ht] at hP1
  obtain ⟨hP, hD⟩ := va_join (wr := [(res, .inr (2, [.ref k0, .ref k1, .ref k2, .ref k3, .ref k4, .ref k5, .long k6, .long k7, .int k8]))]) (w1 := [(h, .inr (5, [.ref res, .int ie, .ref t, .int (nI x9.1), .int (nI x9.2.1), .int (wI x9.2.2), .int pa, .int ma, .int ex, .ref ki])), (t, .inl (cB, 0, .inl (tx eU)))]) hP hD [1, 2] [0] rfl rfl (by decide) (by decide) hk1 hFc hP1 hD1
  have hP : va_P (dC, dI) classes [(res, .inr (2, [.ref k0, .ref k1, .ref k2, .ref k3, .ref k4, .ref k5, .long k6, .long k7, .int k8])), (h, .inr (5, [.ref res, .int ie, .ref t, .int (nI x9.1), .int (nI x9.2.1), .int (wI x9.2.2), .int pa, .int ma, .int ex, .ref ki])), (t, .inl (cB, 0, .inl (tx eU)))] H9 := hP
  have hD : va_D A [(res, .inr (2, [.ref k0, .ref k1, .ref k2, .ref k3, .ref k4, .ref k5, .long k6, .long k7, .int k8])), (h, .inr (5, [.ref res, .int ie, .ref t, .int (nI x9.1), .int (nI x9.2.1), .int (wI x9.2.2), .int pa, .int ma, .int ex, .ref ki])), (t, .inl (cB, 0, .inl (tx eU)))] := hD
  obtain ⟨rfl, rfl⟩ : x9 = ((0, 0, some 0) : rS) ∧ r9 = nI 0 := hw9
  have hP : va_P (dC, dI) classes [(res, .inr (2, [.ref k0, .ref k1, .ref k2, .ref k3, .ref k4, .ref k5, .long k6, .long k7, .int k8])), (h, .inr (5, [.ref res, .int ie, .ref t, .int (nI 0), .int (nI 0), .int (wI (some 0)), .int pa, .int ma, .int ex, .ref ki])), (t, .inl (cB, 0, .inl (tx eU)))] H9 := hP
  have hD : va_D A [(res, .inr (2, [.ref k0, .ref k1, .ref k2, .ref k3, .ref k4, .ref k5, .long k6, .long k7, .int k8])), (h, .inr (5, [.ref res, .int ie, .ref t, .int (nI 0), .int (nI 0), .int (wI (some 0)), .int pa, .int ma, .int ex, .ref ki])), (t, .inl (cB, 0, .inl (tx eU)))] := hD
  refine lv_istore_n (lv' := [(3, .int (nI 0)), (0, .ref h), (1, .ref res), (2, .int (nI 0))]) hx hb d_Reader_readSignature_12 rfl hl (by decide) rfl (fun ls hl => ?_)
  refine lv_aload_n hx hb d_Reader_readSignature_13 rfl (lv_at hl 2 rfl) ?_
  refine va_new (ci := 0) (fs := [.null, .int 0, .int 0]) hx hb htb i_Slice t_Slice t_Slice_ok hown (htb _ q3_137) (htb _ q2_92) (htb _ q1_22) hK hP hD hS hA rfl (fun j hj => by rcases (show j = 0 ∨ j = 1 ∨ j = 2 by omega) with rfl | rfl | rfl <;> rfl) (Nat.le_of_ble_eq_true rfl) (Nat.le_of_ble_eq_true rfl) d_Reader_readSignature_14 (fun q14 H14 hP hD hS => ?_)
  have hP : va_P (dC, dI) classes [(res, .inr (2, [.ref k0, .ref k1, .ref k2, .ref k3, .ref k4, .ref k5, .long k6, .long k7, .int k8])), (h, .inr (5, [.ref res, .int ie, .ref t, .int (nI 0), .int (nI 0), .int (wI (some 0)), .int pa, .int ma, .int ex, .ref ki])), (t, .inl (cB, 0, .inl (tx eU))), (q14, .inr (0, [.null, .int 0, .int 0]))] H14 := hP
  have hD : va_D A [(res, .inr (2, [.ref k0, .ref k1, .ref k2, .ref k3, .ref k4, .ref k5, .long k6, .long k7, .int k8])), (h, .inr (5, [.ref res, .int ie, .ref t, .int (nI 0), .int (nI 0), .int (wI (some 0)), .int pa, .int ma, .int ex, .ref ki])), (t, .inl (cB, 0, .inl (tx eU))), (q14, .inr (0, [.null, .int 0, .int 0]))] := hD
  refine lv_dup hx hb d_Reader_readSignature_17 rfl ?_
  refine lv_aload_n hx hb d_Reader_readSignature_18 rfl (lv_at hl 1 rfl) ?_
  refine va_get (v := .ref t) hx hb htb i_ListReader hown hK hP 1 rfl rfl 2 (by decide) (htb _ q3_57) (fun _ h9 => h9) rfl d_Reader_readSignature_19 ?_
  refine lv_aload_n hx hb d_Reader_readSignature_22 rfl (lv_at hl 1 rfl) ?_
  refine va_get (v := .int (nI 0)) hx hb htb i_ListReader hown hK hP 1 rfl rfl 3 (by decide) (htb _ q3_62) (fun _ h9 => h9) rfl d_Reader_readSignature_23 ?_
  refine lv_iload_n hx hb d_Reader_readSignature_26 rfl (lv_at hl 0 rfl) ?_
  have hFc := va_free (wc := [(q14, .inr (0, [.null, .int 0, .int 0]))]) hD hS hA [3] rfl
  refine va_callv (mu_runI (As := [.ref t, .int (nI 0), .int (nI 0)]) (rest := [.ref q14, .ref res]) ⟨hx, hb, hml, hown, hts⟩ tbin (c_Slice_init l dC dI sb q14 t (nI 0) (nI 0) H14.size) q3_138 q2_94 q1_22 q2_95 rfl (n := 3) (by decide +kernel) rfl ⟨rfl, rfl⟩ ⟨Nat.le_of_ble_eq_true rfl, Nat.le_of_ble_eq_true rfl⟩ ⟨Nat.le_of_ble_eq_true rfl, Nat.le_of_ble_eq_true rfl⟩ hN (hT0.keep hS hAs) hAs (Nat.le_trans hB0 hS.1) hK hP hD [3] (by decide) rfl [] rfl hl.1 rfl (Nat.le_of_ble_eq_true rfl) d_Reader_readSignature_27) hS (fun q _ h => hFc q h) hFc (fun u27 tS H27 locs ht hvm hw27 hB hz1 hk1 hS => ?_)
  skip
  obtain ⟨hP1, hK1, hD1⟩ := hB
  rw [ht] at hP1
  obtain ⟨hP, hD⟩ := va_join (wr := [(res, .inr (2, [.ref k0, .ref k1, .ref k2, .ref k3, .ref k4, .ref k5, .long k6, .long k7, .int k8])), (h, .inr (5, [.ref res, .int ie, .ref t, .int (nI 0), .int (nI 0), .int (wI (some 0)), .int pa, .int ma, .int ex, .ref ki])), (t, .inl (cB, 0, .inl (tx eU)))]) (w1 := [(q14, .inr (0, [.ref t, .int (nI 0), .int (nI 0)]))]) hP hD [3] [0, 1, 2] rfl rfl (by decide) (by decide) hk1 hFc hP1 hD1
  have hP : va_P (dC, dI) classes [(res, .inr (2, [.ref k0, .ref k1, .ref k2, .ref k3, .ref k4, .ref k5, .long k6, .long k7, .int k8])), (h, .inr (5, [.ref res, .int ie, .ref t, .int (nI 0), .int (nI 0), .int (wI (some 0)), .int pa, .int ma, .int ex, .ref ki])), (t, .inl (cB, 0, .inl (tx eU))), (q14, .inr (0, [.ref t, .int (nI 0), .int (nI 0)]))] H27 := hP
  have hD : va_D A [(res, .inr (2, [.ref k0, .ref k1, .ref k2, .ref k3, .ref k4, .ref k5, .long k6, .long k7, .int k8])), (h, .inr (5, [.ref res, .int ie, .ref t, .int (nI 0), .int (nI 0), .int (wI (some 0)), .int pa, .int ma, .int ex, .ref ki])), (t, .inl (cB, 0, .inl (tx eU))), (q14, .inr (0, [.ref t, .int (nI 0), .int (nI 0)]))] := hD
  refine va_put (v := .ref q14) (ty := (.object "TrustChain$Slice")) hx hb htb i_Paper t_Paper t_Paper_ok n_Paper hown hK hP hD hS 0 rfl rfl 4 (by decide) (htb _ q2_210) (fun _ h9 => h9) rfl (by decide +kernel) rfl rfl (Nat.le_of_ble_eq_true rfl) d_Reader_readSignature_30 (fun H30 locs hP hD hS => ?_)
  have hP : va_P (dC, dI) classes [(res, .inr (2, [.ref k0, .ref k1, .ref k2, .ref k3, .ref q14, .ref k5, .long k6, .long k7, .int k8])), (h, .inr (5, [.ref res, .int ie, .ref t, .int (nI 0), .int (nI 0), .int (wI (some 0)), .int pa, .int ma, .int ex, .ref ki])), (t, .inl (cB, 0, .inl (tx eU))), (q14, .inr (0, [.ref t, .int (nI 0), .int (nI 0)]))] H30 := hP
  have hD : va_D A [(res, .inr (2, [.ref k0, .ref k1, .ref k2, .ref k3, .ref q14, .ref k5, .long k6, .long k7, .int k8])), (h, .inr (5, [.ref res, .int ie, .ref t, .int (nI 0), .int (nI 0), .int (wI (some 0)), .int pa, .int ma, .int ex, .ref ki])), (t, .inl (cB, 0, .inl (tx eU))), (q14, .inr (0, [.ref t, .int (nI 0), .int (nI 0)]))] := hD
  refine lv_aload_n hx hb d_Reader_readSignature_33 rfl (lv_at hl 1 rfl) ?_
  refine lv_iload_n hx hb d_Reader_readSignature_34 rfl (lv_at hl 0 rfl) ?_
  refine lv_iconst (v := 1) hx hb d_Reader_readSignature_35 (by decide) ?_
  have hFc := va_free (wc := [(h, .inr (5, [.ref res, .int ie, .ref t, .int (nI 0), .int (nI 0), .int (wI (some 0)), .int pa, .int ma, .int ex, .ref ki]))]) hD hS hA [1] rfl
  refine va_callv (mu_runU (As := [.int (nI 0), .int 1]) (rest := []) ⟨hx, hb, hml, hown, hts⟩ (cL_leave l dC dI sb h res t ki 0 0 0 (some 0) pa ma ex ie cB eU 0 1 H30.size ew_0) (cu_of (n := 2) hts tbin q3_131 q3_133 q3_132 q3_135 q1_15 q3_136 rfl (by decide +kernel) ⟨rfl, rfl⟩ ⟨Nat.le_of_ble_eq_true rfl, Nat.le_of_ble_eq_true rfl⟩) rfl ⟨Nat.le_of_ble_eq_true rfl, Nat.le_of_ble_eq_true rfl⟩ hN (hT0.keep hS hAs) hAs (Nat.le_trans hB0 hS.1) hK hP hD [1] (by decide) rfl [] rfl 1 5 rfl rfl rfl hl.1 rfl (Nat.le_of_ble_eq_true rfl) d_Reader_readSignature_36) hS (fun q _ h => hFc q h) hFc (fun u36 tS H36 locs ht hvm hw36 hB hz1 hk1 hS => ?_)
  obtain ⟨x36, rfl⟩ : ∃ z, z = u36 := ⟨_, rfl⟩
  obtain ⟨hP1, hK1, hD1⟩ := hB
  rw [ht] at hP1
  obtain ⟨hP, hD⟩ := va_join (wr := [(res, .inr (2, [.ref k0, .ref k1, .ref k2, .ref k3, .ref q14, .ref k5, .long k6, .long k7, .int k8])), (t, .inl (cB, 0, .inl (tx eU))), (q14, .inr (0, [.ref t, .int (nI 0), .int (nI 0)]))]) (w1 := [(h, .inr (5, [.ref res, .int ie, .ref t, .int (nI x36.1), .int (nI x36.2.1), .int (wI x36.2.2), .int pa, .int ma, .int ex, .ref ki]))]) hP hD [1] [0, 2, 3] rfl rfl (by decide) (by decide) hk1 hFc hP1 hD1
  have hP : va_P (dC, dI) classes [(res, .inr (2, [.ref k0, .ref k1, .ref k2, .ref k3, .ref q14, .ref k5, .long k6, .long k7, .int k8])), (t, .inl (cB, 0, .inl (tx eU))), (q14, .inr (0, [.ref t, .int (nI 0), .int (nI 0)])), (h, .inr (5, [.ref res, .int ie, .ref t, .int (nI x36.1), .int (nI x36.2.1), .int (wI x36.2.2), .int pa, .int ma, .int ex, .ref ki]))] H36 := hP
  have hD : va_D A [(res, .inr (2, [.ref k0, .ref k1, .ref k2, .ref k3, .ref q14, .ref k5, .long k6, .long k7, .int k8])), (t, .inl (cB, 0, .inl (tx eU))), (q14, .inr (0, [.ref t, .int (nI 0), .int (nI 0)])), (h, .inr (5, [.ref res, .int ie, .ref t, .int (nI x36.1), .int (nI x36.2.1), .int (wI x36.2.2), .int pa, .int ma, .int ex, .ref ki]))] := hD
  obtain rfl : x36 = ((0, 0, some 0) : rS) := hw36
  have hP : va_P (dC, dI) classes [(res, .inr (2, [.ref k0, .ref k1, .ref k2, .ref k3, .ref q14, .ref k5, .long k6, .long k7, .int k8])), (t, .inl (cB, 0, .inl (tx eU))), (q14, .inr (0, [.ref t, .int (nI 0), .int (nI 0)])), (h, .inr (5, [.ref res, .int ie, .ref t, .int (nI 0), .int (nI 0), .int (wI (some 0)), .int pa, .int ma, .int ex, .ref ki]))] H36 := hP
  have hD : va_D A [(res, .inr (2, [.ref k0, .ref k1, .ref k2, .ref k3, .ref q14, .ref k5, .long k6, .long k7, .int k8])), (t, .inl (cB, 0, .inl (tx eU))), (q14, .inr (0, [.ref t, .int (nI 0), .int (nI 0)])), (h, .inr (5, [.ref res, .int ie, .ref t, .int (nI 0), .int (nI 0), .int (wI (some 0)), .int pa, .int ma, .int ex, .ref ki]))] := hD
  refine lv_aload_n hx hb d_Reader_readSignature_39 rfl (lv_at hl 1 rfl) ?_
  refine lv_iload_n hx hb d_Reader_readSignature_40 rfl (lv_at hl 3 rfl) ?_
  have hFc := va_free (wc := [(h, .inr (5, [.ref res, .int ie, .ref t, .int (nI 0), .int (nI 0), .int (wI (some 0)), .int pa, .int ma, .int ex, .ref ki]))]) hD hS hA [3] rfl
  refine va_callv (mu_runU (As := [.int (nI 0)]) (rest := []) ⟨hx, hb, hml, hown, hts⟩ (cL_finish l dC dI sb h res t ki 0 0 0 (some 0) pa ma ex ie cB eU 0 H36.size ew_0 (by decide) (by decide)) (cu_of (n := 1) hts tbin q3_183 q9_201 q3_163 q9_203 q1_15 q3_164 rfl (by decide +kernel) ⟨rfl, rfl⟩ ⟨Nat.le_of_ble_eq_true rfl, Nat.le_of_ble_eq_true rfl⟩) rfl ⟨Nat.le_of_ble_eq_true rfl, Nat.le_of_ble_eq_true rfl⟩ hN (hT0.keep hS hAs) hAs (Nat.le_trans hB0 hS.1) hK hP hD [3] (by decide) rfl [] rfl 3 5 rfl rfl rfl hl.1 rfl (Nat.le_of_ble_eq_true rfl) d_Reader_readSignature_41) hS (fun q _ h => hFc q h) hFc (fun u41 tS H41 locs ht hvm hw41 hB hz1 hk1 hS => ?_)
  obtain ⟨x41, rfl⟩ : ∃ z, z = u41 := ⟨_, rfl⟩
  obtain ⟨hP1, hK1, hD1⟩ := hB
  rw [ht] at hP1
  obtain ⟨hP, hD⟩ := va_join (wr := [(res, .inr (2, [.ref k0, .ref k1, .ref k2, .ref k3, .ref q14, .ref k5, .long k6, .long k7, .int k8])), (t, .inl (cB, 0, .inl (tx eU))), (q14, .inr (0, [.ref t, .int (nI 0), .int (nI 0)]))]) (w1 := [(h, .inr (5, [.ref res, .int ie, .ref t, .int (nI x41.1), .int (nI x41.2.1), .int (wI x41.2.2), .int pa, .int ma, .int ex, .ref ki]))]) hP hD [3] [0, 1, 2] rfl rfl (by decide) (by decide) hk1 hFc hP1 hD1
  have hP : va_P (dC, dI) classes [(res, .inr (2, [.ref k0, .ref k1, .ref k2, .ref k3, .ref q14, .ref k5, .long k6, .long k7, .int k8])), (t, .inl (cB, 0, .inl (tx eU))), (q14, .inr (0, [.ref t, .int (nI 0), .int (nI 0)])), (h, .inr (5, [.ref res, .int ie, .ref t, .int (nI x41.1), .int (nI x41.2.1), .int (wI x41.2.2), .int pa, .int ma, .int ex, .ref ki]))] H41 := hP
  have hD : va_D A [(res, .inr (2, [.ref k0, .ref k1, .ref k2, .ref k3, .ref q14, .ref k5, .long k6, .long k7, .int k8])), (t, .inl (cB, 0, .inl (tx eU))), (q14, .inr (0, [.ref t, .int (nI 0), .int (nI 0)])), (h, .inr (5, [.ref res, .int ie, .ref t, .int (nI x41.1), .int (nI x41.2.1), .int (wI x41.2.2), .int pa, .int ma, .int ex, .ref ki]))] := hD
  obtain rfl : x41 = ((0, 0, some 0) : rS) := hw41
  have hP : va_P (dC, dI) classes [(res, .inr (2, [.ref k0, .ref k1, .ref k2, .ref k3, .ref q14, .ref k5, .long k6, .long k7, .int k8])), (t, .inl (cB, 0, .inl (tx eU))), (q14, .inr (0, [.ref t, .int (nI 0), .int (nI 0)])), (h, .inr (5, [.ref res, .int ie, .ref t, .int (nI 0), .int (nI 0), .int (wI (some 0)), .int pa, .int ma, .int ex, .ref ki]))] H41 := hP
  have hD : va_D A [(res, .inr (2, [.ref k0, .ref k1, .ref k2, .ref k3, .ref q14, .ref k5, .long k6, .long k7, .int k8])), (t, .inl (cB, 0, .inl (tx eU))), (q14, .inr (0, [.ref t, .int (nI 0), .int (nI 0)])), (h, .inr (5, [.ref res, .int ie, .ref t, .int (nI 0), .int (nI 0), .int (wI (some 0)), .int pa, .int ma, .int ex, .ref ki]))] := hD
  refine lv_aload_n hx hb d_Reader_readSignature_44 rfl (lv_at hl 1 rfl) ?_
  refine lv_aload_n hx hb d_Reader_readSignature_45 rfl (lv_at hl 1 rfl) ?_
  refine va_get (v := .ref t) hx hb htb i_ListReader hown hK hP 3 rfl rfl 2 (by decide) (htb _ q3_57) (fun _ h9 => h9) rfl d_Reader_readSignature_46 ?_
  refine va_alen (v := nI 0) hx hb hK hP 1 0 rfl rfl rfl d_Reader_readSignature_49 ?_
  have hFc := va_free (wc := [(h, .inr (5, [.ref res, .int ie, .ref t, .int (nI 0), .int (nI 0), .int (wI (some 0)), .int pa, .int ma, .int ex, .ref ki]))]) hD hS hA [3] rfl
  refine va_callv (mu_runU (As := [.int (nI 0)]) (rest := []) ⟨hx, hb, hml, hown, hts⟩ (cL_finish l dC dI sb h res t ki 0 0 0 (some 0) pa ma ex ie cB eU 0 H41.size ew_0 (by decide) (by decide)) (cu_of (n := 1) hts tbin q3_183 q9_201 q3_163 q9_203 q1_15 q3_164 rfl (by decide +kernel) ⟨rfl, rfl⟩ ⟨Nat.le_of_ble_eq_true rfl, Nat.le_of_ble_eq_true rfl⟩) rfl ⟨Nat.le_of_ble_eq_true rfl, Nat.le_of_ble_eq_true rfl⟩ hN (hT0.keep hS hAs) hAs (Nat.le_trans hB0 hS.1) hK hP hD [3] (by decide) rfl [] rfl 3 5 rfl rfl rfl hl.1 rfl (Nat.le_of_ble_eq_true rfl) d_Reader_readSignature_50) hS (fun q _ h => hFc q h) hFc (fun u50 tS H50 locs ht hvm hw50 hB hz1 hk1 hS => ?_)
  obtain ⟨x50, rfl⟩ : ∃ z, z = u50 := ⟨_, rfl⟩
  obtain ⟨hP1, hK1, hD1⟩ := hB
  rw [ht] at hP1
  obtain ⟨hP, hD⟩ := va_join (wr := [(res, .inr (2, [.ref k0, .ref k1, .ref k2, .ref k3, .ref q14, .ref k5, .long k6, .long k7, .int k8])), (t, .inl (cB, 0, .inl (tx eU))), (q14, .inr (0, [.ref t, .int (nI 0), .int (nI 0)]))]) (w1 := [(h, .inr (5, [.ref res, .int ie, .ref t, .int (nI x50.1), .int (nI x50.2.1), .int (wI x50.2.2), .int pa, .int ma, .int ex, .ref ki]))]) hP hD [3] [0, 1, 2] rfl rfl (by decide) (by decide) hk1 hFc hP1 hD1
  have hP : va_P (dC, dI) classes [(res, .inr (2, [.ref k0, .ref k1, .ref k2, .ref k3, .ref q14, .ref k5, .long k6, .long k7, .int k8])), (t, .inl (cB, 0, .inl (tx eU))), (q14, .inr (0, [.ref t, .int (nI 0), .int (nI 0)])), (h, .inr (5, [.ref res, .int ie, .ref t, .int (nI x50.1), .int (nI x50.2.1), .int (wI x50.2.2), .int pa, .int ma, .int ex, .ref ki]))] H50 := hP
  have hD : va_D A [(res, .inr (2, [.ref k0, .ref k1, .ref k2, .ref k3, .ref q14, .ref k5, .long k6, .long k7, .int k8])), (t, .inl (cB, 0, .inl (tx eU))), (q14, .inr (0, [.ref t, .int (nI 0), .int (nI 0)])), (h, .inr (5, [.ref res, .int ie, .ref t, .int (nI x50.1), .int (nI x50.2.1), .int (wI x50.2.2), .int pa, .int ma, .int ex, .ref ki]))] := hD
  obtain rfl : x50 = ((0, 0, some 0) : rS) := hw50
  have hP : va_P (dC, dI) classes [(res, .inr (2, [.ref k0, .ref k1, .ref k2, .ref k3, .ref q14, .ref k5, .long k6, .long k7, .int k8])), (t, .inl (cB, 0, .inl (tx eU))), (q14, .inr (0, [.ref t, .int (nI 0), .int (nI 0)])), (h, .inr (5, [.ref res, .int ie, .ref t, .int (nI 0), .int (nI 0), .int (wI (some 0)), .int pa, .int ma, .int ex, .ref ki]))] H50 := hP
  have hD : va_D A [(res, .inr (2, [.ref k0, .ref k1, .ref k2, .ref k3, .ref q14, .ref k5, .long k6, .long k7, .int k8])), (t, .inl (cB, 0, .inl (tx eU))), (q14, .inr (0, [.ref t, .int (nI 0), .int (nI 0)])), (h, .inr (5, [.ref res, .int ie, .ref t, .int (nI 0), .int (nI 0), .int (wI (some 0)), .int pa, .int ma, .int ex, .ref ki]))] := hD
  exact W.vret hx hb hr (fun t ht hW => ⟨⟨q14, rfl, trivial, by rw [ht]; exact hP.sub [3, 1, 0] rfl, va_K.moved hW.alike hK, hD.sub [3, 1, 0] (by decide) rfl⟩, hS.F ht⟩) hS.2.2 d_Reader_readSignature_53
def y_ListReader_readHead : MethodName := ⟨"TrustChain$ListReader", "readHead", "(I)V"⟩
abbrev b_ListReader_readHead : ByteArray := prog_4_method_3_code
def w_ListReader_readHead : List Cond := Cond.code y_ListReader_readHead b_ListReader_readHead 2 (none) :: tb
theorem d_ListReader_readHead_0 : decode b_ListReader_readHead 0 = .ok (.aload_n 0, 1) := by decide +kernel
theorem d_ListReader_readHead_1 : decode b_ListReader_readHead 1 = .ok (.aload_n 0, 1) := by decide +kernel
theorem d_ListReader_readHead_2 : decode b_ListReader_readHead 2 = .ok (.iconst 2, 1) := by decide +kernel
theorem d_ListReader_readHead_3 : decode b_ListReader_readHead 3 = .ok (.iload_n 1, 1) := by decide +kernel
theorem d_ListReader_readHead_4 : decode b_ListReader_readHead 4 = .ok (.invokevirtual 89, 3) := by decide +kernel
theorem d_ListReader_readHead_7 : decode b_ListReader_readHead 7 = .ok (.invokevirtual 93, 3) := by decide +kernel
theorem d_ListReader_readHead_10 : decode b_ListReader_readHead 10 = .ok (.lconst 1, 1) := by decide +kernel
theorem d_ListReader_readHead_11 : decode b_ListReader_readHead 11 = .ok (.lcmp, 1) := by decide +kernel
theorem d_ListReader_readHead_12 : decode b_ListReader_readHead 12 = .ok (.ifCond .ne 7, 3) := by decide +kernel
theorem d_ListReader_readHead_15 : decode b_ListReader_readHead 15 = .ok (.iconst 1, 1) := by decide +kernel
theorem d_ListReader_readHead_16 : decode b_ListReader_readHead 16 = .ok (.goto 4, 3) := by decide +kernel
theorem d_ListReader_readHead_19 : decode b_ListReader_readHead 19 = .ok (.iconst 0, 1) := by decide +kernel
theorem d_ListReader_readHead_20 : decode b_ListReader_readHead 20 = .ok (.invokevirtual 96, 3) := by decide +kernel
theorem d_ListReader_readHead_23 : decode b_ListReader_readHead 23 = .ok (.aload_n 0, 1) := by decide +kernel
theorem d_ListReader_readHead_24 : decode b_ListReader_readHead 24 = .ok (.bipush 11, 2) := by decide +kernel
theorem d_ListReader_readHead_26 : decode b_ListReader_readHead 26 = .ok (.iload_n 1, 1) := by decide +kernel
theorem d_ListReader_readHead_27 : decode b_ListReader_readHead 27 = .ok (.invokevirtual 100, 3) := by decide +kernel
theorem d_ListReader_readHead_30 : decode b_ListReader_readHead 30 = .ok (.aload_n 0, 1) := by decide +kernel
theorem d_ListReader_readHead_31 : decode b_ListReader_readHead 31 = .ok (.getfield 25, 3) := by decide +kernel
theorem d_ListReader_readHead_34 : decode b_ListReader_readHead 34 = .ok (.aload_n 0, 1) := by decide +kernel
theorem d_ListReader_readHead_35 : decode b_ListReader_readHead 35 = .ok (.iload_n 1, 1) := by decide +kernel
theorem d_ListReader_readHead_36 : decode b_ListReader_readHead 36 = .ok (.invokevirtual 104, 3) := by decide +kernel
theorem d_ListReader_readHead_39 : decode b_ListReader_readHead 39 = .ok (.putfield 107, 3) := by decide +kernel
theorem d_ListReader_readHead_42 : decode b_ListReader_readHead 42 = .ok (.aload_n 0, 1) := by decide +kernel
theorem d_ListReader_readHead_43 : decode b_ListReader_readHead 43 = .ok (.getfield 25, 3) := by decide +kernel
theorem d_ListReader_readHead_46 : decode b_ListReader_readHead 46 = .ok (.aload_n 0, 1) := by decide +kernel
theorem d_ListReader_readHead_47 : decode b_ListReader_readHead 47 = .ok (.iload_n 1, 1) := by decide +kernel
theorem d_ListReader_readHead_48 : decode b_ListReader_readHead 48 = .ok (.invokevirtual 63, 3) := by decide +kernel
theorem d_ListReader_readHead_51 : decode b_ListReader_readHead 51 = .ok (.putfield 110, 3) := by decide +kernel
theorem d_ListReader_readHead_54 : decode b_ListReader_readHead 54 = .ok (.aload_n 0, 1) := by decide +kernel
theorem d_ListReader_readHead_55 : decode b_ListReader_readHead 55 = .ok (.getfield 25, 3) := by decide +kernel
theorem d_ListReader_readHead_58 : decode b_ListReader_readHead 58 = .ok (.aload_n 0, 1) := by decide +kernel
theorem d_ListReader_readHead_59 : decode b_ListReader_readHead 59 = .ok (.iload_n 1, 1) := by decide +kernel
theorem d_ListReader_readHead_60 : decode b_ListReader_readHead 60 = .ok (.invokevirtual 63, 3) := by decide +kernel
theorem d_ListReader_readHead_63 : decode b_ListReader_readHead 63 = .ok (.putfield 114, 3) := by decide +kernel
theorem d_ListReader_readHead_66 : decode b_ListReader_readHead 66 = .ok (.return_, 1) := by decide +kernel
set_option maxHeartbeats 4000000 in
set_option maxRecDepth 100000 in
theorem eL_readHead (l : Launch) (dC : Nat → ClassId) (dI : Nat → Nat → Nat) (sb : sB) (h res t ki : Nat) (pa ma ex ie : Int32) (cB : ClassId) (k0 k1 k2 k3 k4 k5 : Nat) (k8 : Int32) (k6 k7 : Int64) (sz : Nat) : Met l y_ListReader_readHead w_ListReader_readHead ({ frames := 4, cells := 2, slots := 6, locals := 99 }) (mu_P [.ref h, .int (nI 0)] (dC, dI) sb [(h, .inr (5, [.ref res, .int ie, .ref t, .int (nI 0), .int (nI 0), .int (wI (some 0)), .int pa, .int ma, .int ex, .ref ki])), (t, .inl (cB, 0, .inl (tx eU))), (res, .inr (2, [.ref k0, .ref k1, .ref k2, .ref k3, .ref k4, .ref k5, .long k6, .long k7, .int k8]))] [(cB, .byte)] sz) (va_Qv (fun (_u : Nat × Int64 × Int64) => True) (mu_B (dC, dI) [(cB, .byte)] (va_A [(h, .inr (5, [.ref res, .int ie, .ref t, .int (nI 0), .int (nI 0), .int (wI (some 0)), .int pa, .int ma, .int ex, .ref ki])), (t, .inl (cB, 0, .inl (tx eU))), (res, .inr (2, [.ref k0, .ref k1, .ref k2, .ref k3, .ref k4, .ref k5, .long k6, .long k7, .int k8]))] sz) (fun u' : Nat × Int64 × Int64 => [(h, .inr (5, [.ref res, .int ie, .ref t, .int (nI 0), .int (nI 0), .int (wI (some 0)), .int 0, .int ma, .int ex, .ref ki])), (t, .inl (cB, 0, .inl (tx eU))), (res, .inr (2, [.ref k0, .ref k1, .ref k2, .ref k3, .ref k4, .ref u'.1, .long u'.2.1, .long u'.2.2, .int k8]))])) (va_A [(h, .inr (5, [.ref res, .int ie, .ref t, .int (nI 0), .int (nI 0), .int (wI (some 0)), .int pa, .int ma, .int ex, .ref ki])), (t, .inl (cB, 0, .inl (tx eU))), (res, .inr (2, [.ref k0, .ref k1, .ref k2, .ref k3, .ref k4, .ref k5, .long k6, .long k7, .int k8]))] sz)) 2 6 (va_A [(h, .inr (5, [.ref res, .int ie, .ref t, .int (nI 0), .int (nI 0), .int (wI (some 0)), .int pa, .int ma, .int ex, .ref ki])), (t, .inl (cB, 0, .inl (tx eU))), (res, .inr (2, [.ref k0, .ref k1, .ref k2, .ref k3, .ref k4, .ref k5, .long k6, .long k7, .int k8]))] sz) := by
  refine Met.ofW (cc := b_ListReader_readHead) (maxL := 2) (ret := none) (by decide) rfl ?_
  intro p e s m args below meth c s₁ B hml hv
  obtain ⟨rfl, hsz, hB0, hP, hK, hD0, hN, hT0⟩ := hv
  have hx := B.exec
  have hb := B.bytes
  have hr := B.returns
  have hts := atoms_spec (ws := w_ListReader_readHead) B.pre
  have tbin : ∀ w ∈ tb, w ∈ w_ListReader_readHead := fun w h => List.mem_cons_of_mem _ h
  have htb : ∀ w ∈ tb, w.before _ s = true := fun w h => hts w (tbin w h)
  have hown : s.vm.findClass "TrustChain$ListReader" = some m.cls := findClass_of_methodNamed B.named
  have hlocks := B.notSynchronized
  subst hsz
  have hD := hD0.self (sz := s.heap.size)
  generalize hAe : va_A [(h, .inr (5, [.ref res, .int ie, .ref t, .int (nI 0), .int (nI 0), .int (wI (some 0)), .int pa, .int ma, .int ex, .ref ki])), (t, .inl (cB, 0, .inl (tx eU))), (res, .inr (2, [.ref k0, .ref k1, .ref k2, .ref k3, .ref k4, .ref k5, .long k6, .long k7, .int k8]))] s.heap.size = A at hD ⊢
  have hA : ∀ q : Nat, s.heap.size ≤ q → A q := fun q h => by rw [← hAe]; exact Or.inr h
  have hAs : ∀ q : Nat, A q → sb.1 ≤ q := fun q h => by
    rw [← hAe] at h
    rcases h with ⟨k, e, h⟩ | h
    · exact hD0.2 k _ h
    · exact Nat.le_trans hB0 h
  have hS : va_S A s.heap s.heap [] := va_S.rf
  have hcs : 2 ≤ (headSpec w_ListReader_readHead ({ frames := 4, cells := 2, slots := 6, locals := 99 })).room.cells ∧ 6 ≤ (headSpec w_ListReader_readHead ({ frames := 4, cells := 2, slots := 6, locals := 99 })).room.slots := ⟨Nat.le_refl _, Nat.le_refl _⟩
  have hP : va_P (dC, dI) classes [(h, .inr (5, [.ref res, .int ie, .ref t, .int (nI 0), .int (nI 0), .int (wI (some 0)), .int pa, .int ma, .int ex, .ref ki])), (t, .inl (cB, 0, .inl (tx eU))), (res, .inr (2, [.ref k0, .ref k1, .ref k2, .ref k3, .ref k4, .ref k5, .long k6, .long k7, .int k8]))] s.heap := hP
  have hl := lv_entry ([.ref h, .int (nI 0)]) (n := 2) (Nat.le_of_ble_eq_true rfl)
  rw [lg_entry_eq]
  generalize (lg_sl ([.ref h, .int (nI 0)]) ++ List.replicate (2 - (lg_sl ([.ref h, .int (nI 0)])).length) Slot.unset).toArray = ls at hl ⊢
  have hl : lv_has ls 2 [(0, .ref h), (1, .int (nI 0))] := hl
  refine lv_aload_n hx hb d_ListReader_readHead_0 rfl (lv_at hl 0 rfl) ?_
  refine lv_aload_n hx hb d_ListReader_readHead_1 rfl (lv_at hl 0 rfl) ?_
  refine lv_iconst (v := 2) hx hb d_ListReader_readHead_2 (by decide) ?_
  refine lv_iload_n hx hb d_ListReader_readHead_3 rfl (lv_at hl 1 rfl) ?_
  have hFc := va_free (wc := [(h, .inr (5, [.ref res, .int ie, .ref t, .int (nI 0), .int (nI 0), .int (wI (some 0)), .int pa, .int ma, .int ex, .ref ki])), (t, .inl (cB, 0, .inl (tx eU)))]) hD hS hA [0, 1] rfl
  refine va_callr (mu_runU (As := [.int 2, .int (nI 0)]) (rest := [.ref h]) ⟨hx, hb, hml, hown, hts⟩ (cL_number l dC dI sb h res t ki 0 (0, 0, (some 0)) pa ma ex ie cB eU 2 0 s.heap.size eU_lt (by decide) ei_0 (Nat.le_refl 0) (by decide)) (cu_of (n := 2) hts tbin q4_190 q4_191 q3_128 q4_192 q1_15 q3_129 rfl (by decide +kernel) ⟨rfl, rfl⟩ ⟨Nat.le_of_ble_eq_true rfl, Nat.le_of_ble_eq_true rfl⟩) rfl ⟨Nat.le_of_ble_eq_true rfl, Nat.le_of_ble_eq_true rfl⟩ hN (hT0.keep hS hAs) hAs (Nat.le_trans hB0 hS.1) hK hP hD [0, 1] (by decide) rfl [0] rfl 0 5 rfl rfl rfl hl.1 rfl (Nat.le_of_ble_eq_true rfl) d_ListReader_readHead_4) hS (fun q _ h => hFc q h) hFc (fun u4 q4 tS H4 locs ht hvm hw4 hB hz1 hk1 hS => ?_)
  obtain ⟨x4, rfl⟩ : ∃ z, z = u4 := ⟨_, rfl⟩
  obtain ⟨hP1, hK1, hD1⟩ := hB
  rw [ht] at hP1
  obtain ⟨hP, hD⟩ := va_join (wr := [(res, .inr (2, [.ref k0, .ref k1, .ref k2, .ref k3, .ref k4, .ref k5, .long k6, .long k7, .int k8]))]) (w1 := [(h, .inr (5, [.ref res, .int ie, .ref t, .int (nI x4.1), .int (nI x4.2.1), .int (wI x4.2.2), .int pa, .int ma, .int ex, .ref ki])), (t, .inl (cB, 0, .inl (tx eU))), (q4, .inr (0, [.ref t, .int (nI (rd_nm eU 0 (0, 0, (some 0)) 2 0).2.1), .int (nI (rd_nm eU 0 (0, 0, (some 0)) 2 0).2.2)]))]) hP hD [0, 1] [2] rfl rfl (by decide) (by decide) hk1 hFc hP1 hD1
  have hP : va_P (dC, dI) classes [(res, .inr (2, [.ref k0, .ref k1, .ref k2, .ref k3, .ref k4, .ref k5, .long k6, .long k7, .int k8])), (h, .inr (5, [.ref res, .int ie, .ref t, .int (nI x4.1), .int (nI x4.2.1), .int (wI x4.2.2), .int pa, .int ma, .int ex, .ref ki])), (t, .inl (cB, 0, .inl (tx eU))), (q4, .inr (0, [.ref t, .int (nI (rd_nm eU 0 (0, 0, (some 0)) 2 0).2.1), .int (nI (rd_nm eU 0 (0, 0, (some 0)) 2 0).2.2)]))] H4 := hP
  have hD : va_D A [(res, .inr (2, [.ref k0, .ref k1, .ref k2, .ref k3, .ref k4, .ref k5, .long k6, .long k7, .int k8])), (h, .inr (5, [.ref res, .int ie, .ref t, .int (nI x4.1), .int (nI x4.2.1), .int (wI x4.2.2), .int pa, .int ma, .int ex, .ref ki])), (t, .inl (cB, 0, .inl (tx eU))), (q4, .inr (0, [.ref t, .int (nI (rd_nm eU 0 (0, 0, (some 0)) 2 0).2.1), .int (nI (rd_nm eU 0 (0, 0, (some 0)) 2 0).2.2)]))] := hD
  obtain rfl : x4 = ((0, 0, some 0) : rS) := hw4
  have hP : va_P (dC, dI) classes [(res, .inr (2, [.ref k0, .ref k1, .ref k2, .ref k3, .ref k4, .ref k5, .long k6, .long k7, .int k8])), (h, .inr (5, [.ref res, .int ie, .ref t, .int (nI 0), .int (nI 0), .int (wI (some 0)), .int pa, .int ma, .int ex, .ref ki])), (t, .inl (cB, 0, .inl (tx eU))), (q4, .inr (0, [.ref t, .int (nI 0), .int (nI 0)]))] H4 := hP
  have hD : va_D A [(res, .inr (2, [.ref k0, .ref k1, .ref k2, .ref k3, .ref k4, .ref k5, .long k6, .long k7, .int k8])), (h, .inr (5, [.ref res, .int ie, .ref t, .int (nI 0), .int (nI 0), .int (wI (some 0)), .int pa, .int ma, .int ex, .ref ki])), (t, .inl (cB, 0, .inl (tx eU))), (q4, .inr (0, [.ref t, .int (nI 0), .int (nI 0)]))] := hD
  refine vp_callSl (pu_callV (As := []) (rest := [.ref h]) ⟨hx, hb, hml, hown, hts⟩ tbin (c_Slice_number l dC dI sb q4 t 0 0 0 cB eU eU_lt (Nat.le_refl 0) (Nat.le_refl 0) (by decide)) q4_193 q3_140 q3_141 q1_22 q3_142 (n := 0) (by decide +kernel) rfl ⟨rfl, rfl⟩ ⟨Nat.le_of_ble_eq_true rfl, Nat.le_of_ble_eq_true rfl⟩ ⟨Nat.le_of_ble_eq_true rfl, Nat.le_of_ble_eq_true rfl⟩ hN (hT0.keep hS hAs) hK hP [3, 2] rfl [0] rfl 3 0 rfl rfl rfl hl.1 rfl (Nat.le_of_ble_eq_true rfl) d_ListReader_readHead_7) (fun r7 hr7 => ?_)
  refine lv_lconst (v := 1) hx hb d_ListReader_readHead_10 (by decide) ?_
  refine W.lcmp hx hb d_ListReader_readHead_11 ?_
  refine w_join (J := fun jv12 => bz jv12 (jv12 = 1)) (pc := 20) (ls := ls) (rest := [.ref h]) (fun jv12 hjv12 => ?_) (fun k20 => ?_)
  · skip
    have hFc := va_free (wc := [(h, .inr (5, [.ref res, .int ie, .ref t, .int (nI 0), .int (nI 0), .int (wI (some 0)), .int pa, .int ma, .int ex, .ref ki]))]) hD hS hA [1] rfl
    refine va_callv (mu_runU (As := [.int jv12]) (rest := []) ⟨hx, hb, hml, hown, hts⟩ (cL_require l dC dI sb h res t ki 0 0 0 (some 0) pa ma ex ie cB eU jv12 H4.size ew_0) (cu_of (n := 1) hts tbin q4_196 q4_197 q3_157 q4_198 q1_15 q3_158 rfl (by decide +kernel) ⟨rfl, rfl⟩ ⟨Nat.le_of_ble_eq_true rfl, Nat.le_of_ble_eq_true rfl⟩) rfl ⟨Nat.le_of_ble_eq_true rfl, Nat.le_of_ble_eq_true rfl⟩ hN (hT0.keep hS hAs) hAs (Nat.le_trans hB0 hS.1) hK hP hD [1] (by decide) rfl [] rfl 1 5 rfl rfl rfl hl.1 rfl (Nat.le_of_ble_eq_true rfl) d_ListReader_readHead_20) hS (fun q _ h => hFc q h) hFc (fun u20 tS H20 locs ht hvm hw20 hB hz1 hk1 hS => ?_)
    obtain ⟨x20, rfl⟩ : ∃ z, z = u20 := ⟨_, rfl⟩
    obtain ⟨hP1, hK1, hD1⟩ := hB
    rw [ht] at hP1
    obtain ⟨hP, hD⟩ := va_join (wr := [(res, .inr (2, [.ref k0, .ref k1, .ref k2, .ref k3, .ref k4, .ref k5, .long k6, .long k7, .int k8])), (t, .inl (cB, 0, .inl (tx eU))), (q4, .inr (0, [.ref t, .int (nI 0), .int (nI 0)]))]) (w1 := [(h, .inr (5, [.ref res, .int ie, .ref t, .int (nI x20.1), .int (nI x20.2.1), .int (wI x20.2.2), .int pa, .int ma, .int ex, .ref ki]))]) hP hD [1] [0, 2, 3] rfl rfl (by decide) (by decide) hk1 hFc hP1 hD1
    have hP : va_P (dC, dI) classes [(res, .inr (2, [.ref k0, .ref k1, .ref k2, .ref k3, .ref k4, .ref k5, .long k6, .long k7, .int k8])), (t, .inl (cB, 0, .inl (tx eU))), (q4, .inr (0, [.ref t, .int (nI 0), .int (nI 0)])), (h, .inr (5, [.ref res, .int ie, .ref t, .int (nI x20.1), .int (nI x20.2.1), .int (wI x20.2.2), .int pa, .int ma, .int ex, .ref ki]))] H20 := hP
    have hD : va_D A [(res, .inr (2, [.ref k0, .ref k1, .ref k2, .ref k3, .ref k4, .ref k5, .long k6, .long k7, .int k8])), (t, .inl (cB, 0, .inl (tx eU))), (q4, .inr (0, [.ref t, .int (nI 0), .int (nI 0)])), (h, .inr (5, [.ref res, .int ie, .ref t, .int (nI x20.1), .int (nI x20.2.1), .int (wI x20.2.2), .int pa, .int ma, .int ex, .ref ki]))] := hD
    obtain rfl : x20 = ((0, 0, some 0) : rS) := hw20
    have hP : va_P (dC, dI) classes [(res, .inr (2, [.ref k0, .ref k1, .ref k2, .ref k3, .ref k4, .ref k5, .long k6, .long k7, .int k8])), (t, .inl (cB, 0, .inl (tx eU))), (q4, .inr (0, [.ref t, .int (nI 0), .int (nI 0)])), (h, .inr (5, [.ref res, .int ie, .ref t, .int (nI 0), .int (nI 0), .int (wI (some 0)), .int pa, .int ma, .int ex, .ref ki]))] H20 := hP
    have hD : va_D A [(res, .inr (2, [.ref k0, .ref k1, .ref k2, .ref k3, .ref k4, .ref k5, .long k6, .long k7, .int k8])), (t, .inl (cB, 0, .inl (tx eU))), (q4, .inr (0, [.ref t, .int (nI 0), .int (nI 0)])), (h, .inr (5, [.ref res, .int ie, .ref t, .int (nI 0), .int (nI 0), .int (wI (some 0)), .int pa, .int ma, .int ex, .ref ki]))] := hD
    refine lv_aload_n hx hb d_ListReader_readHead_23 rfl (lv_at hl 0 rfl) ?_
    refine lv_bipush (v := 11) hx hb d_ListReader_readHead_24 (by decide) ?_
    refine lv_iload_n hx hb d_ListReader_readHead_26 rfl (lv_at hl 1 rfl) ?_
    have hFc := va_free (wc := [(h, .inr (5, [.ref res, .int ie, .ref t, .int (nI 0), .int (nI 0), .int (wI (some 0)), .int pa, .int ma, .int ex, .ref ki])), (t, .inl (cB, 0, .inl (tx eU)))]) hD hS hA [3, 1] rfl
    refine va_callv (mu_runU (As := [.int 11, .int (nI 0)]) (rest := []) ⟨hx, hb, hml, hown, hts⟩ (cL_algorithm l dC dI sb h res t ki 0 (0, 0, (some 0)) pa ma ex ie cB eU 11 0 H20.size eU_lt (by decide) ei_0 (Nat.le_refl 0) (by decide)) (cu_of (n := 2) hts tbin q5_102 q5_103 q3_179 q5_104 q1_15 q3_180 rfl (by decide +kernel) ⟨rfl, rfl⟩ ⟨Nat.le_of_ble_eq_true rfl, Nat.le_of_ble_eq_true rfl⟩) rfl ⟨Nat.le_of_ble_eq_true rfl, Nat.le_of_ble_eq_true rfl⟩ hN (hT0.keep hS hAs) hAs (Nat.le_trans hB0 hS.1) hK hP hD [3, 1] (by decide) rfl [0] rfl 3 5 rfl rfl rfl hl.1 rfl (Nat.le_of_ble_eq_true rfl) d_ListReader_readHead_27) hS (fun q _ h => hFc q h) hFc (fun u27 tS H27 locs ht hvm hw27 hB hz1 hk1 hS => ?_)
    obtain ⟨x27, rfl⟩ : ∃ z, z = u27 := ⟨_, rfl⟩
    obtain ⟨hP1, hK1, hD1⟩ := hB
    rw [ht] at hP1
    obtain ⟨hP, hD⟩ := va_join (wr := [(res, .inr (2, [.ref k0, .ref k1, .ref k2, .ref k3, .ref k4, .ref k5, .long k6, .long k7, .int k8])), (q4, .inr (0, [.ref t, .int (nI 0), .int (nI 0)]))]) (w1 := [(h, .inr (5, [.ref res, .int ie, .ref t, .int (nI x27.1), .int (nI x27.2.1), .int (wI x27.2.2), .int pa, .int ma, .int ex, .ref ki])), (t, .inl (cB, 0, .inl (tx eU)))]) hP hD [3, 1] [0, 2] rfl rfl (by decide) (by decide) hk1 hFc hP1 hD1
    have hP : va_P (dC, dI) classes [(res, .inr (2, [.ref k0, .ref k1, .ref k2, .ref k3, .ref k4, .ref k5, .long k6, .long k7, .int k8])), (q4, .inr (0, [.ref t, .int (nI 0), .int (nI 0)])), (h, .inr (5, [.ref res, .int ie, .ref t, .int (nI x27.1), .int (nI x27.2.1), .int (wI x27.2.2), .int pa, .int ma, .int ex, .ref ki])), (t, .inl (cB, 0, .inl (tx eU)))] H27 := hP
    have hD : va_D A [(res, .inr (2, [.ref k0, .ref k1, .ref k2, .ref k3, .ref k4, .ref k5, .long k6, .long k7, .int k8])), (q4, .inr (0, [.ref t, .int (nI 0), .int (nI 0)])), (h, .inr (5, [.ref res, .int ie, .ref t, .int (nI x27.1), .int (nI x27.2.1), .int (wI x27.2.2), .int pa, .int ma, .int ex, .ref ki])), (t, .inl (cB, 0, .inl (tx eU)))] := hD
    obtain rfl : x27 = ((0, 0, some 0) : rS) := hw27
    have hP : va_P (dC, dI) classes [(res, .inr (2, [.ref k0, .ref k1, .ref k2, .ref k3, .ref k4, .ref k5, .long k6, .long k7, .int k8])), (q4, .inr (0, [.ref t, .int (nI 0), .int (nI 0)])), (h, .inr (5, [.ref res, .int ie, .ref t, .int (nI 0), .int (nI 0), .int (wI (some 0)), .int pa, .int ma, .int ex, .ref ki])), (t, .inl (cB, 0, .inl (tx eU)))] H27 := hP
    have hD : va_D A [(res, .inr (2, [.ref k0, .ref k1, .ref k2, .ref k3, .ref k4, .ref k5, .long k6, .long k7, .int k8])), (q4, .inr (0, [.ref t, .int (nI 0), .int (nI 0)])), (h, .inr (5, [.ref res, .int ie, .ref t, .int (nI 0), .int (nI 0), .int (wI (some 0)), .int pa, .int ma, .int ex, .ref ki])), (t, .inl (cB, 0, .inl (tx eU)))] := hD
    refine lv_aload_n hx hb d_ListReader_readHead_30 rfl (lv_at hl 0 rfl) ?_
    refine va_get (v := .ref res) hx hb htb i_ListReader hown hK hP 2 rfl rfl 0 (by decide) (htb _ q5_75) (fun _ h9 => h9) rfl d_ListReader_readHead_31 ?_
    refine lv_aload_n hx hb d_ListReader_readHead_34 rfl (lv_at hl 0 rfl) ?_
    refine lv_iload_n hx hb d_ListReader_readHead_35 rfl (lv_at hl 1 rfl) ?_
    have hFc := va_free (wc := [(h, .inr (5, [.ref res, .int ie, .ref t, .int (nI 0), .int (nI 0), .int (wI (some 0)), .int pa, .int ma, .int ex, .ref ki])), (t, .inl (cB, 0, .inl (tx eU)))]) hD hS hA [2, 3] rfl
    refine va_callr (mu_runU (As := [.int (nI 0)]) (rest := [.ref res]) ⟨hx, hb, hml, hown, hts⟩ (eL_fullName l dC dI sb h res t ki pa ma ex ie cB H27.size) (cu_of (n := 1) hts tbin q5_105 q5_106 q3_188 q5_107 q1_15 q3_189 rfl (by decide +kernel) ⟨rfl, rfl⟩ ⟨Nat.le_of_ble_eq_true rfl, Nat.le_of_ble_eq_true rfl⟩) rfl ⟨Nat.le_of_ble_eq_true rfl, Nat.le_of_ble_eq_true rfl⟩ hN (hT0.keep hS hAs) hAs (Nat.le_trans hB0 hS.1) hK hP hD [2, 3] (by decide) rfl [0] rfl 2 5 rfl rfl rfl hl.1 rfl (Nat.le_of_ble_eq_true rfl) d_ListReader_readHead_36) hS (fun q _ h => hFc q h) hFc (fun u36 q36 tS H36 locs ht hvm hw36 hB hz1 hk1 hS => ?_)
    skip
    obtain ⟨hP1, hK1, hD1⟩ := hB
    rw [ht] at hP1
    obtain ⟨hP, hD⟩ := va_join (wr := [(res, .inr (2, [.ref k0, .ref k1, .ref k2, .ref k3, .ref k4, .ref k5, .long k6, .long k7, .int k8])), (q4, .inr (0, [.ref t, .int (nI 0), .int (nI 0)]))]) (w1 := [(h, .inr (5, [.ref res, .int ie, .ref t, .int (nI 0), .int (nI 0), .int (wI (some 0)), .int 0, .int ma, .int ex, .ref ki])), (t, .inl (cB, 0, .inl (tx eU))), (q36, .inr (0, [.ref t, .int (nI 0), .int (nI 0)]))]) hP hD [2, 3] [0, 1] rfl rfl (by decide) (by decide) hk1 hFc hP1 hD1
    have hP : va_P (dC, dI) classes [(res, .inr (2, [.ref k0, .ref k1, .ref k2, .ref k3, .ref k4, .ref k5, .long k6, .long k7, .int k8])), (q4, .inr (0, [.ref t, .int (nI 0), .int (nI 0)])), (h, .inr (5, [.ref res, .int ie, .ref t, .int (nI 0), .int (nI 0), .int (wI (some 0)), .int 0, .int ma, .int ex, .ref ki])), (t, .inl (cB, 0, .inl (tx eU))), (q36, .inr (0, [.ref t, .int (nI 0), .int (nI 0)]))] H36 := hP
    have hD : va_D A [(res, .inr (2, [.ref k0, .ref k1, .ref k2, .ref k3, .ref k4, .ref k5, .long k6, .long k7, .int k8])), (q4, .inr (0, [.ref t, .int (nI 0), .int (nI 0)])), (h, .inr (5, [.ref res, .int ie, .ref t, .int (nI 0), .int (nI 0), .int (wI (some 0)), .int 0, .int ma, .int ex, .ref ki])), (t, .inl (cB, 0, .inl (tx eU))), (q36, .inr (0, [.ref t, .int (nI 0), .int (nI 0)]))] := hD
    refine va_put (v := .ref q36) (ty := (.object "TrustChain$Slice")) hx hb htb i_Paper t_Paper t_Paper_ok n_Paper hown hK hP hD hS 0 rfl rfl 5 (by decide) (htb _ q2_214) (fun _ h9 => h9) rfl (by decide +kernel) rfl rfl (Nat.le_of_ble_eq_true rfl) d_ListReader_readHead_39 (fun H39 locs hP hD hS => ?_)
    have hP : va_P (dC, dI) classes [(res, .inr (2, [.ref k0, .ref k1, .ref k2, .ref k3, .ref k4, .ref q36, .long k6, .long k7, .int k8])), (q4, .inr (0, [.ref t, .int (nI 0), .int (nI 0)])), (h, .inr (5, [.ref res, .int ie, .ref t, .int (nI 0), .int (nI 0), .int (wI (some 0)), .int 0, .int ma, .int ex, .ref ki])), (t, .inl (cB, 0, .inl (tx eU))), (q36, .inr (0, [.ref t, .int (nI 0), .int (nI 0)]))] H39 := hP
    have hD : va_D A [(res, .inr (2, [.ref k0, .ref k1, .ref k2, .ref k3, .ref k4, .ref q36, .long k6, .long k7, .int k8])), (q4, .inr (0, [.ref t, .int (nI 0), .int (nI 0)])), (h, .inr (5, [.ref res, .int ie, .ref t, .int (nI 0), .int (nI 0), .int (wI (some 0)), .int 0, .int ma, .int ex, .ref ki])), (t, .inl (cB, 0, .inl (tx eU))), (q36, .inr (0, [.ref t, .int (nI 0), .int (nI 0)]))] := hD
    refine lv_aload_n hx hb d_ListReader_readHead_42 rfl (lv_at hl 0 rfl) ?_
    refine va_get (v := .ref res) hx hb htb i_ListReader hown hK hP 2 rfl rfl 0 (by decide) (htb _ q5_75) (fun _ h9 => h9) rfl d_ListReader_readHead_43 ?_
    refine lv_aload_n hx hb d_ListReader_readHead_46 rfl (lv_at hl 0 rfl) ?_
    refine lv_iload_n hx hb d_ListReader_readHead_47 rfl (lv_at hl 1 rfl) ?_
    have hFc := va_free (wc := [(h, .inr (5, [.ref res, .int ie, .ref t, .int (nI 0), .int (nI 0), .int (wI (some 0)), .int 0, .int ma, .int ex, .ref ki])), (t, .inl (cB, 0, .inl (tx eU)))]) hD hS hA [2, 3] rfl
    refine va_calll (mu_runU (As := [.int (nI 0)]) (rest := [.ref res]) ⟨hx, hb, hml, hown, hts⟩ (cL_time l dC dI sb h res t ki 0 (0, 0, (some 0)) 0 ma ex ie cB eU 0 H39.size eU_lt (by decide) ei_0 (Nat.le_refl 0)) (cu_of (n := 1) hts tbin q5_108 q5_109 q3_237 q5_110 q1_15 q3_238 rfl (by decide +kernel) ⟨rfl, rfl⟩ ⟨Nat.le_of_ble_eq_true rfl, Nat.le_of_ble_eq_true rfl⟩) rfl ⟨Nat.le_of_ble_eq_true rfl, Nat.le_of_ble_eq_true rfl⟩ hN (hT0.keep hS hAs) hAs (Nat.le_trans hB0 hS.1) hK hP hD [2, 3] (by decide) rfl [0] rfl 2 5 rfl rfl rfl hl.1 rfl (Nat.le_of_ble_eq_true rfl) d_ListReader_readHead_48) hS (fun q _ h => hFc q h) hFc (fun r48 u48 tS H48 locs ht hvm hw48 hB hz1 hk1 hS => ?_)
    obtain ⟨x48, rfl⟩ : ∃ z, z = u48 := ⟨_, rfl⟩
    obtain ⟨hP1, hK1, hD1⟩ := hB
    rw [ht] at hP1
    obtain ⟨hP, hD⟩ := va_join (wr := [(res, .inr (2, [.ref k0, .ref k1, .ref k2, .ref k3, .ref k4, .ref q36, .long k6, .long k7, .int k8])), (q4, .inr (0, [.ref t, .int (nI 0), .int (nI 0)])), (q36, .inr (0, [.ref t, .int (nI 0), .int (nI 0)]))]) (w1 := [(h, .inr (5, [.ref res, .int ie, .ref t, .int (nI x48.1), .int (nI x48.2.1), .int (wI x48.2.2), .int 0, .int ma, .int ex, .ref ki])), (t, .inl (cB, 0, .inl (tx eU)))]) hP hD [2, 3] [0, 1, 4] rfl rfl (by decide) (by decide) hk1 hFc hP1 hD1
    have hP : va_P (dC, dI) classes [(res, .inr (2, [.ref k0, .ref k1, .ref k2, .ref k3, .ref k4, .ref q36, .long k6, .long k7, .int k8])), (q4, .inr (0, [.ref t, .int (nI 0), .int (nI 0)])), (q36, .inr (0, [.ref t, .int (nI 0), .int (nI 0)])), (h, .inr (5, [.ref res, .int ie, .ref t, .int (nI x48.1), .int (nI x48.2.1), .int (wI x48.2.2), .int 0, .int ma, .int ex, .ref ki])), (t, .inl (cB, 0, .inl (tx eU)))] H48 := hP
    have hD : va_D A [(res, .inr (2, [.ref k0, .ref k1, .ref k2, .ref k3, .ref k4, .ref q36, .long k6, .long k7, .int k8])), (q4, .inr (0, [.ref t, .int (nI 0), .int (nI 0)])), (q36, .inr (0, [.ref t, .int (nI 0), .int (nI 0)])), (h, .inr (5, [.ref res, .int ie, .ref t, .int (nI x48.1), .int (nI x48.2.1), .int (wI x48.2.2), .int 0, .int ma, .int ex, .ref ki])), (t, .inl (cB, 0, .inl (tx eU)))] := hD
    obtain rfl : x48 = ((0, 0, some 0) : rS) := hw48.1
    have hP : va_P (dC, dI) classes [(res, .inr (2, [.ref k0, .ref k1, .ref k2, .ref k3, .ref k4, .ref q36, .long k6, .long k7, .int k8])), (q4, .inr (0, [.ref t, .int (nI 0), .int (nI 0)])), (q36, .inr (0, [.ref t, .int (nI 0), .int (nI 0)])), (h, .inr (5, [.ref res, .int ie, .ref t, .int (nI 0), .int (nI 0), .int (wI (some 0)), .int 0, .int ma, .int ex, .ref ki])), (t, .inl (cB, 0, .inl (tx eU)))] H48 := hP
    have hD : va_D A [(res, .inr (2, [.ref k0, .ref k1, .ref k2, .ref k3, .ref k4, .ref q36, .long k6, .long k7, .int k8])), (q4, .inr (0, [.ref t, .int (nI 0), .int (nI 0)])), (q36, .inr (0, [.ref t, .int (nI 0), .int (nI 0)])), (h, .inr (5, [.ref res, .int ie, .ref t, .int (nI 0), .int (nI 0), .int (wI (some 0)), .int 0, .int ma, .int ex, .ref ki])), (t, .inl (cB, 0, .inl (tx eU)))] := hD
    refine va_put (v := .long r48) (ty := .long) hx hb htb i_Paper t_Paper t_Paper_ok n_Paper hown hK hP hD hS 0 rfl rfl 6 (by decide) (htb _ q2_219) (fun _ h9 => h9) rfl (by decide +kernel) rfl rfl (Nat.le_of_ble_eq_true rfl) d_ListReader_readHead_51 (fun H51 locs hP hD hS => ?_)
    have hP : va_P (dC, dI) classes [(res, .inr (2, [.ref k0, .ref k1, .ref k2, .ref k3, .ref k4, .ref q36, .long r48, .long k7, .int k8])), (q4, .inr (0, [.ref t, .int (nI 0), .int (nI 0)])), (q36, .inr (0, [.ref t, .int (nI 0), .int (nI 0)])), (h, .inr (5, [.ref res, .int ie, .ref t, .int (nI 0), .int (nI 0), .int (wI (some 0)), .int 0, .int ma, .int ex, .ref ki])), (t, .inl (cB, 0, .inl (tx eU)))] H51 := hP
    have hD : va_D A [(res, .inr (2, [.ref k0, .ref k1, .ref k2, .ref k3, .ref k4, .ref q36, .long r48, .long k7, .int k8])), (q4, .inr (0, [.ref t, .int (nI 0), .int (nI 0)])), (q36, .inr (0, [.ref t, .int (nI 0), .int (nI 0)])), (h, .inr (5, [.ref res, .int ie, .ref t, .int (nI 0), .int (nI 0), .int (wI (some 0)), .int 0, .int ma, .int ex, .ref ki])), (t, .inl (cB, 0, .inl (tx eU)))] := hD
    refine lv_aload_n hx hb d_ListReader_readHead_54 rfl (lv_at hl 0 rfl) ?_
    refine va_get (v := .ref res) hx hb htb i_ListReader hown hK hP 3 rfl rfl 0 (by decide) (htb _ q5_75) (fun _ h9 => h9) rfl d_ListReader_readHead_55 ?_
    refine lv_aload_n hx hb d_ListReader_readHead_58 rfl (lv_at hl 0 rfl) ?_
    refine lv_iload_n hx hb d_ListReader_readHead_59 rfl (lv_at hl 1 rfl) ?_
    have hFc := va_free (wc := [(h, .inr (5, [.ref res, .int ie, .ref t, .int (nI 0), .int (nI 0), .int (wI (some 0)), .int 0, .int ma, .int ex, .ref ki])), (t, .inl (cB, 0, .inl (tx eU)))]) hD hS hA [3, 4] rfl
    refine va_calll (mu_runU (As := [.int (nI 0)]) (rest := [.ref res]) ⟨hx, hb, hml, hown, hts⟩ (cL_time l dC dI sb h res t ki 0 (0, 0, (some 0)) 0 ma ex ie cB eU 0 H51.size eU_lt (by decide) ei_0 (Nat.le_refl 0)) (cu_of (n := 1) hts tbin q5_108 q5_109 q3_237 q5_110 q1_15 q3_238 rfl (by decide +kernel) ⟨rfl, rfl⟩ ⟨Nat.le_of_ble_eq_true rfl, Nat.le_of_ble_eq_true rfl⟩) rfl ⟨Nat.le_of_ble_eq_true rfl, Nat.le_of_ble_eq_true rfl⟩ hN (hT0.keep hS hAs) hAs (Nat.le_trans hB0 hS.1) hK hP hD [3, 4] (by decide) rfl [0] rfl 3 5 rfl rfl rfl hl.1 rfl (Nat.le_of_ble_eq_true rfl) d_ListReader_readHead_60) hS (fun q _ h => hFc q h) hFc (fun r60 u60 tS H60 locs ht hvm hw60 hB hz1 hk1 hS => ?_)
    obtain ⟨x60, rfl⟩ : ∃ z, z = u60 := ⟨_, rfl⟩
    obtain ⟨hP1, hK1, hD1⟩ := hB
    rw [ht] at hP1
    obtain ⟨hP, hD⟩ := va_join (wr := [(res, .inr (2, [.ref k0, .ref k1, .ref k2, .ref k3, .ref k4, .ref q36, .long r48, .long k7, .int k8])), (q4, .inr (0, [.ref t, .int (nI 0), .int (nI 0)])), (q36, .inr (0, [.ref t, .int (nI 0), .int (nI 0)]))]) (w1 := [(h, .inr (5, [.ref res, .int ie, .ref t, .int (nI x60.1), .int (nI x60.2.1), .int (wI x60.2.2), .int 0, .int ma, .int ex, .ref ki])), (t, .inl (cB, 0, .inl (tx eU)))]) hP hD [3, 4] [0, 1, 2] rfl rfl (by decide) (by decide) hk1 hFc hP1 hD1
    have hP : va_P (dC, dI) classes [(res, .inr (2, [.ref k0, .ref k1, .ref k2, .ref k3, .ref k4, .ref q36, .long r48, .long k7, .int k8])), (q4, .inr (0, [.ref t, .int (nI 0), .int (nI 0)])), (q36, .inr (0, [.ref t, .int (nI 0), .int (nI 0)])), (h, .inr (5, [.ref res, .int ie, .ref t, .int (nI x60.1), .int (nI x60.2.1), .int (wI x60.2.2), .int 0, .int ma, .int ex, .ref ki])), (t, .inl (cB, 0, .inl (tx eU)))] H60 := hP
    have hD : va_D A [(res, .inr (2, [.ref k0, .ref k1, .ref k2, .ref k3, .ref k4, .ref q36, .long r48, .long k7, .int k8])), (q4, .inr (0, [.ref t, .int (nI 0), .int (nI 0)])), (q36, .inr (0, [.ref t, .int (nI 0), .int (nI 0)])), (h, .inr (5, [.ref res, .int ie, .ref t, .int (nI x60.1), .int (nI x60.2.1), .int (wI x60.2.2), .int 0, .int ma, .int ex, .ref ki])), (t, .inl (cB, 0, .inl (tx eU)))] := hD
    obtain rfl : x60 = ((0, 0, some 0) : rS) := hw60.1
    have hP : va_P (dC, dI) classes [(res, .inr (2, [.ref k0, .ref k1, .ref k2, .ref k3, .ref k4, .ref q36, .long r48, .long k7, .int k8])), (q4, .inr (0, [.ref t, .int (nI 0), .int (nI 0)])), (q36, .inr (0, [.ref t, .int (nI 0), .int (nI 0)])), (h, .inr (5, [.ref res, .int ie, .ref t, .int (nI 0), .int (nI 0), .int (wI (some 0)), .int 0, .int ma, .int ex, .ref ki])), (t, .inl (cB, 0, .inl (tx eU)))] H60 := hP
    have hD : va_D A [(res, .inr (2, [.ref k0, .ref k1, .ref k2, .ref k3, .ref k4, .ref q36, .long r48, .long k7, .int k8])), (q4, .inr (0, [.ref t, .int (nI 0), .int (nI 0)])), (q36, .inr (0, [.ref t, .int (nI 0), .int (nI 0)])), (h, .inr (5, [.ref res, .int ie, .ref t, .int (nI 0), .int (nI 0), .int (wI (some 0)), .int 0, .int ma, .int ex, .ref ki])), (t, .inl (cB, 0, .inl (tx eU)))] := hD
    refine va_put (v := .long r60) (ty := .long) hx hb htb i_Paper t_Paper t_Paper_ok n_Paper hown hK hP hD hS 0 rfl rfl 7 (by decide) (htb _ q2_225) (fun _ h9 => h9) rfl (by decide +kernel) rfl rfl (Nat.le_of_ble_eq_true rfl) d_ListReader_readHead_63 (fun H63 locs hP hD hS => ?_)
    have hP : va_P (dC, dI) classes [(res, .inr (2, [.ref k0, .ref k1, .ref k2, .ref k3, .ref k4, .ref q36, .long r48, .long r60, .int k8])), (q4, .inr (0, [.ref t, .int (nI 0), .int (nI 0)])), (q36, .inr (0, [.ref t, .int (nI 0), .int (nI 0)])), (h, .inr (5, [.ref res, .int ie, .ref t, .int (nI 0), .int (nI 0), .int (wI (some 0)), .int 0, .int ma, .int ex, .ref ki])), (t, .inl (cB, 0, .inl (tx eU)))] H63 := hP
    have hD : va_D A [(res, .inr (2, [.ref k0, .ref k1, .ref k2, .ref k3, .ref k4, .ref q36, .long r48, .long r60, .int k8])), (q4, .inr (0, [.ref t, .int (nI 0), .int (nI 0)])), (q36, .inr (0, [.ref t, .int (nI 0), .int (nI 0)])), (h, .inr (5, [.ref res, .int ie, .ref t, .int (nI 0), .int (nI 0), .int (wI (some 0)), .int 0, .int ma, .int ex, .ref ki])), (t, .inl (cB, 0, .inl (tx eU)))] := hD
    exact W.vret hx hb hr (fun t ht hW => ⟨⟨(q36, r48, r60), rfl, trivial, by rw [ht]; exact hP.sub [3, 4, 0] rfl, va_K.moved hW.alike hK, hD.sub [3, 4, 0] (by decide) rfl⟩, hS.F ht⟩) hS.2.2 d_ListReader_readHead_66
  · skip
    refine lv_if_ne (tgt := 19) hx hb d_ListReader_readHead_12 (by decide) (fun c12 => ?_) (fun c12 => ?_)
    · refine lv_iconst (v := 0) hx hb d_ListReader_readHead_19 (by decide) ?_
      exact k20 _ (bz_f (by decide))
    · refine lv_iconst (v := 1) hx hb d_ListReader_readHead_15 (by decide) ?_
      refine lv_goto (tgt := 20) hx hb d_ListReader_readHead_16 (by decide) ?_
      exact k20 _ (bz_t rfl)
def y_ListReader_readList : MethodName := ⟨"TrustChain$ListReader", "readList", "()V"⟩
abbrev b_ListReader_readList : ByteArray := prog_4_method_2_code
def w_ListReader_readList : List Cond := Cond.code y_ListReader_readList b_ListReader_readList 7 (none) :: tb
theorem d_ListReader_readList_0 : decode b_ListReader_readList 0 = .ok (.aload_n 0, 1) := by decide +kernel
theorem d_ListReader_readList_1 : decode b_ListReader_readList 1 = .ok (.bipush 48, 2) := by decide +kernel
theorem d_ListReader_readList_3 : decode b_ListReader_readList 3 = .ok (.aload_n 0, 1) := by decide +kernel
theorem d_ListReader_readList_4 : decode b_ListReader_readList 4 = .ok (.getfield 29, 3) := by decide +kernel
theorem d_ListReader_readList_7 : decode b_ListReader_readList 7 = .ok (.arraylength, 1) := by decide +kernel
theorem d_ListReader_readList_8 : decode b_ListReader_readList 8 = .ok (.invokevirtual 33, 3) := by decide +kernel
theorem d_ListReader_readList_11 : decode b_ListReader_readList 11 = .ok (.istore_n 1, 1) := by decide +kernel
theorem d_ListReader_readList_12 : decode b_ListReader_readList 12 = .ok (.aload_n 0, 1) := by decide +kernel
theorem d_ListReader_readList_13 : decode b_ListReader_readList 13 = .ok (.getfield 37, 3) := by decide +kernel
theorem d_ListReader_readList_16 : decode b_ListReader_readList 16 = .ok (.istore_n 2, 1) := by decide +kernel
theorem d_ListReader_readList_17 : decode b_ListReader_readList 17 = .ok (.aload_n 0, 1) := by decide +kernel
theorem d_ListReader_readList_18 : decode b_ListReader_readList 18 = .ok (.bipush 48, 2) := by decide +kernel
theorem d_ListReader_readList_20 : decode b_ListReader_readList 20 = .ok (.iload_n 1, 1) := by decide +kernel
theorem d_ListReader_readList_21 : decode b_ListReader_readList 21 = .ok (.invokevirtual 33, 3) := by decide +kernel
theorem d_ListReader_readList_24 : decode b_ListReader_readList 24 = .ok (.istore_n 3, 1) := by decide +kernel
theorem d_ListReader_readList_25 : decode b_ListReader_readList 25 = .ok (.aload_n 0, 1) := by decide +kernel
theorem d_ListReader_readList_26 : decode b_ListReader_readList 26 = .ok (.iload_n 3, 1) := by decide +kernel
theorem d_ListReader_readList_27 : decode b_ListReader_readList 27 = .ok (.invokevirtual 41, 3) := by decide +kernel
theorem d_ListReader_readList_30 : decode b_ListReader_readList 30 = .ok (.aload_n 0, 1) := by decide +kernel
theorem d_ListReader_readList_31 : decode b_ListReader_readList 31 = .ok (.aload_n 0, 1) := by decide +kernel
theorem d_ListReader_readList_32 : decode b_ListReader_readList 32 = .ok (.bipush 48, 2) := by decide +kernel
theorem d_ListReader_readList_34 : decode b_ListReader_readList 34 = .ok (.iload_n 3, 1) := by decide +kernel
theorem d_ListReader_readList_35 : decode b_ListReader_readList 35 = .ok (.invokevirtual 45, 3) := by decide +kernel
theorem d_ListReader_readList_38 : decode b_ListReader_readList 38 = .ok (.putfield 9, 3) := by decide +kernel
theorem d_ListReader_readList_41 : decode b_ListReader_readList 41 = .ok (.aload_n 0, 1) := by decide +kernel
theorem d_ListReader_readList_42 : decode b_ListReader_readList 42 = .ok (.getfield 9, 3) := by decide +kernel
theorem d_ListReader_readList_45 : decode b_ListReader_readList 45 = .ok (.ifCond .eq 13, 3) := by decide +kernel
theorem d_ListReader_readList_48 : decode b_ListReader_readList 48 = .ok (.aload_n 0, 1) := by decide +kernel
theorem d_ListReader_readList_49 : decode b_ListReader_readList 49 = .ok (.bipush 48, 2) := by decide +kernel
theorem d_ListReader_readList_51 : decode b_ListReader_readList 51 = .ok (.iload_n 3, 1) := by decide +kernel
theorem d_ListReader_readList_52 : decode b_ListReader_readList 52 = .ok (.invokevirtual 33, 3) := by decide +kernel
theorem d_ListReader_readList_55 : decode b_ListReader_readList 55 = .ok (.goto 7, 3) := by decide +kernel
theorem d_ListReader_readList_58 : decode b_ListReader_readList 58 = .ok (.aload_n 0, 1) := by decide +kernel
theorem d_ListReader_readList_59 : decode b_ListReader_readList 59 = .ok (.getfield 37, 3) := by decide +kernel
theorem d_ListReader_readList_62 : decode b_ListReader_readList 62 = .ok (.istore 4, 2) := by decide +kernel
theorem d_ListReader_readList_64 : decode b_ListReader_readList 64 = .ok (.iconst 0, 1) := by decide +kernel
theorem d_ListReader_readList_65 : decode b_ListReader_readList 65 = .ok (.istore 5, 2) := by decide +kernel
theorem d_ListReader_readList_67 : decode b_ListReader_readList 67 = .ok (.iload 5, 2) := by decide +kernel
theorem d_ListReader_readList_69 : decode b_ListReader_readList 69 = .ok (.sipush 2048, 3) := by decide +kernel
theorem d_ListReader_readList_72 : decode b_ListReader_readList 72 = .ok (.if_icmp .ge 83, 3) := by decide +kernel
theorem d_ListReader_readList_75 : decode b_ListReader_readList 75 = .ok (.aload_n 0, 1) := by decide +kernel
theorem d_ListReader_readList_76 : decode b_ListReader_readList 76 = .ok (.getfield 9, 3) := by decide +kernel
theorem d_ListReader_readList_79 : decode b_ListReader_readList 79 = .ok (.ifCond .eq 76, 3) := by decide +kernel
theorem d_ListReader_readList_82 : decode b_ListReader_readList 82 = .ok (.aload_n 0, 1) := by decide +kernel
theorem d_ListReader_readList_83 : decode b_ListReader_readList 83 = .ok (.bipush 48, 2) := by decide +kernel
theorem d_ListReader_readList_85 : decode b_ListReader_readList 85 = .ok (.iload 4, 2) := by decide +kernel
theorem d_ListReader_readList_87 : decode b_ListReader_readList 87 = .ok (.invokevirtual 33, 3) := by decide +kernel
theorem d_ListReader_readList_90 : decode b_ListReader_readList 90 = .ok (.istore 6, 2) := by decide +kernel
theorem d_ListReader_readList_92 : decode b_ListReader_readList 92 = .ok (.aload_n 0, 1) := by decide +kernel
theorem d_ListReader_readList_93 : decode b_ListReader_readList 93 = .ok (.getfield 25, 3) := by decide +kernel
theorem d_ListReader_readList_96 : decode b_ListReader_readList 96 = .ok (.getfield 49, 3) := by decide +kernel
theorem d_ListReader_readList_99 : decode b_ListReader_readList 99 = .ok (.aload_n 0, 1) := by decide +kernel
theorem d_ListReader_readList_100 : decode b_ListReader_readList 100 = .ok (.iload 6, 2) := by decide +kernel
theorem d_ListReader_readList_102 : decode b_ListReader_readList 102 = .ok (.invokevirtual 53, 3) := by decide +kernel
theorem d_ListReader_readList_105 : decode b_ListReader_readList 105 = .ok (.invokevirtual 57, 3) := by decide +kernel
theorem d_ListReader_readList_108 : decode b_ListReader_readList 108 = .ok (.pop, 1) := by decide +kernel
theorem d_ListReader_readList_109 : decode b_ListReader_readList 109 = .ok (.aload_n 0, 1) := by decide +kernel
theorem d_ListReader_readList_110 : decode b_ListReader_readList 110 = .ok (.iload 6, 2) := by decide +kernel
theorem d_ListReader_readList_112 : decode b_ListReader_readList 112 = .ok (.invokevirtual 63, 3) := by decide +kernel
theorem d_ListReader_readList_115 : decode b_ListReader_readList 115 = .ok (.pop2, 1) := by decide +kernel
theorem d_ListReader_readList_116 : decode b_ListReader_readList 116 = .ok (.aload_n 0, 1) := by decide +kernel
theorem d_ListReader_readList_117 : decode b_ListReader_readList 117 = .ok (.bipush 48, 2) := by decide +kernel
theorem d_ListReader_readList_119 : decode b_ListReader_readList 119 = .ok (.iload 6, 2) := by decide +kernel
theorem d_ListReader_readList_121 : decode b_ListReader_readList 121 = .ok (.invokevirtual 45, 3) := by decide +kernel
theorem d_ListReader_readList_124 : decode b_ListReader_readList 124 = .ok (.ifCond .eq 9, 3) := by decide +kernel
theorem d_ListReader_readList_127 : decode b_ListReader_readList 127 = .ok (.aload_n 0, 1) := by decide +kernel
theorem d_ListReader_readList_128 : decode b_ListReader_readList 128 = .ok (.iload 6, 2) := by decide +kernel
theorem d_ListReader_readList_130 : decode b_ListReader_readList 130 = .ok (.invokevirtual 67, 3) := by decide +kernel
theorem d_ListReader_readList_133 : decode b_ListReader_readList 133 = .ok (.aload_n 0, 1) := by decide +kernel
theorem d_ListReader_readList_134 : decode b_ListReader_readList 134 = .ok (.iload 6, 2) := by decide +kernel
theorem d_ListReader_readList_136 : decode b_ListReader_readList 136 = .ok (.invokevirtual 70, 3) := by decide +kernel
theorem d_ListReader_readList_139 : decode b_ListReader_readList 139 = .ok (.aload_n 0, 1) := by decide +kernel
theorem d_ListReader_readList_140 : decode b_ListReader_readList 140 = .ok (.aload_n 0, 1) := by decide +kernel
theorem d_ListReader_readList_141 : decode b_ListReader_readList 141 = .ok (.iload 4, 2) := by decide +kernel
theorem d_ListReader_readList_143 : decode b_ListReader_readList 143 = .ok (.invokevirtual 73, 3) := by decide +kernel
theorem d_ListReader_readList_146 : decode b_ListReader_readList 146 = .ok (.putfield 9, 3) := by decide +kernel
theorem d_ListReader_readList_149 : decode b_ListReader_readList 149 = .ok (.iinc 5 1, 3) := by decide +kernel
theorem d_ListReader_readList_152 : decode b_ListReader_readList 152 = .ok (.goto (-85), 3) := by decide +kernel
theorem d_ListReader_readList_155 : decode b_ListReader_readList 155 = .ok (.aload_n 0, 1) := by decide +kernel
theorem d_ListReader_readList_156 : decode b_ListReader_readList 156 = .ok (.sipush 160, 3) := by decide +kernel
theorem d_ListReader_readList_159 : decode b_ListReader_readList 159 = .ok (.iload_n 3, 1) := by decide +kernel
theorem d_ListReader_readList_160 : decode b_ListReader_readList 160 = .ok (.invokevirtual 45, 3) := by decide +kernel
theorem d_ListReader_readList_163 : decode b_ListReader_readList 163 = .ok (.ifCond .eq 25, 3) := by decide +kernel
theorem d_ListReader_readList_166 : decode b_ListReader_readList 166 = .ok (.aload_n 0, 1) := by decide +kernel
theorem d_ListReader_readList_167 : decode b_ListReader_readList 167 = .ok (.sipush 160, 3) := by decide +kernel
theorem d_ListReader_readList_170 : decode b_ListReader_readList 170 = .ok (.iload_n 3, 1) := by decide +kernel
theorem d_ListReader_readList_171 : decode b_ListReader_readList 171 = .ok (.invokevirtual 33, 3) := by decide +kernel
theorem d_ListReader_readList_174 : decode b_ListReader_readList 174 = .ok (.istore 5, 2) := by decide +kernel
theorem d_ListReader_readList_176 : decode b_ListReader_readList 176 = .ok (.aload_n 0, 1) := by decide +kernel
theorem d_ListReader_readList_177 : decode b_ListReader_readList 177 = .ok (.iload 5, 2) := by decide +kernel
theorem d_ListReader_readList_179 : decode b_ListReader_readList 179 = .ok (.invokevirtual 67, 3) := by decide +kernel
theorem d_ListReader_readList_182 : decode b_ListReader_readList 182 = .ok (.aload_n 0, 1) := by decide +kernel
theorem d_ListReader_readList_183 : decode b_ListReader_readList 183 = .ok (.iload 5, 2) := by decide +kernel
theorem d_ListReader_readList_185 : decode b_ListReader_readList 185 = .ok (.invokevirtual 70, 3) := by decide +kernel
theorem d_ListReader_readList_188 : decode b_ListReader_readList 188 = .ok (.aload_n 0, 1) := by decide +kernel
theorem d_ListReader_readList_189 : decode b_ListReader_readList 189 = .ok (.iload_n 3, 1) := by decide +kernel
theorem d_ListReader_readList_190 : decode b_ListReader_readList 190 = .ok (.invokevirtual 70, 3) := by decide +kernel
theorem d_ListReader_readList_193 : decode b_ListReader_readList 193 = .ok (.aload_n 0, 1) := by decide +kernel
theorem d_ListReader_readList_194 : decode b_ListReader_readList 194 = .ok (.getfield 25, 3) := by decide +kernel
theorem d_ListReader_readList_197 : decode b_ListReader_readList 197 = .ok (.new 17, 3) := by decide +kernel
theorem d_ListReader_readList_200 : decode b_ListReader_readList 200 = .ok (.dup, 1) := by decide +kernel
theorem d_ListReader_readList_201 : decode b_ListReader_readList 201 = .ok (.aload_n 0, 1) := by decide +kernel
theorem d_ListReader_readList_202 : decode b_ListReader_readList 202 = .ok (.getfield 29, 3) := by decide +kernel
theorem d_ListReader_readList_205 : decode b_ListReader_readList 205 = .ok (.iload_n 2, 1) := by decide +kernel
theorem d_ListReader_readList_206 : decode b_ListReader_readList 206 = .ok (.iload_n 3, 1) := by decide +kernel
theorem d_ListReader_readList_207 : decode b_ListReader_readList 207 = .ok (.invokespecial 19, 3) := by decide +kernel
theorem d_ListReader_readList_210 : decode b_ListReader_readList 210 = .ok (.putfield 77, 3) := by decide +kernel
theorem d_ListReader_readList_213 : decode b_ListReader_readList 213 = .ok (.aload_n 0, 1) := by decide +kernel
theorem d_ListReader_readList_214 : decode b_ListReader_readList 214 = .ok (.getfield 25, 3) := by decide +kernel
theorem d_ListReader_readList_217 : decode b_ListReader_readList 217 = .ok (.aload_n 0, 1) := by decide +kernel
theorem d_ListReader_readList_218 : decode b_ListReader_readList 218 = .ok (.getfield 81, 3) := by decide +kernel
theorem d_ListReader_readList_221 : decode b_ListReader_readList 221 = .ok (.putfield 84, 3) := by decide +kernel
theorem d_ListReader_readList_224 : decode b_ListReader_readList 224 = .ok (.aload_n 0, 1) := by decide +kernel
theorem d_ListReader_readList_225 : decode b_ListReader_readList 225 = .ok (.aload_n 0, 1) := by decide +kernel
theorem d_ListReader_readList_226 : decode b_ListReader_readList 226 = .ok (.getfield 25, 3) := by decide +kernel
theorem d_ListReader_readList_229 : decode b_ListReader_readList 229 = .ok (.iload_n 1, 1) := by decide +kernel
theorem d_ListReader_readList_230 : decode b_ListReader_readList 230 = .ok (.invokevirtual 85, 3) := by decide +kernel
theorem d_ListReader_readList_233 : decode b_ListReader_readList 233 = .ok (.return_, 1) := by decide +kernel
set_option maxHeartbeats 4000000 in
set_option maxRecDepth 100000 in
theorem eL_readList (l : Launch) (dC : Nat → ClassId) (dI : Nat → Nat → Nat) (sb : sB) (h res t ki : Nat) (pa ma ex ie : Int32) (cB : ClassId) (k0 k1 k2 k3 k4 k5 : Nat) (k8 : Int32) (k6 k7 : Int64) (sz : Nat) : Met l y_ListReader_readList w_ListReader_readList ({ frames := 5, cells := 4, slots := 12, locals := 120 }) (mu_P [.ref h] (dC, dI) sb [(h, .inr (5, [.ref res, .int ie, .ref t, .int (nI 0), .int (nI 0), .int (wI none), .int pa, .int ma, .int ex, .ref ki])), (t, .inl (cB, 0, .inl (tx eU))), (res, .inr (2, [.ref k0, .ref k1, .ref k2, .ref k3, .ref k4, .ref k5, .long k6, .long k7, .int k8]))] [(cB, .byte)] sz) (va_Qv (fun (_u : Int32 × Nat × Nat × Nat × Int64 × Int64) => True) (mu_B (dC, dI) [(cB, .byte)] (va_A [(h, .inr (5, [.ref res, .int ie, .ref t, .int (nI 0), .int (nI 0), .int (wI none), .int pa, .int ma, .int ex, .ref ki])), (t, .inl (cB, 0, .inl (tx eU))), (res, .inr (2, [.ref k0, .ref k1, .ref k2, .ref k3, .ref k4, .ref k5, .long k6, .long k7, .int k8]))] sz) (fun u' : Int32 × Nat × Nat × Nat × Int64 × Int64 => [(h, .inr (5, [.ref res, .int u'.1, .ref t, .int (nI 0), .int (nI 0), .int (wI (some 0)), .int 0, .int ma, .int ex, .ref ki])), (t, .inl (cB, 0, .inl (tx eU))), (res, .inr (2, [.ref k0, .ref k1, .ref k2, .ref u'.2.1, .ref u'.2.2.1, .ref u'.2.2.2.1, .long u'.2.2.2.2.1, .long u'.2.2.2.2.2, .int ma]))])) (va_A [(h, .inr (5, [.ref res, .int ie, .ref t, .int (nI 0), .int (nI 0), .int (wI none), .int pa, .int ma, .int ex, .ref ki])), (t, .inl (cB, 0, .inl (tx eU))), (res, .inr (2, [.ref k0, .ref k1, .ref k2, .ref k3, .ref k4, .ref k5, .long k6, .long k7, .int k8]))] sz)) 4 12 (va_A [(h, .inr (5, [.ref res, .int ie, .ref t, .int (nI 0), .int (nI 0), .int (wI none), .int pa, .int ma, .int ex, .ref ki])), (t, .inl (cB, 0, .inl (tx eU))), (res, .inr (2, [.ref k0, .ref k1, .ref k2, .ref k3, .ref k4, .ref k5, .long k6, .long k7, .int k8]))] sz) := by
  refine Met.ofW (cc := b_ListReader_readList) (maxL := 7) (ret := none) (by decide) rfl ?_
  intro p e s m args below meth c s₁ B hml hv
  obtain ⟨rfl, hsz, hB0, hP, hK, hD0, hN, hT0⟩ := hv
  have hx := B.exec
  have hb := B.bytes
  have hr := B.returns
  have hts := atoms_spec (ws := w_ListReader_readList) B.pre
  have tbin : ∀ w ∈ tb, w ∈ w_ListReader_readList := fun w h => List.mem_cons_of_mem _ h
  have htb : ∀ w ∈ tb, w.before _ s = true := fun w h => hts w (tbin w h)
  have hown : s.vm.findClass "TrustChain$ListReader" = some m.cls := findClass_of_methodNamed B.named
  have hlocks := B.notSynchronized
  subst hsz
  have hD := hD0.self (sz := s.heap.size)
  generalize hAe : va_A [(h, .inr (5, [.ref res, .int ie, .ref t, .int (nI 0), .int (nI 0), .int (wI none), .int pa, .int ma, .int ex, .ref ki])), (t, .inl (cB, 0, .inl (tx eU))), (res, .inr (2, [.ref k0, .ref k1, .ref k2, .ref k3, .ref k4, .ref k5, .long k6, .long k7, .int k8]))] s.heap.size = A at hD ⊢
  have hA : ∀ q : Nat, s.heap.size ≤ q → A q := fun q h => by rw [← hAe]; exact Or.inr h
  have hAs : ∀ q : Nat, A q → sb.1 ≤ q := fun q h => by
    rw [← hAe] at h
    rcases h with ⟨k, e, h⟩ | h
    · exact hD0.2 k _ h
    · exact Nat.le_trans hB0 h
  have hS : va_S A s.heap s.heap [] := va_S.rf
  have hcs : 4 ≤ (headSpec w_ListReader_readList ({ frames := 5, cells := 4, slots := 12, locals := 120 })).room.cells ∧ 12 ≤ (headSpec w_ListReader_readList ({ frames := 5, cells := 4, slots := 12, locals := 120 })).room.slots := ⟨Nat.le_refl _, Nat.le_refl _⟩
  have hP : va_P (dC, dI) classes [(h, .inr (5, [.ref res, .int ie, .ref t, .int (nI 0), .int (nI 0), .int (wI none), .int pa, .int ma, .int ex, .ref ki])), (t, .inl (cB, 0, .inl (tx eU))), (res, .inr (2, [.ref k0, .ref k1, .ref k2, .ref k3, .ref k4, .ref k5, .long k6, .long k7, .int k8]))] s.heap := hP
  have hl := lv_entry ([.ref h]) (n := 7) (Nat.le_of_ble_eq_true rfl)
  rw [lg_entry_eq]
  generalize (lg_sl ([.ref h]) ++ List.replicate (7 - (lg_sl ([.ref h])).length) Slot.unset).toArray = ls at hl ⊢
  have hl : lv_has ls 7 [(0, .ref h)] := hl
  refine lv_aload_n hx hb d_ListReader_readList_0 rfl (lv_at hl 0 rfl) ?_
  refine lv_bipush (v := 48) hx hb d_ListReader_readList_1 (by decide) ?_
  refine lv_aload_n hx hb d_ListReader_readList_3 rfl (lv_at hl 0 rfl) ?_
  refine va_get (v := .ref t) hx hb htb i_ListReader hown hK hP 0 rfl rfl 2 (by decide) (htb _ q3_60) (fun x9 h9 => u_same (htb _ q3_61) x9 h9) rfl d_ListReader_readList_4 ?_
  refine va_alen (v := nI 0) hx hb hK hP 1 0 rfl rfl rfl d_ListReader_readList_7 ?_
  have hFc := va_free (wc := [(h, .inr (5, [.ref res, .int ie, .ref t, .int (nI 0), .int (nI 0), .int (wI none), .int pa, .int ma, .int ex, .ref ki])), (t, .inl (cB, 0, .inl (tx eU)))]) hD hS hA [0, 1] rfl
  refine va_calli (mu_runU (As := [.int 48, .int (nI 0)]) (rest := []) ⟨hx, hb, hml, hown, hts⟩ (cL_open l dC dI sb h res t ki 0 0 0 none pa ma ex ie cB eU 48 0 s.heap.size eU_lt (by decide) ew_n (Nat.le_refl 0) (Nat.le_refl 0) (by decide)) (cu_of (n := 2) hts tbin q5_95 q5_96 q3_112 q5_97 q1_15 q3_113 rfl (by decide +kernel) ⟨rfl, rfl⟩ ⟨Nat.le_of_ble_eq_true rfl, Nat.le_of_ble_eq_true rfl⟩) rfl ⟨Nat.le_of_ble_eq_true rfl, Nat.le_of_ble_eq_true rfl⟩ hN (hT0.keep hS hAs) hAs (Nat.le_trans hB0 hS.1) hK hP hD [0, 1] (by decide) rfl [0] rfl 0 5 rfl rfl rfl hl.1 rfl (Nat.le_of_ble_eq_true rfl) d_ListReader_readList_8) hS (fun q _ h => hFc q h) hFc (fun r8 u8 tS H8 locs ht hvm hw8 hB hz1 hk1 hS => ?_)
  obtain ⟨x8, rfl⟩ : ∃ z, z = u8 := ⟨_, rfl⟩
  obtain ⟨hP1, hK1, hD1⟩ := hB
  rw [ht] at hP1
  obtain ⟨hP, hD⟩ := va_join (wr := [(res, .inr (2, [.ref k0, .ref k1, .ref k2, .ref k3, .ref k4, .ref k5, .long k6, .long k7, .int k8]))]) (w1 := [(h, .inr (5, [.ref res, .int ie, .ref t, .int (nI x8.1), .int (nI x8.2.1), .int (wI x8.2.2), .int pa, .int ma, .int ex, .ref ki])), (t, .inl (cB, 0, .inl (tx eU)))]) hP hD [0, 1] [2] rfl rfl (by decide) (by decide) hk1 hFc hP1 hD1
  have hP : va_P (dC, dI) classes [(res, .inr (2, [.ref k0, .ref k1, .ref k2, .ref k3, .ref k4, .ref k5, .long k6, .long k7, .int k8])), (h, .inr (5, [.ref res, .int ie, .ref t, .int (nI x8.1), .int (nI x8.2.1), .int (wI x8.2.2), .int pa, .int ma, .int ex, .ref ki])), (t, .inl (cB, 0, .inl (tx eU)))] H8 := hP
  have hD : va_D A [(res, .inr (2, [.ref k0, .ref k1, .ref k2, .ref k3, .ref k4, .ref k5, .long k6, .long k7, .int k8])), (h, .inr (5, [.ref res, .int ie, .ref t, .int (nI x8.1), .int (nI x8.2.1), .int (wI x8.2.2), .int pa, .int ma, .int ex, .ref ki])), (t, .inl (cB, 0, .inl (tx eU)))] := hD
  obtain ⟨rfl, rfl⟩ : x8 = ((0, 0, some 0) : rS) ∧ r8 = nI 0 := hw8
  have hP : va_P (dC, dI) classes [(res, .inr (2, [.ref k0, .ref k1, .ref k2, .ref k3, .ref k4, .ref k5, .long k6, .long k7, .int k8])), (h, .inr (5, [.ref res, .int ie, .ref t, .int (nI 0), .int (nI 0), .int (wI (some 0)), .int pa, .int ma, .int ex, .ref ki])), (t, .inl (cB, 0, .inl (tx eU)))] H8 := hP
  have hD : va_D A [(res, .inr (2, [.ref k0, .ref k1, .ref k2, .ref k3, .ref k4, .ref k5, .long k6, .long k7, .int k8])), (h, .inr (5, [.ref res, .int ie, .ref t, .int (nI 0), .int (nI 0), .int (wI (some 0)), .int pa, .int ma, .int ex, .ref ki])), (t, .inl (cB, 0, .inl (tx eU)))] := hD
  refine lv_istore_n (lv' := [(1, .int (nI 0)), (0, .ref h)]) hx hb d_ListReader_readList_11 rfl hl (by decide) rfl (fun ls hl => ?_)
  refine lv_aload_n hx hb d_ListReader_readList_12 rfl (lv_at hl 1 rfl) ?_
  refine va_get (v := .int (nI 0)) hx hb htb i_ListReader hown hK hP 1 rfl rfl 3 (by decide) (htb _ q3_65) (fun x9 h9 => u_same (htb _ q3_66) x9 h9) rfl d_ListReader_readList_13 ?_
  refine lv_istore_n (lv' := [(2, .int (nI 0)), (1, .int (nI 0)), (0, .ref h)]) hx hb d_ListReader_readList_16 rfl hl (by decide) rfl (fun ls hl => ?_)
  refine lv_aload_n hx hb d_ListReader_readList_17 rfl (lv_at hl 2 rfl) ?_
  refine lv_bipush (v := 48) hx hb d_ListReader_readList_18 (by decide) ?_
  refine lv_iload_n hx hb d_ListReader_readList_20 rfl (lv_at hl 1 rfl) ?_
  have hFc := va_free (wc := [(h, .inr (5, [.ref res, .int ie, .ref t, .int (nI 0), .int (nI 0), .int (wI (some 0)), .int pa, .int ma, .int ex, .ref ki])), (t, .inl (cB, 0, .inl (tx eU)))]) hD hS hA [1, 2] rfl
  refine va_calli (mu_runU (As := [.int 48, .int (nI 0)]) (rest := []) ⟨hx, hb, hml, hown, hts⟩ (cL_open l dC dI sb h res t ki 0 0 0 (some 0) pa ma ex ie cB eU 48 0 H8.size eU_lt (by decide) ew_0 (Nat.le_refl 0) (Nat.le_refl 0) (by decide)) (cu_of (n := 2) hts tbin q5_95 q5_96 q3_112 q5_97 q1_15 q3_113 rfl (by decide +kernel) ⟨rfl, rfl⟩ ⟨Nat.le_of_ble_eq_true rfl, Nat.le_of_ble_eq_true rfl⟩) rfl ⟨Nat.le_of_ble_eq_true rfl, Nat.le_of_ble_eq_true rfl⟩ hN (hT0.keep hS hAs) hAs (Nat.le_trans hB0 hS.1) hK hP hD [1, 2] (by decide) rfl [0] rfl 1 5 rfl rfl rfl hl.1 rfl (Nat.le_of_ble_eq_true rfl) d_ListReader_readList_21) hS (fun q _ h => hFc q h) hFc (fun r21 u21 tS H21 locs ht hvm hw21 hB hz1 hk1 hS => ?_)
  obtain ⟨x21, rfl⟩ : ∃ z, z = u21 := ⟨_, rfl⟩
  obtain ⟨hP1, hK1, hD1⟩ := hB
  rw [ht] at hP1
  obtain ⟨hP, hD⟩ := va_join (wr := [(res, .inr (2, [.ref k0, .ref k1, .ref k2, .ref k3, .ref k4, .ref k5, .long k6, .long k7, .int k8]))]) (w1 := [(h, .inr (5, [.ref res, .int ie, .ref t, .int (nI x21.1), .int (nI x21.2.1), .int (wI x21.2.2), .int pa, .int ma, .int ex, .ref ki])), (t, .inl (cB, 0, .inl (tx eU)))]) hP hD [1, 2] [0] rfl rfl (by decide) (by decide) hk1 hFc hP1 hD1
  have hP : va_P (dC, dI) classes [(res, .inr (2, [.ref k0, .ref k1, .ref k2, .ref k3, .ref k4, .ref k5, .long k6, .long k7, .int k8])), (h, .inr (5, [.ref res, .int ie, .ref t, .int (nI x21.1), .int (nI x21.2.1), .int (wI x21.2.2), .int pa, .int ma, .int ex, .ref ki])), (t, .inl (cB, 0, .inl (tx eU)))] H21 := hP
  have hD : va_D A [(res, .inr (2, [.ref k0, .ref k1, .ref k2, .ref k3, .ref k4, .ref k5, .long k6, .long k7, .int k8])), (h, .inr (5, [.ref res, .int ie, .ref t, .int (nI x21.1), .int (nI x21.2.1), .int (wI x21.2.2), .int pa, .int ma, .int ex, .ref ki])), (t, .inl (cB, 0, .inl (tx eU)))] := hD
  obtain ⟨rfl, rfl⟩ : x21 = ((0, 0, some 0) : rS) ∧ r21 = nI 0 := hw21
  have hP : va_P (dC, dI) classes [(res, .inr (2, [.ref k0, .ref k1, .ref k2, .ref k3, .ref k4, .ref k5, .long k6, .long k7, .int k8])), (h, .inr (5, [.ref res, .int ie, .ref t, .int (nI 0), .int (nI 0), .int (wI (some 0)), .int pa, .int ma, .int ex, .ref ki])), (t, .inl (cB, 0, .inl (tx eU)))] H21 := hP
  have hD : va_D A [(res, .inr (2, [.ref k0, .ref k1, .ref k2, .ref k3, .ref k4, .ref k5, .long k6, .long k7, .int k8])), (h, .inr (5, [.ref res, .int ie, .ref t, .int (nI 0), .int (nI 0), .int (wI (some 0)), .int pa, .int ma, .int ex, .ref ki])), (t, .inl (cB, 0, .inl (tx eU)))] := hD
  refine lv_istore_n (lv' := [(3, .int (nI 0)), (2, .int (nI 0)), (1, .int (nI 0)), (0, .ref h)]) hx hb d_ListReader_readList_24 rfl hl (by decide) rfl (fun ls hl => ?_)
  refine lv_aload_n hx hb d_ListReader_readList_25 rfl (lv_at hl 3 rfl) ?_
  refine lv_iload_n hx hb d_ListReader_readList_26 rfl (lv_at hl 0 rfl) ?_
  have hFc := va_free (wc := [(h, .inr (5, [.ref res, .int ie, .ref t, .int (nI 0), .int (nI 0), .int (wI (some 0)), .int pa, .int ma, .int ex, .ref ki])), (t, .inl (cB, 0, .inl (tx eU))), (res, .inr (2, [.ref k0, .ref k1, .ref k2, .ref k3, .ref k4, .ref k5, .long k6, .long k7, .int k8]))]) hD hS hA [1, 2, 0] rfl
  refine va_callv (mu_runV (As := [.int (nI 0)]) (rest := []) ⟨hx, hb, hml, hown, hts⟩ tbin (eL_readHead l dC dI sb h res t ki pa ma ex ie cB k0 k1 k2 k3 k4 k5 k8 k6 k7 H21.size) q5_98 q5_100 qp_17 q1_31 q5_101 (n := 1) (by decide +kernel) rfl ⟨rfl, rfl⟩ ⟨Nat.le_of_ble_eq_true rfl, Nat.le_of_ble_eq_true rfl⟩ ⟨Nat.le_of_ble_eq_true rfl, Nat.le_of_ble_eq_true rfl⟩ hN (hT0.keep hS hAs) hAs (Nat.le_trans hB0 hS.1) hK hP hD [1, 2, 0] (by decide) rfl [0] rfl 1 5 rfl rfl rfl hl.1 rfl (Nat.le_of_ble_eq_true rfl) d_ListReader_readList_27) hS (fun q _ h => hFc q h) hFc (fun u27 tS H27 locs ht hvm hw27 hB hz1 hk1 hS => ?_)
  obtain ⟨a27_0, a27_1, a27_2⟩ := u27
  obtain ⟨hP1, hK1, hD1⟩ := hB
  rw [ht] at hP1
  obtain ⟨hP, hD⟩ := va_join (wr := []) (w1 := [(h, .inr (5, [.ref res, .int ie, .ref t, .int (nI 0), .int (nI 0), .int (wI (some 0)), .int 0, .int ma, .int ex, .ref ki])), (t, .inl (cB, 0, .inl (tx eU))), (res, .inr (2, [.ref k0, .ref k1, .ref k2, .ref k3, .ref k4, .ref a27_0, .long a27_1, .long a27_2, .int k8]))]) hP hD [1, 2, 0] [] rfl rfl (by decide) (by decide) hk1 hFc hP1 hD1
  have hP : va_P (dC, dI) classes [(h, .inr (5, [.ref res, .int ie, .ref t, .int (nI 0), .int (nI 0), .int (wI (some 0)), .int 0, .int ma, .int ex, .ref ki])), (t, .inl (cB, 0, .inl (tx eU))), (res, .inr (2, [.ref k0, .ref k1, .ref k2, .ref k3, .ref k4, .ref a27_0, .long a27_1, .long a27_2, .int k8]))] H27 := hP
  have hD : va_D A [(h, .inr (5, [.ref res, .int ie, .ref t, .int (nI 0), .int (nI 0), .int (wI (some 0)), .int 0, .int ma, .int ex, .ref ki])), (t, .inl (cB, 0, .inl (tx eU))), (res, .inr (2, [.ref k0, .ref k1, .ref k2, .ref k3, .ref k4, .ref a27_0, .long a27_1, .long a27_2, .int k8]))] := hD
  refine lv_aload_n hx hb d_ListReader_readList_30 rfl (lv_at hl 3 rfl) ?_
  refine lv_aload_n hx hb d_ListReader_readList_31 rfl (lv_at hl 3 rfl) ?_
  refine lv_bipush (v := 48) hx hb d_ListReader_readList_32 (by decide) ?_
  refine lv_iload_n hx hb d_ListReader_readList_34 rfl (lv_at hl 0 rfl) ?_
  refine vp_callSi (pu_callU (As := [.int 48, .int (nI 0)]) (rest := [.ref h]) ⟨hx, hb, hml, hown, hts⟩ (cL_nextIs l dC dI sb h res t ki 0 0 0 (some 0) 0 ma ex ie cB eU 48 0 eU_lt (by decide) ew_0 (Nat.le_refl 0) (Nat.le_refl 0) (by decide)) (cu_of (n := 2) hts tbin q5_111 q5_112 q3_207 q5_113 q1_15 q3_211 rfl (by decide +kernel) ⟨rfl, rfl⟩ ⟨Nat.le_of_ble_eq_true rfl, Nat.le_of_ble_eq_true rfl⟩) rfl ⟨Nat.le_of_ble_eq_true rfl, Nat.le_of_ble_eq_true rfl⟩ hN (hT0.keep hS hAs) hK hP [0, 1] rfl [0] rfl 0 5 rfl rfl rfl hl.1 rfl (Nat.le_of_ble_eq_true rfl) d_ListReader_readList_35) (fun r35 hr35 => ?_)
  refine va_put (v := .int r35) (ty := .boolean) hx hb htb i_ListReader t_ListReader t_ListReader_ok n_ListReader hown hK hP hD hS 0 rfl rfl 1 (by decide) (htb _ q5_77) (fun _ h9 => h9) rfl (by decide +kernel) (bz_n hr35) (bz_fit hr35) (Nat.le_of_ble_eq_true rfl) d_ListReader_readList_38 (fun H38 locs hP hD hS => ?_)
  have hP : va_P (dC, dI) classes [(h, .inr (5, [.ref res, .int r35, .ref t, .int (nI 0), .int (nI 0), .int (wI (some 0)), .int 0, .int ma, .int ex, .ref ki])), (t, .inl (cB, 0, .inl (tx eU))), (res, .inr (2, [.ref k0, .ref k1, .ref k2, .ref k3, .ref k4, .ref a27_0, .long a27_1, .long a27_2, .int k8]))] H38 := hP
  have hD : va_D A [(h, .inr (5, [.ref res, .int r35, .ref t, .int (nI 0), .int (nI 0), .int (wI (some 0)), .int 0, .int ma, .int ex, .ref ki])), (t, .inl (cB, 0, .inl (tx eU))), (res, .inr (2, [.ref k0, .ref k1, .ref k2, .ref k3, .ref k4, .ref a27_0, .long a27_1, .long a27_2, .int k8]))] := hD
  refine lv_aload_n hx hb d_ListReader_readList_41 rfl (lv_at hl 3 rfl) ?_
  refine va_get (v := .int r35) hx hb htb i_ListReader hown hK hP 0 rfl rfl 1 (by decide) (htb _ q5_77) (fun _ h9 => h9) rfl d_ListReader_readList_42 ?_
  refine lv_if_eq (tgt := 58) hx hb d_ListReader_readList_45 (by decide) (fun c45 => ?_) (fun c45 => ?_)
  rotate_left
  · exact nomatch (bz_1 hr35 c45).1
  refine lv_aload_n hx hb d_ListReader_readList_58 rfl (lv_at hl 3 rfl) ?_
  refine va_get (v := .int (nI 0)) hx hb htb i_ListReader hown hK hP 0 rfl rfl 3 (by decide) (htb _ q3_65) (fun x9 h9 => u_same (htb _ q3_66) x9 h9) rfl d_ListReader_readList_59 ?_
  refine lv_istore (lv' := [(4, .int (nI 0)), (3, .int (nI 0)), (2, .int (nI 0)), (1, .int (nI 0)), (0, .ref h)]) hx hb d_ListReader_readList_62 hl (by decide) rfl (fun ls hl => ?_)
  refine lv_iconst (v := 0) hx hb d_ListReader_readList_64 (by decide) ?_
  refine lv_istore (lv' := [(5, .int 0), (4, .int (nI 0)), (3, .int (nI 0)), (2, .int (nI 0)), (1, .int (nI 0)), (0, .ref h)]) hx hb d_ListReader_readList_65 hl (by decide) rfl (fun ls hl => ?_)
  refine lv_iload hx hb d_ListReader_readList_67 (lv_at hl 0 rfl) ?_
  refine lv_sipush (v := 2048) hx hb d_ListReader_readList_69 (by decide) ?_
  refine lv_icmp_ge (tgt := 155) hx hb d_ListReader_readList_72 (by decide) (fun c72 => ?_) (fun c72 => ?_)
  · exact absurd c72 (by decide)
  refine lv_aload_n hx hb d_ListReader_readList_75 rfl (lv_at hl 5 rfl) ?_
  refine va_get (v := .int r35) hx hb htb i_ListReader hown hK hP 0 rfl rfl 1 (by decide) (htb _ q5_77) (fun _ h9 => h9) rfl d_ListReader_readList_76 ?_
  refine lv_if_eq (tgt := 155) hx hb d_ListReader_readList_79 (by decide) (fun c79 => ?_) (fun c79 => ?_)
  rotate_left
  · exact nomatch (bz_1 hr35 c79).1
  refine lv_aload_n hx hb d_ListReader_readList_155 rfl (lv_at hl 5 rfl) ?_
  refine lv_sipush (v := 160) hx hb d_ListReader_readList_156 (by decide) ?_
  refine lv_iload_n hx hb d_ListReader_readList_159 rfl (lv_at hl 2 rfl) ?_
  refine vp_callSi (pu_callU (As := [.int 160, .int (nI 0)]) (rest := []) ⟨hx, hb, hml, hown, hts⟩ (cL_nextIs l dC dI sb h res t ki 0 0 0 (some 0) 0 ma ex r35 cB eU 160 0 eU_lt (by decide) ew_0 (Nat.le_refl 0) (Nat.le_refl 0) (by decide)) (cu_of (n := 2) hts tbin q5_111 q5_112 q3_207 q5_113 q1_15 q3_211 rfl (by decide +kernel) ⟨rfl, rfl⟩ ⟨Nat.le_of_ble_eq_true rfl, Nat.le_of_ble_eq_true rfl⟩) rfl ⟨Nat.le_of_ble_eq_true rfl, Nat.le_of_ble_eq_true rfl⟩ hN (hT0.keep hS hAs) hK hP [0, 1] rfl [0] rfl 0 5 rfl rfl rfl hl.1 rfl (Nat.le_of_ble_eq_true rfl) d_ListReader_readList_160) (fun r160 hr160 => ?_)
  refine lv_if_eq (tgt := 188) hx hb d_ListReader_readList_163 (by decide) (fun c163 => ?_) (fun c163 => ?_)
  rotate_left
  · exact nomatch (bz_1 hr160 c163).1
  refine lv_aload_n hx hb d_ListReader_readList_188 rfl (lv_at hl 5 rfl) ?_
  refine lv_iload_n hx hb d_ListReader_readList_189 rfl (lv_at hl 2 rfl) ?_
  have hFc := va_free (wc := [(h, .inr (5, [.ref res, .int r35, .ref t, .int (nI 0), .int (nI 0), .int (wI (some 0)), .int 0, .int ma, .int ex, .ref ki]))]) hD hS hA [0] rfl
  refine va_callv (mu_runU (As := [.int (nI 0)]) (rest := []) ⟨hx, hb, hml, hown, hts⟩ (cL_finish l dC dI sb h res t ki 0 0 0 (some 0) 0 ma ex r35 cB eU 0 H38.size ew_0 (by decide) (by decide)) (cu_of (n := 1) hts tbin q5_121 q5_122 q3_163 q5_123 q1_15 q3_164 rfl (by decide +kernel) ⟨rfl, rfl⟩ ⟨Nat.le_of_ble_eq_true rfl, Nat.le_of_ble_eq_true rfl⟩) rfl ⟨Nat.le_of_ble_eq_true rfl, Nat.le_of_ble_eq_true rfl⟩ hN (hT0.keep hS hAs) hAs (Nat.le_trans hB0 hS.1) hK hP hD [0] (by decide) rfl [] rfl 0 5 rfl rfl rfl hl.1 rfl (Nat.le_of_ble_eq_true rfl) d_ListReader_readList_190) hS (fun q _ h => hFc q h) hFc (fun u190 tS H190 locs ht hvm hw190 hB hz1 hk1 hS => ?_)
  obtain ⟨x190, rfl⟩ : ∃ z, z = u190 := ⟨_, rfl⟩
  obtain ⟨hP1, hK1, hD1⟩ := hB
  rw [ht] at hP1
  obtain ⟨hP, hD⟩ := va_join (wr := [(t, .inl (cB, 0, .inl (tx eU))), (res, .inr (2, [.ref k0, .ref k1, .ref k2, .ref k3, .ref k4, .ref a27_0, .long a27_1, .long a27_2, .int k8]))]) (w1 := [(h, .inr (5, [.ref res, .int r35, .ref t, .int (nI x190.1), .int (nI x190.2.1), .int (wI x190.2.2), .int 0, .int ma, .int ex, .ref ki]))]) hP hD [0] [1, 2] rfl rfl (by decide) (by decide) hk1 hFc hP1 hD1
  have hP : va_P (dC, dI) classes [(t, .inl (cB, 0, .inl (tx eU))), (res, .inr (2, [.ref k0, .ref k1, .ref k2, .ref k3, .ref k4, .ref a27_0, .long a27_1, .long a27_2, .int k8])), (h, .inr (5, [.ref res, .int r35, .ref t, .int (nI x190.1), .int (nI x190.2.1), .int (wI x190.2.2), .int 0, .int ma, .int ex, .ref ki]))] H190 := hP
  have hD : va_D A [(t, .inl (cB, 0, .inl (tx eU))), (res, .inr (2, [.ref k0, .ref k1, .ref k2, .ref k3, .ref k4, .ref a27_0, .long a27_1, .long a27_2, .int k8])), (h, .inr (5, [.ref res, .int r35, .ref t, .int (nI x190.1), .int (nI x190.2.1), .int (wI x190.2.2), .int 0, .int ma, .int ex, .ref ki]))] := hD
  obtain rfl : x190 = ((0, 0, some 0) : rS) := hw190
  have hP : va_P (dC, dI) classes [(t, .inl (cB, 0, .inl (tx eU))), (res, .inr (2, [.ref k0, .ref k1, .ref k2, .ref k3, .ref k4, .ref a27_0, .long a27_1, .long a27_2, .int k8])), (h, .inr (5, [.ref res, .int r35, .ref t, .int (nI 0), .int (nI 0), .int (wI (some 0)), .int 0, .int ma, .int ex, .ref ki]))] H190 := hP
  have hD : va_D A [(t, .inl (cB, 0, .inl (tx eU))), (res, .inr (2, [.ref k0, .ref k1, .ref k2, .ref k3, .ref k4, .ref a27_0, .long a27_1, .long a27_2, .int k8])), (h, .inr (5, [.ref res, .int r35, .ref t, .int (nI 0), .int (nI 0), .int (wI (some 0)), .int 0, .int ma, .int ex, .ref ki]))] := hD
  refine lv_aload_n hx hb d_ListReader_readList_193 rfl (lv_at hl 5 rfl) ?_
  refine va_get (v := .ref res) hx hb htb i_ListReader hown hK hP 2 rfl rfl 0 (by decide) (htb _ q5_75) (fun _ h9 => h9) rfl d_ListReader_readList_194 ?_
  refine va_new (ci := 0) (fs := [.null, .int 0, .int 0]) hx hb htb i_Slice t_Slice t_Slice_ok hown (htb _ q5_62) (htb _ q2_92) (htb _ q1_22) hK hP hD hS hA rfl (fun j hj => by rcases (show j = 0 ∨ j = 1 ∨ j = 2 by omega) with rfl | rfl | rfl <;> rfl) (Nat.le_of_ble_eq_true rfl) (Nat.le_of_ble_eq_true rfl) d_ListReader_readList_197 (fun q197 H197 hP hD hS => ?_)
  have hP : va_P (dC, dI) classes [(t, .inl (cB, 0, .inl (tx eU))), (res, .inr (2, [.ref k0, .ref k1, .ref k2, .ref k3, .ref k4, .ref a27_0, .long a27_1, .long a27_2, .int k8])), (h, .inr (5, [.ref res, .int r35, .ref t, .int (nI 0), .int (nI 0), .int (wI (some 0)), .int 0, .int ma, .int ex, .ref ki])), (q197, .inr (0, [.null, .int 0, .int 0]))] H197 := hP
  have hD : va_D A [(t, .inl (cB, 0, .inl (tx eU))), (res, .inr (2, [.ref k0, .ref k1, .ref k2, .ref k3, .ref k4, .ref a27_0, .long a27_1, .long a27_2, .int k8])), (h, .inr (5, [.ref res, .int r35, .ref t, .int (nI 0), .int (nI 0), .int (wI (some 0)), .int 0, .int ma, .int ex, .ref ki])), (q197, .inr (0, [.null, .int 0, .int 0]))] := hD
  refine lv_dup hx hb d_ListReader_readList_200 rfl ?_
  refine lv_aload_n hx hb d_ListReader_readList_201 rfl (lv_at hl 5 rfl) ?_
  refine va_get (v := .ref t) hx hb htb i_ListReader hown hK hP 2 rfl rfl 2 (by decide) (htb _ q3_60) (fun x9 h9 => u_same (htb _ q3_61) x9 h9) rfl d_ListReader_readList_202 ?_
  refine lv_iload_n hx hb d_ListReader_readList_205 rfl (lv_at hl 3 rfl) ?_
  refine lv_iload_n hx hb d_ListReader_readList_206 rfl (lv_at hl 2 rfl) ?_
  have hFc := va_free (wc := [(q197, .inr (0, [.null, .int 0, .int 0]))]) hD hS hA [3] rfl
  refine va_callv (mu_runI (As := [.ref t, .int (nI 0), .int (nI 0)]) (rest := [.ref q197, .ref res]) ⟨hx, hb, hml, hown, hts⟩ tbin (c_Slice_init l dC dI sb q197 t (nI 0) (nI 0) H197.size) q5_63 q2_94 q1_22 q2_95 rfl (n := 3) (by decide +kernel) rfl ⟨rfl, rfl⟩ ⟨Nat.le_of_ble_eq_true rfl, Nat.le_of_ble_eq_true rfl⟩ ⟨Nat.le_of_ble_eq_true rfl, Nat.le_of_ble_eq_true rfl⟩ hN (hT0.keep hS hAs) hAs (Nat.le_trans hB0 hS.1) hK hP hD [3] (by decide) rfl [] rfl hl.1 rfl (Nat.le_of_ble_eq_true rfl) d_ListReader_readList_207) hS (fun q _ h => hFc q h) hFc (fun u207 tS H207 locs ht hvm hw207 hB hz1 hk1 hS => ?_)
  skip
  obtain ⟨hP1, hK1, hD1⟩ := hB
  rw [ht] at hP1
  obtain ⟨hP, hD⟩ := va_join (wr := [(t, .inl (cB, 0, .inl (tx eU))), (res, .inr (2, [.ref k0, .ref k1, .ref k2, .ref k3, .ref k4, .ref a27_0, .long a27_1, .long a27_2, .int k8])), (h, .inr (5, [.ref res, .int r35, .ref t, .int (nI 0), .int (nI 0), .int (wI (some 0)), .int 0, .int ma, .int ex, .ref ki]))]) (w1 := [(q197, .inr (0, [.ref t, .int (nI 0), .int (nI 0)]))]) hP hD [3] [0, 1, 2] rfl rfl (by decide) (by decide) hk1 hFc hP1 hD1
  have hP : va_P (dC, dI) classes [(t, .inl (cB, 0, .inl (tx eU))), (res, .inr (2, [.ref k0, .ref k1, .ref k2, .ref k3, .ref k4, .ref a27_0, .long a27_1, .long a27_2, .int k8])), (h, .inr (5, [.ref res, .int r35, .ref t, .int (nI 0), .int (nI 0), .int (wI (some 0)), .int 0, .int ma, .int ex, .ref ki])), (q197, .inr (0, [.ref t, .int (nI 0), .int (nI 0)]))] H207 := hP
  have hD : va_D A [(t, .inl (cB, 0, .inl (tx eU))), (res, .inr (2, [.ref k0, .ref k1, .ref k2, .ref k3, .ref k4, .ref a27_0, .long a27_1, .long a27_2, .int k8])), (h, .inr (5, [.ref res, .int r35, .ref t, .int (nI 0), .int (nI 0), .int (wI (some 0)), .int 0, .int ma, .int ex, .ref ki])), (q197, .inr (0, [.ref t, .int (nI 0), .int (nI 0)]))] := hD
  refine va_put (v := .ref q197) (ty := (.object "TrustChain$Slice")) hx hb htb i_Paper t_Paper t_Paper_ok n_Paper hown hK hP hD hS 1 rfl rfl 3 (by decide) (htb _ q2_205) (fun _ h9 => h9) rfl (by decide +kernel) rfl rfl (Nat.le_of_ble_eq_true rfl) d_ListReader_readList_210 (fun H210 locs hP hD hS => ?_)
  have hP : va_P (dC, dI) classes [(t, .inl (cB, 0, .inl (tx eU))), (res, .inr (2, [.ref k0, .ref k1, .ref k2, .ref q197, .ref k4, .ref a27_0, .long a27_1, .long a27_2, .int k8])), (h, .inr (5, [.ref res, .int r35, .ref t, .int (nI 0), .int (nI 0), .int (wI (some 0)), .int 0, .int ma, .int ex, .ref ki])), (q197, .inr (0, [.ref t, .int (nI 0), .int (nI 0)]))] H210 := hP
  have hD : va_D A [(t, .inl (cB, 0, .inl (tx eU))), (res, .inr (2, [.ref k0, .ref k1, .ref k2, .ref q197, .ref k4, .ref a27_0, .long a27_1, .long a27_2, .int k8])), (h, .inr (5, [.ref res, .int r35, .ref t, .int (nI 0), .int (nI 0), .int (wI (some 0)), .int 0, .int ma, .int ex, .ref ki])), (q197, .inr (0, [.ref t, .int (nI 0), .int (nI 0)]))] := hD
  refine lv_aload_n hx hb d_ListReader_readList_213 rfl (lv_at hl 5 rfl) ?_
  refine va_get (v := .ref res) hx hb htb i_ListReader hown hK hP 2 rfl rfl 0 (by decide) (htb _ q5_75) (fun _ h9 => h9) rfl d_ListReader_readList_214 ?_
  refine lv_aload_n hx hb d_ListReader_readList_217 rfl (lv_at hl 5 rfl) ?_
  refine va_get (v := .int ma) hx hb htb i_ListReader hown hK hP 2 rfl rfl 7 (by decide) (htb _ q3_79) (fun x9 h9 => u_same (htb _ q3_80) x9 h9) rfl d_ListReader_readList_218 ?_
  refine va_put (v := .int ma) (ty := .int) hx hb htb i_Paper t_Paper t_Paper_ok n_Paper hown hK hP hD hS 1 rfl rfl 8 (by decide) (htb _ q2_233) (fun _ h9 => h9) rfl (by decide +kernel) rfl rfl (Nat.le_of_ble_eq_true rfl) d_ListReader_readList_221 (fun H221 locs hP hD hS => ?_)
  have hP : va_P (dC, dI) classes [(t, .inl (cB, 0, .inl (tx eU))), (res, .inr (2, [.ref k0, .ref k1, .ref k2, .ref q197, .ref k4, .ref a27_0, .long a27_1, .long a27_2, .int ma])), (h, .inr (5, [.ref res, .int r35, .ref t, .int (nI 0), .int (nI 0), .int (wI (some 0)), .int 0, .int ma, .int ex, .ref ki])), (q197, .inr (0, [.ref t, .int (nI 0), .int (nI 0)]))] H221 := hP
  have hD : va_D A [(t, .inl (cB, 0, .inl (tx eU))), (res, .inr (2, [.ref k0, .ref k1, .ref k2, .ref q197, .ref k4, .ref a27_0, .long a27_1, .long a27_2, .int ma])), (h, .inr (5, [.ref res, .int r35, .ref t, .int (nI 0), .int (nI 0), .int (wI (some 0)), .int 0, .int ma, .int ex, .ref ki])), (q197, .inr (0, [.ref t, .int (nI 0), .int (nI 0)]))] := hD
  refine lv_aload_n hx hb d_ListReader_readList_224 rfl (lv_at hl 5 rfl) ?_
  refine lv_aload_n hx hb d_ListReader_readList_225 rfl (lv_at hl 5 rfl) ?_
  refine va_get (v := .ref res) hx hb htb i_ListReader hown hK hP 2 rfl rfl 0 (by decide) (htb _ q5_75) (fun _ h9 => h9) rfl d_ListReader_readList_226 ?_
  refine lv_iload_n hx hb d_ListReader_readList_229 rfl (lv_at hl 4 rfl) ?_
  have hFc := va_free (wc := [(h, .inr (5, [.ref res, .int r35, .ref t, .int (nI 0), .int (nI 0), .int (wI (some 0)), .int 0, .int ma, .int ex, .ref ki])), (t, .inl (cB, 0, .inl (tx eU))), (res, .inr (2, [.ref k0, .ref k1, .ref k2, .ref q197, .ref k4, .ref a27_0, .long a27_1, .long a27_2, .int ma]))]) hD hS hA [2, 0, 1] rfl
  refine va_callv (mu_runU (As := [.ref res, .int (nI 0)]) (rest := []) ⟨hx, hb, hml, hown, hts⟩ (eL_readSignature l dC dI sb h res t ki 0 ma ex r35 cB k0 k1 k2 q197 k4 a27_0 ma a27_1 a27_2 H221.size) (cu_of (n := 2) hts tbin q5_127 q5_128 q4_229 q5_129 q1_15 q4_230 rfl (by decide +kernel) ⟨rfl, rfl⟩ ⟨Nat.le_of_ble_eq_true rfl, Nat.le_of_ble_eq_true rfl⟩) rfl ⟨Nat.le_of_ble_eq_true rfl, Nat.le_of_ble_eq_true rfl⟩ hN (hT0.keep hS hAs) hAs (Nat.le_trans hB0 hS.1) hK hP hD [2, 0, 1] (by decide) rfl [0] rfl 2 5 rfl rfl rfl hl.1 rfl (Nat.le_of_ble_eq_true rfl) d_ListReader_readList_230) hS (fun q _ h => hFc q h) hFc (fun u230 tS H230 locs ht hvm hw230 hB hz1 hk1 hS => ?_)
  obtain ⟨a230_0, rfl⟩ : ∃ z, z = u230 := ⟨_, rfl⟩
  obtain ⟨hP1, hK1, hD1⟩ := hB
  rw [ht] at hP1
  obtain ⟨hP, hD⟩ := va_join (wr := [(q197, .inr (0, [.ref t, .int (nI 0), .int (nI 0)]))]) (w1 := [(h, .inr (5, [.ref res, .int r35, .ref t, .int (nI 0), .int (nI 0), .int (wI (some 0)), .int 0, .int ma, .int ex, .ref ki])), (t, .inl (cB, 0, .inl (tx eU))), (res, .inr (2, [.ref k0, .ref k1, .ref k2, .ref q197, .ref a230_0, .ref a27_0, .long a27_1, .long a27_2, .int ma]))]) hP hD [2, 0, 1] [3] rfl rfl (by decide) (by decide) hk1 hFc hP1 hD1
  have hP : va_P (dC, dI) classes [(q197, .inr (0, [.ref t, .int (nI 0), .int (nI 0)])), (h, .inr (5, [.ref res, .int r35, .ref t, .int (nI 0), .int (nI 0), .int (wI (some 0)), .int 0, .int ma, .int ex, .ref ki])), (t, .inl (cB, 0, .inl (tx eU))), (res, .inr (2, [.ref k0, .ref k1, .ref k2, .ref q197, .ref a230_0, .ref a27_0, .long a27_1, .long a27_2, .int ma]))] H230 := hP
  have hD : va_D A [(q197, .inr (0, [.ref t, .int (nI 0), .int (nI 0)])), (h, .inr (5, [.ref res, .int r35, .ref t, .int (nI 0), .int (nI 0), .int (wI (some 0)), .int 0, .int ma, .int ex, .ref ki])), (t, .inl (cB, 0, .inl (tx eU))), (res, .inr (2, [.ref k0, .ref k1, .ref k2, .ref q197, .ref a230_0, .ref a27_0, .long a27_1, .long a27_2, .int ma]))] := hD
  exact W.vret hx hb hr (fun t ht hW => ⟨⟨(r35, q197, a230_0, a27_0, a27_1, a27_2), rfl, trivial, by rw [ht]; exact hP.sub [1, 2, 3] rfl, va_K.moved hW.alike hK, hD.sub [1, 2, 3] (by decide) rfl⟩, hS.F ht⟩) hS.2.2 d_ListReader_readList_233
