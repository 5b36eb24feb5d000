def y_Reader_isUtf8 : MethodName := ⟨"TrustChain$Reader", "isUtf8", "(II)Z"⟩
abbrev b_Reader_isUtf8 : ByteArray := prog_8_method_31_code
def w_Reader_isUtf8 : List Cond := Cond.code y_Reader_isUtf8 b_Reader_isUtf8 10 ((some FieldType.boolean)) :: tb
theorem d_Reader_isUtf8_0 : decode b_Reader_isUtf8 0 = .ok (.iconst 0, 1) := by decide +kernel
theorem d_Reader_isUtf8_1 : decode b_Reader_isUtf8 1 = .ok (.istore_n 3, 1) := by decide +kernel
theorem d_Reader_isUtf8_2 : decode b_Reader_isUtf8 2 = .ok (.iconst 0, 1) := by decide +kernel
theorem d_Reader_isUtf8_3 : decode b_Reader_isUtf8 3 = .ok (.istore 4, 2) := by decide +kernel
theorem d_Reader_isUtf8_5 : decode b_Reader_isUtf8 5 = .ok (.iconst 0, 1) := by decide +kernel
theorem d_Reader_isUtf8_6 : decode b_Reader_isUtf8 6 = .ok (.istore 5, 2) := by decide +kernel
theorem d_Reader_isUtf8_8 : decode b_Reader_isUtf8 8 = .ok (.iload_n 1, 1) := by decide +kernel
theorem d_Reader_isUtf8_9 : decode b_Reader_isUtf8 9 = .ok (.istore 6, 2) := by decide +kernel
theorem d_Reader_isUtf8_11 : decode b_Reader_isUtf8 11 = .ok (.iload 6, 2) := by decide +kernel
theorem d_Reader_isUtf8_13 : decode b_Reader_isUtf8 13 = .ok (.iload_n 2, 1) := by decide +kernel
theorem d_Reader_isUtf8_14 : decode b_Reader_isUtf8 14 = .ok (.if_icmp .ge 197, 3) := by decide +kernel
theorem d_Reader_isUtf8_17 : decode b_Reader_isUtf8 17 = .ok (.aload_n 0, 1) := by decide +kernel
theorem d_Reader_isUtf8_18 : decode b_Reader_isUtf8 18 = .ok (.iload 6, 2) := by decide +kernel
theorem d_Reader_isUtf8_20 : decode b_Reader_isUtf8 20 = .ok (.invokevirtual 45, 3) := by decide +kernel
theorem d_Reader_isUtf8_23 : decode b_Reader_isUtf8 23 = .ok (.istore 7, 2) := by decide +kernel
theorem d_Reader_isUtf8_25 : decode b_Reader_isUtf8 25 = .ok (.iload_n 3, 1) := by decide +kernel
theorem d_Reader_isUtf8_26 : decode b_Reader_isUtf8 26 = .ok (.ifCond .le 92, 3) := by decide +kernel
theorem d_Reader_isUtf8_29 : decode b_Reader_isUtf8 29 = .ok (.iload 5, 2) := by decide +kernel
theorem d_Reader_isUtf8_31 : decode b_Reader_isUtf8 31 = .ok (.bipush 6, 2) := by decide +kernel
theorem d_Reader_isUtf8_33 : decode b_Reader_isUtf8 33 = .ok (.ishl, 1) := by decide +kernel
theorem d_Reader_isUtf8_34 : decode b_Reader_isUtf8 34 = .ok (.iload 7, 2) := by decide +kernel
theorem d_Reader_isUtf8_36 : decode b_Reader_isUtf8 36 = .ok (.bipush 63, 2) := by decide +kernel
theorem d_Reader_isUtf8_38 : decode b_Reader_isUtf8 38 = .ok (.iand, 1) := by decide +kernel
theorem d_Reader_isUtf8_39 : decode b_Reader_isUtf8 39 = .ok (.ior, 1) := by decide +kernel
theorem d_Reader_isUtf8_40 : decode b_Reader_isUtf8 40 = .ok (.istore 5, 2) := by decide +kernel
theorem d_Reader_isUtf8_42 : decode b_Reader_isUtf8 42 = .ok (.iinc 3 (-1), 3) := by decide +kernel
theorem d_Reader_isUtf8_45 : decode b_Reader_isUtf8 45 = .ok (.iload 5, 2) := by decide +kernel
theorem d_Reader_isUtf8_47 : decode b_Reader_isUtf8 47 = .ok (.ldc 174, 2) := by decide +kernel
theorem d_Reader_isUtf8_49 : decode b_Reader_isUtf8 49 = .ok (.if_icmp .lt 14, 3) := by decide +kernel
theorem d_Reader_isUtf8_52 : decode b_Reader_isUtf8 52 = .ok (.iload 5, 2) := by decide +kernel
theorem d_Reader_isUtf8_54 : decode b_Reader_isUtf8 54 = .ok (.ldc 175, 2) := by decide +kernel
theorem d_Reader_isUtf8_56 : decode b_Reader_isUtf8 56 = .ok (.if_icmp .gt 7, 3) := by decide +kernel
theorem d_Reader_isUtf8_59 : decode b_Reader_isUtf8 59 = .ok (.iconst 1, 1) := by decide +kernel
theorem d_Reader_isUtf8_60 : decode b_Reader_isUtf8 60 = .ok (.goto 4, 3) := by decide +kernel
theorem d_Reader_isUtf8_63 : decode b_Reader_isUtf8 63 = .ok (.iconst 0, 1) := by decide +kernel
theorem d_Reader_isUtf8_64 : decode b_Reader_isUtf8 64 = .ok (.istore 8, 2) := by decide +kernel
theorem d_Reader_isUtf8_66 : decode b_Reader_isUtf8 66 = .ok (.iload_n 3, 1) := by decide +kernel
theorem d_Reader_isUtf8_67 : decode b_Reader_isUtf8 67 = .ok (.ifCond .ne 26, 3) := by decide +kernel
theorem d_Reader_isUtf8_70 : decode b_Reader_isUtf8 70 = .ok (.iload 5, 2) := by decide +kernel
theorem d_Reader_isUtf8_72 : decode b_Reader_isUtf8 72 = .ok (.iload 4, 2) := by decide +kernel
theorem d_Reader_isUtf8_74 : decode b_Reader_isUtf8 74 = .ok (.if_icmp .lt 15, 3) := by decide +kernel
theorem d_Reader_isUtf8_77 : decode b_Reader_isUtf8 77 = .ok (.iload 5, 2) := by decide +kernel
theorem d_Reader_isUtf8_79 : decode b_Reader_isUtf8 79 = .ok (.ldc 176, 2) := by decide +kernel
theorem d_Reader_isUtf8_81 : decode b_Reader_isUtf8 81 = .ok (.if_icmp .gt 8, 3) := by decide +kernel
theorem d_Reader_isUtf8_84 : decode b_Reader_isUtf8 84 = .ok (.iload 8, 2) := by decide +kernel
theorem d_Reader_isUtf8_86 : decode b_Reader_isUtf8 86 = .ok (.ifCond .eq 7, 3) := by decide +kernel
theorem d_Reader_isUtf8_89 : decode b_Reader_isUtf8 89 = .ok (.iconst 1, 1) := by decide +kernel
theorem d_Reader_isUtf8_90 : decode b_Reader_isUtf8 90 = .ok (.goto 4, 3) := by decide +kernel
theorem d_Reader_isUtf8_93 : decode b_Reader_isUtf8 93 = .ok (.iconst 0, 1) := by decide +kernel
theorem d_Reader_isUtf8_94 : decode b_Reader_isUtf8 94 = .ok (.istore 9, 2) := by decide +kernel
theorem d_Reader_isUtf8_96 : decode b_Reader_isUtf8 96 = .ok (.iload 7, 2) := by decide +kernel
theorem d_Reader_isUtf8_98 : decode b_Reader_isUtf8 98 = .ok (.sipush 192, 3) := by decide +kernel
theorem d_Reader_isUtf8_101 : decode b_Reader_isUtf8 101 = .ok (.iand, 1) := by decide +kernel
theorem d_Reader_isUtf8_102 : decode b_Reader_isUtf8 102 = .ok (.sipush 128, 3) := by decide +kernel
theorem d_Reader_isUtf8_105 : decode b_Reader_isUtf8 105 = .ok (.if_icmp .ne 8, 3) := by decide +kernel
theorem d_Reader_isUtf8_108 : decode b_Reader_isUtf8 108 = .ok (.iload 9, 2) := by decide +kernel
theorem d_Reader_isUtf8_110 : decode b_Reader_isUtf8 110 = .ok (.ifCond .eq 5, 3) := by decide +kernel
theorem d_Reader_isUtf8_113 : decode b_Reader_isUtf8 113 = .ok (.iconst 0, 1) := by decide +kernel
theorem d_Reader_isUtf8_114 : decode b_Reader_isUtf8 114 = .ok (.ireturn, 1) := by decide +kernel
theorem d_Reader_isUtf8_115 : decode b_Reader_isUtf8 115 = .ok (.goto 90, 3) := by decide +kernel
theorem d_Reader_isUtf8_118 : decode b_Reader_isUtf8 118 = .ok (.iload 7, 2) := by decide +kernel
theorem d_Reader_isUtf8_120 : decode b_Reader_isUtf8 120 = .ok (.sipush 128, 3) := by decide +kernel
theorem d_Reader_isUtf8_123 : decode b_Reader_isUtf8 123 = .ok (.if_icmp .lt 82, 3) := by decide +kernel
theorem d_Reader_isUtf8_126 : decode b_Reader_isUtf8 126 = .ok (.iload 7, 2) := by decide +kernel
theorem d_Reader_isUtf8_128 : decode b_Reader_isUtf8 128 = .ok (.sipush 192, 3) := by decide +kernel
theorem d_Reader_isUtf8_131 : decode b_Reader_isUtf8 131 = .ok (.if_icmp .lt 11, 3) := by decide +kernel
theorem d_Reader_isUtf8_134 : decode b_Reader_isUtf8 134 = .ok (.iload 7, 2) := by decide +kernel
theorem d_Reader_isUtf8_136 : decode b_Reader_isUtf8 136 = .ok (.sipush 248, 3) := by decide +kernel
theorem d_Reader_isUtf8_139 : decode b_Reader_isUtf8 139 = .ok (.if_icmp .lt 5, 3) := by decide +kernel
theorem d_Reader_isUtf8_142 : decode b_Reader_isUtf8 142 = .ok (.iconst 0, 1) := by decide +kernel
theorem d_Reader_isUtf8_143 : decode b_Reader_isUtf8 143 = .ok (.ireturn, 1) := by decide +kernel
theorem d_Reader_isUtf8_144 : decode b_Reader_isUtf8 144 = .ok (.iload 7, 2) := by decide +kernel
theorem d_Reader_isUtf8_146 : decode b_Reader_isUtf8 146 = .ok (.sipush 224, 3) := by decide +kernel
theorem d_Reader_isUtf8_149 : decode b_Reader_isUtf8 149 = .ok (.if_icmp .ge 7, 3) := by decide +kernel
theorem d_Reader_isUtf8_152 : decode b_Reader_isUtf8 152 = .ok (.iconst 1, 1) := by decide +kernel
theorem d_Reader_isUtf8_153 : decode b_Reader_isUtf8 153 = .ok (.goto 16, 3) := by decide +kernel
theorem d_Reader_isUtf8_156 : decode b_Reader_isUtf8 156 = .ok (.iload 7, 2) := by decide +kernel
theorem d_Reader_isUtf8_158 : decode b_Reader_isUtf8 158 = .ok (.sipush 240, 3) := by decide +kernel
theorem d_Reader_isUtf8_161 : decode b_Reader_isUtf8 161 = .ok (.if_icmp .ge 7, 3) := by decide +kernel
theorem d_Reader_isUtf8_164 : decode b_Reader_isUtf8 164 = .ok (.iconst 2, 1) := by decide +kernel
theorem d_Reader_isUtf8_165 : decode b_Reader_isUtf8 165 = .ok (.goto 4, 3) := by decide +kernel
theorem d_Reader_isUtf8_168 : decode b_Reader_isUtf8 168 = .ok (.iconst 3, 1) := by decide +kernel
theorem d_Reader_isUtf8_169 : decode b_Reader_isUtf8 169 = .ok (.istore_n 3, 1) := by decide +kernel
theorem d_Reader_isUtf8_170 : decode b_Reader_isUtf8 170 = .ok (.iload_n 3, 1) := by decide +kernel
theorem d_Reader_isUtf8_171 : decode b_Reader_isUtf8 171 = .ok (.iconst 1, 1) := by decide +kernel
theorem d_Reader_isUtf8_172 : decode b_Reader_isUtf8 172 = .ok (.if_icmp .ne 9, 3) := by decide +kernel
theorem d_Reader_isUtf8_175 : decode b_Reader_isUtf8 175 = .ok (.sipush 128, 3) := by decide +kernel
theorem d_Reader_isUtf8_178 : decode b_Reader_isUtf8 178 = .ok (.goto 16, 3) := by decide +kernel
theorem d_Reader_isUtf8_181 : decode b_Reader_isUtf8 181 = .ok (.iload_n 3, 1) := by decide +kernel
theorem d_Reader_isUtf8_182 : decode b_Reader_isUtf8 182 = .ok (.iconst 2, 1) := by decide +kernel
theorem d_Reader_isUtf8_183 : decode b_Reader_isUtf8 183 = .ok (.if_icmp .ne 9, 3) := by decide +kernel
theorem d_Reader_isUtf8_186 : decode b_Reader_isUtf8 186 = .ok (.sipush 2048, 3) := by decide +kernel
theorem d_Reader_isUtf8_189 : decode b_Reader_isUtf8 189 = .ok (.goto 5, 3) := by decide +kernel
theorem d_Reader_isUtf8_192 : decode b_Reader_isUtf8 192 = .ok (.ldc 177, 2) := by decide +kernel
theorem d_Reader_isUtf8_194 : decode b_Reader_isUtf8 194 = .ok (.istore 4, 2) := by decide +kernel
theorem d_Reader_isUtf8_196 : decode b_Reader_isUtf8 196 = .ok (.iload 7, 2) := by decide +kernel
theorem d_Reader_isUtf8_198 : decode b_Reader_isUtf8 198 = .ok (.bipush 63, 2) := by decide +kernel
theorem d_Reader_isUtf8_200 : decode b_Reader_isUtf8 200 = .ok (.iload_n 3, 1) := by decide +kernel
theorem d_Reader_isUtf8_201 : decode b_Reader_isUtf8 201 = .ok (.ishr, 1) := by decide +kernel
theorem d_Reader_isUtf8_202 : decode b_Reader_isUtf8 202 = .ok (.iand, 1) := by decide +kernel
theorem d_Reader_isUtf8_203 : decode b_Reader_isUtf8 203 = .ok (.istore 5, 2) := by decide +kernel
theorem d_Reader_isUtf8_205 : decode b_Reader_isUtf8 205 = .ok (.iinc 6 1, 3) := by decide +kernel
theorem d_Reader_isUtf8_208 : decode b_Reader_isUtf8 208 = .ok (.goto (-197), 3) := by decide +kernel
theorem d_Reader_isUtf8_211 : decode b_Reader_isUtf8 211 = .ok (.iload_n 3, 1) := by decide +kernel
theorem d_Reader_isUtf8_212 : decode b_Reader_isUtf8 212 = .ok (.ifCond .ne 7, 3) := by decide +kernel
theorem d_Reader_isUtf8_215 : decode b_Reader_isUtf8 215 = .ok (.iconst 1, 1) := by decide +kernel
theorem d_Reader_isUtf8_216 : decode b_Reader_isUtf8 216 = .ok (.goto 4, 3) := by decide +kernel
theorem d_Reader_isUtf8_219 : decode b_Reader_isUtf8 219 = .ok (.iconst 0, 1) := by decide +kernel
theorem d_Reader_isUtf8_220 : decode b_Reader_isUtf8 220 = .ok (.ireturn, 1) := by decide +kernel
set_option maxHeartbeats 4000000 in
set_option maxRecDepth 100000 in
theorem cC_isUtf8 (l : Launch) (dC : Nat → ClassId) (dI : Nat → Nat → Nat) (sb : sB) (h res t ki : Nat) (pp s0 n : Nat) (w : Option Nat) (pa ma ex ie : Int32) (cB : ClassId) (u : Nat → Nat) (a b : Nat) (hu : ∀ j, u j < 256) (hn : n < 2 ^ 30) (hab : a ≤ b) (hb2 : b ≤ n) : Met l y_Reader_isUtf8 w_Reader_isUtf8 ({ frames := 1, cells := 0, slots := 0, locals := 21 }) (pu_P [.ref h, .int (nI a), .int (nI b)] (dC, dI) sb [(h, .inr (4, [.ref res, .ref t, .int (nI pp), .int (nI s0), .int (wI w), .int pa, .int ma, .int ex, .ref ki])), (t, .inl (cB, n, .inl (tx u)))] [(cB, .byte)]) (vp_Si (fun r => bz r (utOK u a b))) 0 0 (fun _ => False) := by
  refine Met.ofW (cc := b_Reader_isUtf8) (maxL := 10) (ret := (some FieldType.boolean)) (by decide) rfl ?_
  intro p e s m args below meth c s₁ B hml hv
  obtain ⟨rfl, hP, hK, hN, hT0⟩ := hv
  have hx := B.exec
  have hb := B.bytes
  have hr := B.returns
  have hts := atoms_spec (ws := w_Reader_isUtf8) B.pre
  have tbin : ∀ w ∈ tb, w ∈ w_Reader_isUtf8 := fun w h => List.mem_cons_of_mem _ h
  have htb : ∀ w ∈ tb, w.before _ s = true := fun w h => hts w (tbin w h)
  have hown : s.vm.findClass "TrustChain$Reader" = some m.cls := findClass_of_methodNamed B.named
  have hlocks := B.notSynchronized
  have hcs : 0 ≤ (headSpec w_Reader_isUtf8 ({ frames := 1, cells := 0, slots := 0, locals := 21 })).room.cells ∧ 0 ≤ (headSpec w_Reader_isUtf8 ({ frames := 1, cells := 0, slots := 0, locals := 21 })).room.slots := ⟨Nat.zero_le _, Nat.zero_le _⟩
  have hP : va_P (dC, dI) classes [(h, .inr (4, [.ref res, .ref t, .int (nI pp), .int (nI s0), .int (wI w), .int pa, .int ma, .int ex, .ref ki])), (t, .inl (cB, n, .inl (tx u)))] s.heap := hP
  have hl := lv_entry ([.ref h, .int (nI a), .int (nI b)]) (n := 10) (Nat.le_of_ble_eq_true rfl)
  rw [lg_entry_eq]
  generalize (lg_sl ([.ref h, .int (nI a), .int (nI b)]) ++ List.replicate (10 - (lg_sl ([.ref h, .int (nI a), .int (nI b)])).length) Slot.unset).toArray = ls at hl ⊢
  have hl : lv_has ls 10 [(0, .ref h), (1, .int (nI a)), (2, .int (nI b))] := hl
  refine lv_iconst (v := 0) hx hb d_Reader_isUtf8_0 (by decide) ?_
  refine lv_istore_n (lv' := [(3, .int 0), (0, .ref h), (1, .int (nI a)), (2, .int (nI b))]) hx hb d_Reader_isUtf8_1 rfl hl (by decide) rfl (fun ls hl => ?_)
  refine lv_iconst (v := 0) hx hb d_Reader_isUtf8_2 (by decide) ?_
  refine lv_istore (lv' := [(4, .int 0), (3, .int 0), (0, .ref h), (1, .int (nI a)), (2, .int (nI b))]) hx hb d_Reader_isUtf8_3 hl (by decide) rfl (fun ls hl => ?_)
  refine lv_iconst (v := 0) hx hb d_Reader_isUtf8_5 (by decide) ?_
  refine lv_istore (lv' := [(5, .int 0), (4, .int 0), (3, .int 0), (0, .ref h), (1, .int (nI a)), (2, .int (nI b))]) hx hb d_Reader_isUtf8_6 hl (by decide) rfl (fun ls hl => ?_)
  refine lv_iload_n hx hb d_Reader_isUtf8_8 rfl (lv_at hl 4 rfl) ?_
  refine lv_istore (lv' := [(6, .int (nI a)), (5, .int 0), (4, .int 0), (3, .int 0), (0, .ref h), (1, .int (nI a)), (2, .int (nI b))]) hx hb d_Reader_isUtf8_9 hl (by decide) rfl (fun ls hl => ?_)
  refine w_loop (α := Nat × Int32 × Int32 × Int32) (fun z => z.1 ≤ b - a ∧ utG u a z.1 = some z.2) (fun z => b - a - z.1) (fun z => [(0, .ref h), (1, .int (nI a)), (2, .int (nI b)), (3, .int z.2.1), (4, .int z.2.2.1), (5, .int z.2.2.2), (6, .int (nI (a + z.1)))]) (fun _ => []) 10 11 (fun z ls hJ hl ih => ?_) (0, 0, 0, 0) ls ⟨Nat.zero_le _, rfl⟩ (lv_sub hl [4, 5, 6, 3, 2, 1, 0] rfl)
  refine lv_iload hx hb d_Reader_isUtf8_11 (lv_at hl 6 rfl) ?_
  refine lv_iload_n hx hb d_Reader_isUtf8_13 rfl (lv_at hl 2 rfl) ?_
  refine lv_icmp_ge (tgt := 211) hx hb d_Reader_isUtf8_14 (by decide) (fun c14 => ?_) (fun c14 => ?_)
  · have hke : z.1 = b - a := by rw [nI_leI (by omega) (by omega)] at c14; omega
    refine lv_iload_n hx hb d_Reader_isUtf8_211 rfl (lv_at hl 3 rfl) ?_
    refine lv_if_ne (tgt := 219) hx hb d_Reader_isUtf8_212 (by decide) (fun c212 => ?_) (fun c212 => ?_)
    · refine lv_iconst (v := 0) hx hb d_Reader_isUtf8_219 (by decide) ?_
      exact W.zret (v := 0) hx hb hr (by decide) (fun t ht hW => ⟨_, rfl, bz_f (fun q => by obtain ⟨y, h1, h2⟩ := q; rw [← hke, hJ.2] at h1; cases h1; exact c212 h2), ht⟩) (fun q h => by cases h) d_Reader_isUtf8_220
    · refine lv_iconst (v := 1) hx hb d_Reader_isUtf8_215 (by decide) ?_
      refine lv_goto (tgt := 220) hx hb d_Reader_isUtf8_216 (by decide) ?_
      exact W.zret (v := 1) hx hb hr (by decide) (fun t ht hW => ⟨_, rfl, bz_t ⟨_, hke ▸ hJ.2, c212⟩, ht⟩) (fun q h => by cases h) d_Reader_isUtf8_220
  · have hlt : a + z.1 < b := by rw [nI_leI (by omega) (by omega)] at c14; omega
    refine lv_aload_n hx hb d_Reader_isUtf8_17 rfl (lv_at hl 0 rfl) ?_
    refine lv_iload hx hb d_Reader_isUtf8_18 (lv_at hl 6 rfl) ?_
    refine vp_callSi (pu_callU (As := [.int (nI (a + z.1))]) (rest := []) ⟨hx, hb, hml, hown, hts⟩ (cC_octet l dC dI sb h res t ki pp s0 n w pa ma ex ie cB u (nI (a + z.1)) hu hn) (cu_of (n := 1) hts tbin q3_114 q3_116 q3_115 q3_117 q1_15 q3_119 rfl (by decide +kernel) ⟨rfl, rfl⟩ ⟨Nat.le_of_ble_eq_true rfl, Nat.le_of_ble_eq_true rfl⟩) rfl ⟨Nat.le_of_ble_eq_true rfl, Nat.le_of_ble_eq_true rfl⟩ hN hT0 hK hP [0, 1] rfl [0] rfl 0 4 rfl rfl rfl hl.1 rfl (Nat.le_of_ble_eq_true rfl) d_Reader_isUtf8_20) (fun r20 hr20 => ?_)
    rw [show (r20 : Int32) = nI (u (a + z.1)) from by rw [hr20, oc_eq (by omega), oc, if_pos (by omega)]]
    refine lv_istore (lv' := [(7, .int (nI (u (a + z.1)))), (0, .ref h), (1, .int (nI a)), (2, .int (nI b)), (3, .int z.2.1), (4, .int z.2.2.1), (5, .int z.2.2.2), (6, .int (nI (a + z.1)))]) hx hb d_Reader_isUtf8_23 hl (by decide) rfl (fun ls hl => ?_)
    refine lv_iload_n hx hb d_Reader_isUtf8_25 rfl (lv_at hl 4 rfl) ?_
    refine lv_if_le (tgt := 118) hx hb d_Reader_isUtf8_26 (by decide) (fun c26 => ?_) (fun c26 => ?_)
    · have c26' : z.2.1 ≤ 0 := by simpa using c26
      refine lv_iload hx hb d_Reader_isUtf8_118 (lv_at hl 0 rfl) ?_
      refine lv_sipush (v := 128) hx hb d_Reader_isUtf8_120 (by decide) ?_
      refine lv_icmp_lt (tgt := 205) hx hb d_Reader_isUtf8_123 (by decide) (fun c123 => ?_) (fun c123 => ?_)
      · refine lv_iinc (v := nI (a + z.1 + 1)) (lv' := [(6, .int (nI (a + z.1 + 1))), (7, .int (nI (u (a + z.1)))), (0, .ref h), (1, .int (nI a)), (2, .int (nI b)), (3, .int z.2.1), (4, .int z.2.2.1), (5, .int z.2.2.2)]) hx hb d_Reader_isUtf8_205 hl (k := 7) rfl (nI_1 _) (by decide) rfl (fun ls hl => ?_)
        refine lv_goto (tgt := 11) hx hb d_Reader_isUtf8_208 (by decide) ?_
        exact ih (z.1 + 1, z.2.1, z.2.2.1, z.2.2.2) ls (by show b - a - (z.1 + 1) < b - a - z.1; omega) ⟨by show z.1 + 1 ≤ b - a; omega, utG_s hJ.2 (utS_3 c26' c123)⟩ (lv_sub hl [2, 3, 4, 5, 6, 7, 0] rfl)
      · refine lv_iload hx hb d_Reader_isUtf8_126 (lv_at hl 0 rfl) ?_
        refine lv_sipush (v := 192) hx hb d_Reader_isUtf8_128 (by decide) ?_
        refine lv_icmp_lt (tgt := 142) hx hb d_Reader_isUtf8_131 (by decide) (fun c131 => ?_) (fun c131 => ?_)
        · refine lv_iconst (v := 0) hx hb d_Reader_isUtf8_142 (by decide) ?_
          exact W.zret (v := 0) hx hb hr (by decide) (fun t ht hW => ⟨_, rfl, bz_f (fun q => ut_no hJ.2 (utS_4 c26' c123 (Or.inl c131)) (by omega) q), ht⟩) (fun q h => by cases h) d_Reader_isUtf8_143
        · refine lv_iload hx hb d_Reader_isUtf8_134 (lv_at hl 0 rfl) ?_
          refine lv_sipush (v := 248) hx hb d_Reader_isUtf8_136 (by decide) ?_
          refine lv_icmp_lt (tgt := 144) hx hb d_Reader_isUtf8_139 (by decide) (fun c139 => ?_) (fun c139 => ?_)
          · refine w_join (J := fun v => v = utL (nI (u (a + z.1)))) (pc := 169) (ls := ls) (rest := []) (fun v hv => ?_) (fun k169 => ?_)
            · skip
              refine lv_istore_n (lv' := [(3, .int v), (7, .int (nI (u (a + z.1)))), (0, .ref h), (1, .int (nI a)), (2, .int (nI b)), (4, .int z.2.2.1), (5, .int z.2.2.2), (6, .int (nI (a + z.1)))]) hx hb d_Reader_isUtf8_169 rfl hl (by decide) rfl (fun ls hl => ?_)
              refine w_join (J := fun v' => v' = utM v) (pc := 194) (ls := ls) (rest := []) (fun v' hv' => ?_) (fun k194 => ?_)
              · skip
                refine lv_istore (lv' := [(4, .int v'), (3, .int v), (7, .int (nI (u (a + z.1)))), (0, .ref h), (1, .int (nI a)), (2, .int (nI b)), (5, .int z.2.2.2), (6, .int (nI (a + z.1)))]) hx hb d_Reader_isUtf8_194 hl (by decide) rfl (fun ls hl => ?_)
                refine lv_iload hx hb d_Reader_isUtf8_196 (lv_at hl 2 rfl) ?_
                refine lv_bipush (v := 63) hx hb d_Reader_isUtf8_198 (by decide) ?_
                refine lv_iload_n hx hb d_Reader_isUtf8_200 rfl (lv_at hl 1 rfl) ?_
                refine lv_ishr hx hb d_Reader_isUtf8_201 ?_
                refine lv_iand hx hb d_Reader_isUtf8_202 ?_
                refine lv_topi (fun v203 ev203 => ?_)
                refine lv_istore (lv' := [(5, .int v203), (4, .int v'), (3, .int v), (7, .int (nI (u (a + z.1)))), (0, .ref h), (1, .int (nI a)), (2, .int (nI b)), (6, .int (nI (a + z.1)))]) hx hb d_Reader_isUtf8_203 hl (by decide) rfl (fun ls hl => ?_)
                refine lv_iinc (v := nI (a + z.1 + 1)) (lv' := [(6, .int (nI (a + z.1 + 1))), (5, .int v203), (4, .int v'), (3, .int v), (7, .int (nI (u (a + z.1)))), (0, .ref h), (1, .int (nI a)), (2, .int (nI b))]) hx hb d_Reader_isUtf8_205 hl (k := 7) rfl (nI_1 _) (by decide) rfl (fun ls hl => ?_)
                refine lv_goto (tgt := 11) hx hb d_Reader_isUtf8_208 (by decide) ?_
                exact ih (z.1 + 1, v, v', v203) ls (by show b - a - (z.1 + 1) < b - a - z.1; omega) ⟨by show z.1 + 1 ≤ b - a; omega, utG_s hJ.2 (by rw [ev203, hv', hv]; exact utS_5 c26' c123 c131 c139)⟩ (lv_sub hl [5, 6, 7, 3, 2, 1, 0] rfl)
              · skip
                refine lv_iload_n hx hb d_Reader_isUtf8_170 rfl (lv_at hl 0 rfl) ?_
                refine lv_iconst (v := 1) hx hb d_Reader_isUtf8_171 (by decide) ?_
                refine lv_icmp_ne (tgt := 181) hx hb d_Reader_isUtf8_172 (by decide) (fun c172 => ?_) (fun c172 => ?_)
                · refine lv_iload_n hx hb d_Reader_isUtf8_181 rfl (lv_at hl 0 rfl) ?_
                  refine lv_iconst (v := 2) hx hb d_Reader_isUtf8_182 (by decide) ?_
                  refine lv_icmp_ne (tgt := 192) hx hb d_Reader_isUtf8_183 (by decide) (fun c183 => ?_) (fun c183 => ?_)
                  · refine lv_ldc (v := 65536) hx hb hown (htb _ q3_219) d_Reader_isUtf8_192 ?_
                    exact k194 _ (by rw [utM, if_neg c172, if_neg c183])
                  · refine lv_sipush (v := 2048) hx hb d_Reader_isUtf8_186 (by decide) ?_
                    refine lv_goto (tgt := 194) hx hb d_Reader_isUtf8_189 (by decide) ?_
                    exact k194 _ (by rw [utM, if_neg c172, if_pos c183])
                · refine lv_sipush (v := 128) hx hb d_Reader_isUtf8_175 (by decide) ?_
                  refine lv_goto (tgt := 194) hx hb d_Reader_isUtf8_178 (by decide) ?_
                  exact k194 _ (by rw [utM, if_pos c172])
            · skip
              refine lv_iload hx hb d_Reader_isUtf8_144 (lv_at hl 0 rfl) ?_
              refine lv_sipush (v := 224) hx hb d_Reader_isUtf8_146 (by decide) ?_
              refine lv_icmp_ge (tgt := 156) hx hb d_Reader_isUtf8_149 (by decide) (fun c149 => ?_) (fun c149 => ?_)
              · refine lv_iload hx hb d_Reader_isUtf8_156 (lv_at hl 0 rfl) ?_
                refine lv_sipush (v := 240) hx hb d_Reader_isUtf8_158 (by decide) ?_
                refine lv_icmp_ge (tgt := 168) hx hb d_Reader_isUtf8_161 (by decide) (fun c161 => ?_) (fun c161 => ?_)
                · refine lv_iconst (v := 3) hx hb d_Reader_isUtf8_168 (by decide) ?_
                  exact k169 _ (by rw [utL, if_pos c149, if_pos c161])
                · refine lv_iconst (v := 2) hx hb d_Reader_isUtf8_164 (by decide) ?_
                  refine lv_goto (tgt := 169) hx hb d_Reader_isUtf8_165 (by decide) ?_
                  exact k169 _ (by rw [utL, if_pos c149, if_neg c161])
              · refine lv_iconst (v := 1) hx hb d_Reader_isUtf8_152 (by decide) ?_
                refine lv_goto (tgt := 169) hx hb d_Reader_isUtf8_153 (by decide) ?_
                exact k169 _ (by rw [utL, if_neg c149])
          · refine lv_iconst (v := 0) hx hb d_Reader_isUtf8_142 (by decide) ?_
            exact W.zret (v := 0) hx hb hr (by decide) (fun t ht hW => ⟨_, rfl, bz_f (fun q => ut_no hJ.2 (utS_4 c26' c123 (Or.inr c139)) (by omega) q), ht⟩) (fun q h => by cases h) d_Reader_isUtf8_143
    · have c26' : 0 < z.2.1 := by simpa using c26
      refine lv_iload hx hb d_Reader_isUtf8_29 (lv_at hl 6 rfl) ?_
      refine lv_bipush (v := 6) hx hb d_Reader_isUtf8_31 (by decide) ?_
      refine lv_ishl hx hb d_Reader_isUtf8_33 ?_
      refine lv_iload hx hb d_Reader_isUtf8_34 (lv_at hl 0 rfl) ?_
      refine lv_bipush (v := 63) hx hb d_Reader_isUtf8_36 (by decide) ?_
      refine lv_iand hx hb d_Reader_isUtf8_38 ?_
      refine lv_ior hx hb d_Reader_isUtf8_39 ?_
      rw [show ((z.2.2.2 <<< (6 &&& 31)) ||| ((nI (u (a + z.1))) &&& 63) : Int32) = utP (nI (u (a + z.1))) z.2.2.2 from rfl]
      refine lv_topi (fun v40 ev40 => ?_)
      refine lv_istore (lv' := [(5, .int v40), (7, .int (nI (u (a + z.1)))), (0, .ref h), (1, .int (nI a)), (2, .int (nI b)), (3, .int z.2.1), (4, .int z.2.2.1), (6, .int (nI (a + z.1)))]) hx hb d_Reader_isUtf8_40 hl (by decide) rfl (fun ls hl => ?_)
      obtain ⟨v42, ev42⟩ : ∃ y : Int32, y = z.2.1 + (-1) := ⟨_, rfl⟩
      refine lv_iinc (v := v42) (lv' := [(3, .int v42), (5, .int v40), (7, .int (nI (u (a + z.1)))), (0, .ref h), (1, .int (nI a)), (2, .int (nI b)), (4, .int z.2.2.1), (6, .int (nI (a + z.1)))]) hx hb d_Reader_isUtf8_42 hl (k := 5) rfl (by rw [ev42]; exact inc_m1 _) (by decide) rfl (fun ls hl => ?_)
      refine w_join (J := fun v => bz v (¬ v40 < 55296 ∧ ¬ 57343 < v40)) (pc := 64) (ls := ls) (rest := []) (fun v hv => ?_) (fun k64 => ?_)
      · skip
        refine lv_istore (lv' := [(8, .int v), (3, .int v42), (5, .int v40), (7, .int (nI (u (a + z.1)))), (0, .ref h), (1, .int (nI a)), (2, .int (nI b)), (4, .int z.2.2.1), (6, .int (nI (a + z.1)))]) hx hb d_Reader_isUtf8_64 hl (by decide) rfl (fun ls hl => ?_)
        refine w_join (J := fun v' => bz v' (utBad v42 z.2.2.1 v40)) (pc := 94) (ls := ls) (rest := []) (fun v' hv' => ?_) (fun k94 => ?_)
        · skip
          refine lv_istore (lv' := [(9, .int v'), (8, .int v), (3, .int v42), (5, .int v40), (7, .int (nI (u (a + z.1)))), (0, .ref h), (1, .int (nI a)), (2, .int (nI b)), (4, .int z.2.2.1), (6, .int (nI (a + z.1)))]) hx hb d_Reader_isUtf8_94 hl (by decide) rfl (fun ls hl => ?_)
          refine lv_iload hx hb d_Reader_isUtf8_96 (lv_at hl 4 rfl) ?_
          refine lv_sipush (v := 192) hx hb d_Reader_isUtf8_98 (by decide) ?_
          refine lv_iand hx hb d_Reader_isUtf8_101 ?_
          refine lv_sipush (v := 128) hx hb d_Reader_isUtf8_102 (by decide) ?_
          refine lv_icmp_ne (tgt := 113) hx hb d_Reader_isUtf8_105 (by decide) (fun c105 => ?_) (fun c105 => ?_)
          · refine lv_iconst (v := 0) hx hb d_Reader_isUtf8_113 (by decide) ?_
            exact W.zret (v := 0) hx hb hr (by decide) (fun t ht hW => ⟨_, rfl, bz_f (fun q => ut_no hJ.2 (utS_2 (Int32.not_le.mpr c26') (Or.inl c105)) (by omega) q), ht⟩) (fun q h => by cases h) d_Reader_isUtf8_114
          · refine lv_iload hx hb d_Reader_isUtf8_108 (lv_at hl 0 rfl) ?_
            refine lv_if_eq (tgt := 115) hx hb d_Reader_isUtf8_110 (by decide) (fun c110 => ?_) (fun c110 => ?_)
            · refine lv_goto (tgt := 205) hx hb d_Reader_isUtf8_115 (by decide) ?_
              refine lv_iinc (v := nI (a + z.1 + 1)) (lv' := [(6, .int (nI (a + z.1 + 1))), (9, .int v'), (8, .int v), (3, .int v42), (5, .int v40), (7, .int (nI (u (a + z.1)))), (0, .ref h), (1, .int (nI a)), (2, .int (nI b)), (4, .int z.2.2.1)]) hx hb d_Reader_isUtf8_205 hl (k := 9) rfl (nI_1 _) (by decide) rfl (fun ls hl => ?_)
              refine lv_goto (tgt := 11) hx hb d_Reader_isUtf8_208 (by decide) ?_
              exact ih (z.1 + 1, v42, z.2.2.1, v40) ls (by show b - a - (z.1 + 1) < b - a - z.1; omega) ⟨by show z.1 + 1 ≤ b - a; omega, utG_s hJ.2 (by rw [ev42, ev40]; exact utS_1 (Int32.not_le.mpr c26') c105 (by rw [← ev42, ← ev40]; exact bz_0 hv' c110))⟩ (lv_sub hl [6, 7, 8, 3, 9, 4, 0] rfl)
            · refine lv_iconst (v := 0) hx hb d_Reader_isUtf8_113 (by decide) ?_
              exact W.zret (v := 0) hx hb hr (by decide) (fun t ht hW => ⟨_, rfl, bz_f (fun q => ut_no hJ.2 (utS_2 (Int32.not_le.mpr c26') (Or.inr (by rw [← ev42, ← ev40]; exact bz_1 hv' c110))) (by omega) q), ht⟩) (fun q h => by cases h) d_Reader_isUtf8_114
        · skip
          refine lv_iload_n hx hb d_Reader_isUtf8_66 rfl (lv_at hl 1 rfl) ?_
          refine lv_if_ne (tgt := 93) hx hb d_Reader_isUtf8_67 (by decide) (fun c67 => ?_) (fun c67 => ?_)
          · refine lv_iconst (v := 0) hx hb d_Reader_isUtf8_93 (by decide) ?_
            exact k94 _ (bz_f (fun q => c67 q.1))
          · refine lv_iload hx hb d_Reader_isUtf8_70 (lv_at hl 2 rfl) ?_
            refine lv_iload hx hb d_Reader_isUtf8_72 (lv_at hl 7 rfl) ?_
            refine lv_icmp_lt (tgt := 89) hx hb d_Reader_isUtf8_74 (by decide) (fun c74 => ?_) (fun c74 => ?_)
            · refine lv_iconst (v := 1) hx hb d_Reader_isUtf8_89 (by decide) ?_
              refine lv_goto (tgt := 94) hx hb d_Reader_isUtf8_90 (by decide) ?_
              exact k94 _ (bz_t ⟨c67, Or.inl c74⟩)
            · refine lv_iload hx hb d_Reader_isUtf8_77 (lv_at hl 2 rfl) ?_
              refine lv_ldc (v := 1114111) hx hb hown (htb _ q3_218) d_Reader_isUtf8_79 ?_
              refine lv_icmp_gt (tgt := 89) hx hb d_Reader_isUtf8_81 (by decide) (fun c81 => ?_) (fun c81 => ?_)
              · refine lv_iconst (v := 1) hx hb d_Reader_isUtf8_89 (by decide) ?_
                refine lv_goto (tgt := 94) hx hb d_Reader_isUtf8_90 (by decide) ?_
                exact k94 _ (bz_t ⟨c67, Or.inr (Or.inl c81)⟩)
              · refine lv_iload hx hb d_Reader_isUtf8_84 (lv_at hl 0 rfl) ?_
                refine lv_if_eq (tgt := 93) hx hb d_Reader_isUtf8_86 (by decide) (fun c86 => ?_) (fun c86 => ?_)
                · refine lv_iconst (v := 0) hx hb d_Reader_isUtf8_93 (by decide) ?_
                  exact k94 _ (bz_f (fun q => q.2.elim c74 (fun z => z.elim c81 (bz_0 hv c86))))
                · refine lv_iconst (v := 1) hx hb d_Reader_isUtf8_89 (by decide) ?_
                  refine lv_goto (tgt := 94) hx hb d_Reader_isUtf8_90 (by decide) ?_
                  exact k94 _ (bz_t ⟨c67, Or.inr (Or.inr (bz_1 hv c86))⟩)
      · skip
        refine lv_iload hx hb d_Reader_isUtf8_45 (lv_at hl 1 rfl) ?_
        refine lv_ldc (v := 55296) hx hb hown (htb _ q3_216) d_Reader_isUtf8_47 ?_
        refine lv_icmp_lt (tgt := 63) hx hb d_Reader_isUtf8_49 (by decide) (fun c49 => ?_) (fun c49 => ?_)
        · refine lv_iconst (v := 0) hx hb d_Reader_isUtf8_63 (by decide) ?_
          exact k64 _ (bz_f (fun q => q.1 c49))
        · refine lv_iload hx hb d_Reader_isUtf8_52 (lv_at hl 1 rfl) ?_
          refine lv_ldc (v := 57343) hx hb hown (htb _ q3_217) d_Reader_isUtf8_54 ?_
          refine lv_icmp_gt (tgt := 63) hx hb d_Reader_isUtf8_56 (by decide) (fun c56 => ?_) (fun c56 => ?_)
          · refine lv_iconst (v := 0) hx hb d_Reader_isUtf8_63 (by decide) ?_
            exact k64 _ (bz_f (fun q => q.2 c56))
          · refine lv_iconst (v := 1) hx hb d_Reader_isUtf8_59 (by decide) ?_
            refine lv_goto (tgt := 64) hx hb d_Reader_isUtf8_60 (by decide) ?_
            exact k64 _ (bz_t ⟨c49, c56⟩)
set_option maxHeartbeats 4000000 in
set_option maxRecDepth 100000 in
theorem cL_isUtf8 (l : Launch) (dC : Nat → ClassId) (dI : Nat → Nat → Nat) (sb : sB) (h res t ki : Nat) (pp s0 n : Nat) (w : Option Nat) (pa ma ex ie : Int32) (cB : ClassId) (u : Nat → Nat) (a b : Nat) (hu : ∀ j, u j < 256) (hn : n < 2 ^ 30) (hab : a ≤ b) (hb2 : b ≤ n) : Met l y_Reader_isUtf8 w_Reader_isUtf8 ({ frames := 1, cells := 0, slots := 0, locals := 21 }) (pu_P [.ref h, .int (nI a), .int (nI b)] (dC, dI) sb [(h, .inr (5, [.ref res, .int ie, .ref t, .int (nI pp), .int (nI s0), .int (wI w), .int pa, .int ma, .int ex, .ref ki])), (t, .inl (cB, n, .inl (tx u)))] [(cB, .byte)]) (vp_Si (fun r => bz r (utOK u a b))) 0 0 (fun _ => False) := by
  refine Met.ofW (cc := b_Reader_isUtf8) (maxL := 10) (ret := (some FieldType.boolean)) (by decide) rfl ?_
  intro p e s m args below meth c s₁ B hml hv
  obtain ⟨rfl, hP, hK, hN, hT0⟩ := hv
  have hx := B.exec
  have hb := B.bytes
  have hr := B.returns
  have hts := atoms_spec (ws := w_Reader_isUtf8) B.pre
  have tbin : ∀ w ∈ tb, w ∈ w_Reader_isUtf8 := fun w h => List.mem_cons_of_mem _ h
  have htb : ∀ w ∈ tb, w.before _ s = true := fun w h => hts w (tbin w h)
  have hown : s.vm.findClass "TrustChain$Reader" = some m.cls := findClass_of_methodNamed B.named
  have hlocks := B.notSynchronized
  have hcs : 0 ≤ (headSpec w_Reader_isUtf8 ({ frames := 1, cells := 0, slots := 0, locals := 21 })).room.cells ∧ 0 ≤ (headSpec w_Reader_isUtf8 ({ frames := 1, cells := 0, slots := 0, locals := 21 })).room.slots := ⟨Nat.zero_le _, Nat.zero_le _⟩
  have hP : va_P (dC, dI) classes [(h, .inr (5, [.ref res, .int ie, .ref t, .int (nI pp), .int (nI s0), .int (wI w), .int pa, .int ma, .int ex, .ref ki])), (t, .inl (cB, n, .inl (tx u)))] s.heap := hP
  have hl := lv_entry ([.ref h, .int (nI a), .int (nI b)]) (n := 10) (Nat.le_of_ble_eq_true rfl)
  rw [lg_entry_eq]
  generalize (lg_sl ([.ref h, .int (nI a), .int (nI b)]) ++ List.replicate (10 - (lg_sl ([.ref h, .int (nI a), .int (nI b)])).length) Slot.unset).toArray = ls at hl ⊢
  have hl : lv_has ls 10 [(0, .ref h), (1, .int (nI a)), (2, .int (nI b))] := hl
  refine lv_iconst (v := 0) hx hb d_Reader_isUtf8_0 (by decide) ?_
  refine lv_istore_n (lv' := [(3, .int 0), (0, .ref h), (1, .int (nI a)), (2, .int (nI b))]) hx hb d_Reader_isUtf8_1 rfl hl (by decide) rfl (fun ls hl => ?_)
  refine lv_iconst (v := 0) hx hb d_Reader_isUtf8_2 (by decide) ?_
  refine lv_istore (lv' := [(4, .int 0), (3, .int 0), (0, .ref h), (1, .int (nI a)), (2, .int (nI b))]) hx hb d_Reader_isUtf8_3 hl (by decide) rfl (fun ls hl => ?_)
  refine lv_iconst (v := 0) hx hb d_Reader_isUtf8_5 (by decide) ?_
  refine lv_istore (lv' := [(5, .int 0), (4, .int 0), (3, .int 0), (0, .ref h), (1, .int (nI a)), (2, .int (nI b))]) hx hb d_Reader_isUtf8_6 hl (by decide) rfl (fun ls hl => ?_)
  refine lv_iload_n hx hb d_Reader_isUtf8_8 rfl (lv_at hl 4 rfl) ?_
  refine lv_istore (lv' := [(6, .int (nI a)), (5, .int 0), (4, .int 0), (3, .int 0), (0, .ref h), (1, .int (nI a)), (2, .int (nI b))]) hx hb d_Reader_isUtf8_9 hl (by decide) rfl (fun ls hl => ?_)
  refine w_loop (α := Nat × Int32 × Int32 × Int32) (fun z => z.1 ≤ b - a ∧ utG u a z.1 = some z.2) (fun z => b - a - z.1) (fun z => [(0, .ref h), (1, .int (nI a)), (2, .int (nI b)), (3, .int z.2.1), (4, .int z.2.2.1), (5, .int z.2.2.2), (6, .int (nI (a + z.1)))]) (fun _ => []) 10 11 (fun z ls hJ hl ih => ?_) (0, 0, 0, 0) ls ⟨Nat.zero_le _, rfl⟩ (lv_sub hl [4, 5, 6, 3, 2, 1, 0] rfl)
  refine lv_iload hx hb d_Reader_isUtf8_11 (lv_at hl 6 rfl) ?_
  refine lv_iload_n hx hb d_Reader_isUtf8_13 rfl (lv_at hl 2 rfl) ?_
  refine lv_icmp_ge (tgt := 211) hx hb d_Reader_isUtf8_14 (by decide) (fun c14 => ?_) (fun c14 => ?_)
  · have hke : z.1 = b - a := by rw [nI_leI (by omega) (by omega)] at c14; omega
    refine lv_iload_n hx hb d_Reader_isUtf8_211 rfl (lv_at hl 3 rfl) ?_
    refine lv_if_ne (tgt := 219) hx hb d_Reader_isUtf8_212 (by decide) (fun c212 => ?_) (fun c212 => ?_)
    · refine lv_iconst (v := 0) hx hb d_Reader_isUtf8_219 (by decide) ?_
      exact W.zret (v := 0) hx hb hr (by decide) (fun t ht hW => ⟨_, rfl, bz_f (fun q => by obtain ⟨y, h1, h2⟩ := q; rw [← hke, hJ.2] at h1; cases h1; exact c212 h2), ht⟩) (fun q h => by cases h) d_Reader_isUtf8_220
    · refine lv_iconst (v := 1) hx hb d_Reader_isUtf8_215 (by decide) ?_
      refine lv_goto (tgt := 220) hx hb d_Reader_isUtf8_216 (by decide) ?_
      exact W.zret (v := 1) hx hb hr (by decide) (fun t ht hW => ⟨_, rfl, bz_t ⟨_, hke ▸ hJ.2, c212⟩, ht⟩) (fun q h => by cases h) d_Reader_isUtf8_220
  · have hlt : a + z.1 < b := by rw [nI_leI (by omega) (by omega)] at c14; omega
    refine lv_aload_n hx hb d_Reader_isUtf8_17 rfl (lv_at hl 0 rfl) ?_
    refine lv_iload hx hb d_Reader_isUtf8_18 (lv_at hl 6 rfl) ?_
    refine vp_callSi (pu_callU (As := [.int (nI (a + z.1))]) (rest := []) ⟨hx, hb, hml, hown, hts⟩ (cL_octet l dC dI sb h res t ki pp s0 n w pa ma ex ie cB u (nI (a + z.1)) hu hn) (cu_of (n := 1) hts tbin q3_114 q3_116 q3_115 q3_118 q1_15 q3_119 rfl (by decide +kernel) ⟨rfl, rfl⟩ ⟨Nat.le_of_ble_eq_true rfl, Nat.le_of_ble_eq_true rfl⟩) rfl ⟨Nat.le_of_ble_eq_true rfl, Nat.le_of_ble_eq_true rfl⟩ hN hT0 hK hP [0, 1] rfl [0] rfl 0 5 rfl rfl rfl hl.1 rfl (Nat.le_of_ble_eq_true rfl) d_Reader_isUtf8_20) (fun r20 hr20 => ?_)
    rw [show (r20 : Int32) = nI (u (a + z.1)) from by rw [hr20, oc_eq (by omega), oc, if_pos (by omega)]]
    refine lv_istore (lv' := [(7, .int (nI (u (a + z.1)))), (0, .ref h), (1, .int (nI a)), (2, .int (nI b)), (3, .int z.2.1), (4, .int z.2.2.1), (5, .int z.2.2.2), (6, .int (nI (a + z.1)))]) hx hb d_Reader_isUtf8_23 hl (by decide) rfl (fun ls hl => ?_)
    refine lv_iload_n hx hb d_Reader_isUtf8_25 rfl (lv_at hl 4 rfl) ?_
    refine lv_if_le (tgt := 118) hx hb d_Reader_isUtf8_26 (by decide) (fun c26 => ?_) (fun c26 => ?_)
    · have c26' : z.2.1 ≤ 0 := by simpa using c26
      refine lv_iload hx hb d_Reader_isUtf8_118 (lv_at hl 0 rfl) ?_
      refine lv_sipush (v := 128) hx hb d_Reader_isUtf8_120 (by decide) ?_
      refine lv_icmp_lt (tgt := 205) hx hb d_Reader_isUtf8_123 (by decide) (fun c123 => ?_) (fun c123 => ?_)
      · refine lv_iinc (v := nI (a + z.1 + 1)) (lv' := [(6, .int (nI (a + z.1 + 1))), (7, .int (nI (u (a + z.1)))), (0, .ref h), (1, .int (nI a)), (2, .int (nI b)), (3, .int z.2.1), (4, .int z.2.2.1), (5, .int z.2.2.2)]) hx hb d_Reader_isUtf8_205 hl (k := 7) rfl (nI_1 _) (by decide) rfl (fun ls hl => ?_)
        refine lv_goto (tgt := 11) hx hb d_Reader_isUtf8_208 (by decide) ?_
        exact ih (z.1 + 1, z.2.1, z.2.2.1, z.2.2.2) ls (by show b - a - (z.1 + 1) < b - a - z.1; omega) ⟨by show z.1 + 1 ≤ b - a; omega, utG_s hJ.2 (utS_3 c26' c123)⟩ (lv_sub hl [2, 3, 4, 5, 6, 7, 0] rfl)
      · refine lv_iload hx hb d_Reader_isUtf8_126 (lv_at hl 0 rfl) ?_
        refine lv_sipush (v := 192) hx hb d_Reader_isUtf8_128 (by decide) ?_
        refine lv_icmp_lt (tgt := 142) hx hb d_Reader_isUtf8_131 (by decide) (fun c131 => ?_) (fun c131 => ?_)
        · refine lv_iconst (v := 0) hx hb d_Reader_isUtf8_142 (by decide) ?_
          exact W.zret (v := 0) hx hb hr (by decide) (fun t ht hW => ⟨_, rfl, bz_f (fun q => ut_no hJ.2 (utS_4 c26' c123 (Or.inl c131)) (by omega) q), ht⟩) (fun q h => by cases h) d_Reader_isUtf8_143
        · refine lv_iload hx hb d_Reader_isUtf8_134 (lv_at hl 0 rfl) ?_
          refine lv_sipush (v := 248) hx hb d_Reader_isUtf8_136 (by decide) ?_
          refine lv_icmp_lt (tgt := 144) hx hb d_Reader_isUtf8_139 (by decide) (fun c139 => ?_) (fun c139 => ?_)
          · refine w_join (J := fun v => v = utL (nI (u (a + z.1)))) (pc := 169) (ls := ls) (rest := []) (fun v hv => ?_) (fun k169 => ?_)
            · skip
              refine lv_istore_n (lv' := [(3, .int v), (7, .int (nI (u (a + z.1)))), (0, .ref h), (1, .int (nI a)), (2, .int (nI b)), (4, .int z.2.2.1), (5, .int z.2.2.2), (6, .int (nI (a + z.1)))]) hx hb d_Reader_isUtf8_169 rfl hl (by decide) rfl (fun ls hl => ?_)
              refine w_join (J := fun v' => v' = utM v) (pc := 194) (ls := ls) (rest := []) (fun v' hv' => ?_) (fun k194 => ?_)
              · skip
                refine lv_istore (lv' := [(4, .int v'), (3, .int v), (7, .int (nI (u (a + z.1)))), (0, .ref h), (1, .int (nI a)), (2, .int (nI b)), (5, .int z.2.2.2), (6, .int (nI (a + z.1)))]) hx hb d_Reader_isUtf8_194 hl (by decide) rfl (fun ls hl => ?_)
                refine lv_iload hx hb d_Reader_isUtf8_196 (lv_at hl 2 rfl) ?_
                refine lv_bipush (v := 63) hx hb d_Reader_isUtf8_198 (by decide) ?_
                refine lv_iload_n hx hb d_Reader_isUtf8_200 rfl (lv_at hl 1 rfl) ?_
                refine lv_ishr hx hb d_Reader_isUtf8_201 ?_
                refine lv_iand hx hb d_Reader_isUtf8_202 ?_
                refine lv_topi (fun v203 ev203 => ?_)
                refine lv_istore (lv' := [(5, .int v203), (4, .int v'), (3, .int v), (7, .int (nI (u (a + z.1)))), (0, .ref h), (1, .int (nI a)), (2, .int (nI b)), (6, .int (nI (a + z.1)))]) hx hb d_Reader_isUtf8_203 hl (by decide) rfl (fun ls hl => ?_)
                refine lv_iinc (v := nI (a + z.1 + 1)) (lv' := [(6, .int (nI (a + z.1 + 1))), (5, .int v203), (4, .int v'), (3, .int v), (7, .int (nI (u (a + z.1)))), (0, .ref h), (1, .int (nI a)), (2, .int (nI b))]) hx hb d_Reader_isUtf8_205 hl (k := 7) rfl (nI_1 _) (by decide) rfl (fun ls hl => ?_)
                refine lv_goto (tgt := 11) hx hb d_Reader_isUtf8_208 (by decide) ?_
                exact ih (z.1 + 1, v, v', v203) ls (by show b - a - (z.1 + 1) < b - a - z.1; omega) ⟨by show z.1 + 1 ≤ b - a; omega, utG_s hJ.2 (by rw [ev203, hv', hv]; exact utS_5 c26' c123 c131 c139)⟩ (lv_sub hl [5, 6, 7, 3, 2, 1, 0] rfl)
              · skip
                refine lv_iload_n hx hb d_Reader_isUtf8_170 rfl (lv_at hl 0 rfl) ?_
                refine lv_iconst (v := 1) hx hb d_Reader_isUtf8_171 (by decide) ?_
                refine lv_icmp_ne (tgt := 181) hx hb d_Reader_isUtf8_172 (by decide) (fun c172 => ?_) (fun c172 => ?_)
                · refine lv_iload_n hx hb d_Reader_isUtf8_181 rfl (lv_at hl 0 rfl) ?_
                  refine lv_iconst (v := 2) hx hb d_Reader_isUtf8_182 (by decide) ?_
                  refine lv_icmp_ne (tgt := 192) hx hb d_Reader_isUtf8_183 (by decide) (fun c183 => ?_) (fun c183 => ?_)
                  · refine lv_ldc (v := 65536) hx hb hown (htb _ q3_219) d_Reader_isUtf8_192 ?_
                    exact k194 _ (by rw [utM, if_neg c172, if_neg c183])
                  · refine lv_sipush (v := 2048) hx hb d_Reader_isUtf8_186 (by decide) ?_
                    refine lv_goto (tgt := 194) hx hb d_Reader_isUtf8_189 (by decide) ?_
                    exact k194 _ (by rw [utM, if_neg c172, if_pos c183])
                · refine lv_sipush (v := 128) hx hb d_Reader_isUtf8_175 (by decide) ?_
                  refine lv_goto (tgt := 194) hx hb d_Reader_isUtf8_178 (by decide) ?_
                  exact k194 _ (by rw [utM, if_pos c172])
            · skip
              refine lv_iload hx hb d_Reader_isUtf8_144 (lv_at hl 0 rfl) ?_
              refine lv_sipush (v := 224) hx hb d_Reader_isUtf8_146 (by decide) ?_
              refine lv_icmp_ge (tgt := 156) hx hb d_Reader_isUtf8_149 (by decide) (fun c149 => ?_) (fun c149 => ?_)
              · refine lv_iload hx hb d_Reader_isUtf8_156 (lv_at hl 0 rfl) ?_
                refine lv_sipush (v := 240) hx hb d_Reader_isUtf8_158 (by decide) ?_
                refine lv_icmp_ge (tgt := 168) hx hb d_Reader_isUtf8_161 (by decide) (fun c161 => ?_) (fun c161 => ?_)
                · refine lv_iconst (v := 3) hx hb d_Reader_isUtf8_168 (by decide) ?_
                  exact k169 _ (by rw [utL, if_pos c149, if_pos c161])
                · refine lv_iconst (v := 2) hx hb d_Reader_isUtf8_164 (by decide) ?_
                  refine lv_goto (tgt := 169) hx hb d_Reader_isUtf8_165 (by decide) ?_
                  exact k169 _ (by rw [utL, if_pos c149, if_neg c161])
              · refine lv_iconst (v := 1) hx hb d_Reader_isUtf8_152 (by decide) ?_
                refine lv_goto (tgt := 169) hx hb d_Reader_isUtf8_153 (by decide) ?_
                exact k169 _ (by rw [utL, if_neg c149])
          · refine lv_iconst (v := 0) hx hb d_Reader_isUtf8_142 (by decide) ?_
            exact W.zret (v := 0) hx hb hr (by decide) (fun t ht hW => ⟨_, rfl, bz_f (fun q => ut_no hJ.2 (utS_4 c26' c123 (Or.inr c139)) (by omega) q), ht⟩) (fun q h => by cases h) d_Reader_isUtf8_143
    · have c26' : 0 < z.2.1 := by simpa using c26
      refine lv_iload hx hb d_Reader_isUtf8_29 (lv_at hl 6 rfl) ?_
      refine lv_bipush (v := 6) hx hb d_Reader_isUtf8_31 (by decide) ?_
      refine lv_ishl hx hb d_Reader_isUtf8_33 ?_
      refine lv_iload hx hb d_Reader_isUtf8_34 (lv_at hl 0 rfl) ?_
      refine lv_bipush (v := 63) hx hb d_Reader_isUtf8_36 (by decide) ?_
      refine lv_iand hx hb d_Reader_isUtf8_38 ?_
      refine lv_ior hx hb d_Reader_isUtf8_39 ?_
      rw [show ((z.2.2.2 <<< (6 &&& 31)) ||| ((nI (u (a + z.1))) &&& 63) : Int32) = utP (nI (u (a + z.1))) z.2.2.2 from rfl]
      refine lv_topi (fun v40 ev40 => ?_)
      refine lv_istore (lv' := [(5, .int v40), (7, .int (nI (u (a + z.1)))), (0, .ref h), (1, .int (nI a)), (2, .int (nI b)), (3, .int z.2.1), (4, .int z.2.2.1), (6, .int (nI (a + z.1)))]) hx hb d_Reader_isUtf8_40 hl (by decide) rfl (fun ls hl => ?_)
      obtain ⟨v42, ev42⟩ : ∃ y : Int32, y = z.2.1 + (-1) := ⟨_, rfl⟩
      refine lv_iinc (v := v42) (lv' := [(3, .int v42), (5, .int v40), (7, .int (nI (u (a + z.1)))), (0, .ref h), (1, .int (nI a)), (2, .int (nI b)), (4, .int z.2.2.1), (6, .int (nI (a + z.1)))]) hx hb d_Reader_isUtf8_42 hl (k := 5) rfl (by rw [ev42]; exact inc_m1 _) (by decide) rfl (fun ls hl => ?_)
      refine w_join (J := fun v => bz v (¬ v40 < 55296 ∧ ¬ 57343 < v40)) (pc := 64) (ls := ls) (rest := []) (fun v hv => ?_) (fun k64 => ?_)
      · skip
        refine lv_istore (lv' := [(8, .int v), (3, .int v42), (5, .int v40), (7, .int (nI (u (a + z.1)))), (0, .ref h), (1, .int (nI a)), (2, .int (nI b)), (4, .int z.2.2.1), (6, .int (nI (a + z.1)))]) hx hb d_Reader_isUtf8_64 hl (by decide) rfl (fun ls hl => ?_)
        refine w_join (J := fun v' => bz v' (utBad v42 z.2.2.1 v40)) (pc := 94) (ls := ls) (rest := []) (fun v' hv' => ?_) (fun k94 => ?_)
        · skip
          refine lv_istore (lv' := [(9, .int v'), (8, .int v), (3, .int v42), (5, .int v40), (7, .int (nI (u (a + z.1)))), (0, .ref h), (1, .int (nI a)), (2, .int (nI b)), (4, .int z.2.2.1), (6, .int (nI (a + z.1)))]) hx hb d_Reader_isUtf8_94 hl (by decide) rfl (fun ls hl => ?_)
          refine lv_iload hx hb d_Reader_isUtf8_96 (lv_at hl 4 rfl) ?_
          refine lv_sipush (v := 192) hx hb d_Reader_isUtf8_98 (by decide) ?_
          refine lv_iand hx hb d_Reader_isUtf8_101 ?_
          refine lv_sipush (v := 128) hx hb d_Reader_isUtf8_102 (by decide) ?_
          refine lv_icmp_ne (tgt := 113) hx hb d_Reader_isUtf8_105 (by decide) (fun c105 => ?_) (fun c105 => ?_)
          · refine lv_iconst (v := 0) hx hb d_Reader_isUtf8_113 (by decide) ?_
            exact W.zret (v := 0) hx hb hr (by decide) (fun t ht hW => ⟨_, rfl, bz_f (fun q => ut_no hJ.2 (utS_2 (Int32.not_le.mpr c26') (Or.inl c105)) (by omega) q), ht⟩) (fun q h => by cases h) d_Reader_isUtf8_114
          · refine lv_iload hx hb d_Reader_isUtf8_108 (lv_at hl 0 rfl) ?_
            refine lv_if_eq (tgt := 115) hx hb d_Reader_isUtf8_110 (by decide) (fun c110 => ?_) (fun c110 => ?_)
            · refine lv_goto (tgt := 205) hx hb d_Reader_isUtf8_115 (by decide) ?_
              refine lv_iinc (v := nI (a + z.1 + 1)) (lv' := [(6, .int (nI (a + z.1 + 1))), (9, .int v'), (8, .int v), (3, .int v42), (5, .int v40), (7, .int (nI (u (a + z.1)))), (0, .ref h), (1, .int (nI a)), (2, .int (nI b)), (4, .int z.2.2.1)]) hx hb d_Reader_isUtf8_205 hl (k := 9) rfl (nI_1 _) (by decide) rfl (fun ls hl => ?_)
              refine lv_goto (tgt := 11) hx hb d_Reader_isUtf8_208 (by decide) ?_
              exact ih (z.1 + 1, v42, z.2.2.1, v40) ls (by show b - a - (z.1 + 1) < b - a - z.1; omega) ⟨by show z.1 + 1 ≤ b - a; omega, utG_s hJ.2 (by rw [ev42, ev40]; exact utS_1 (Int32.not_le.mpr c26') c105 (by rw [← ev42, ← ev40]; exact bz_0 hv' c110))⟩ (lv_sub hl [6, 7, 8, 3, 9, 4, 0] rfl)
            · refine lv_iconst (v := 0) hx hb d_Reader_isUtf8_113 (by decide) ?_
              exact W.zret (v := 0) hx hb hr (by decide) (fun t ht hW => ⟨_, rfl, bz_f (fun q => ut_no hJ.2 (utS_2 (Int32.not_le.mpr c26') (Or.inr (by rw [← ev42, ← ev40]; exact bz_1 hv' c110))) (by omega) q), ht⟩) (fun q h => by cases h) d_Reader_isUtf8_114
        · skip
          refine lv_iload_n hx hb d_Reader_isUtf8_66 rfl (lv_at hl 1 rfl) ?_
          refine lv_if_ne (tgt := 93) hx hb d_Reader_isUtf8_67 (by decide) (fun c67 => ?_) (fun c67 => ?_)
          · refine lv_iconst (v := 0) hx hb d_Reader_isUtf8_93 (by decide) ?_
            exact k94 _ (bz_f (fun q => c67 q.1))
          · refine lv_iload hx hb d_Reader_isUtf8_70 (lv_at hl 2 rfl) ?_
            refine lv_iload hx hb d_Reader_isUtf8_72 (lv_at hl 7 rfl) ?_
            refine lv_icmp_lt (tgt := 89) hx hb d_Reader_isUtf8_74 (by decide) (fun c74 => ?_) (fun c74 => ?_)
            · refine lv_iconst (v := 1) hx hb d_Reader_isUtf8_89 (by decide) ?_
              refine lv_goto (tgt := 94) hx hb d_Reader_isUtf8_90 (by decide) ?_
              exact k94 _ (bz_t ⟨c67, Or.inl c74⟩)
            · refine lv_iload hx hb d_Reader_isUtf8_77 (lv_at hl 2 rfl) ?_
              refine lv_ldc (v := 1114111) hx hb hown (htb _ q3_218) d_Reader_isUtf8_79 ?_
              refine lv_icmp_gt (tgt := 89) hx hb d_Reader_isUtf8_81 (by decide) (fun c81 => ?_) (fun c81 => ?_)
              · refine lv_iconst (v := 1) hx hb d_Reader_isUtf8_89 (by decide) ?_
                refine lv_goto (tgt := 94) hx hb d_Reader_isUtf8_90 (by decide) ?_
                exact k94 _ (bz_t ⟨c67, Or.inr (Or.inl c81)⟩)
              · refine lv_iload hx hb d_Reader_isUtf8_84 (lv_at hl 0 rfl) ?_
                refine lv_if_eq (tgt := 93) hx hb d_Reader_isUtf8_86 (by decide) (fun c86 => ?_) (fun c86 => ?_)
                · refine lv_iconst (v := 0) hx hb d_Reader_isUtf8_93 (by decide) ?_
                  exact k94 _ (bz_f (fun q => q.2.elim c74 (fun z => z.elim c81 (bz_0 hv c86))))
                · refine lv_iconst (v := 1) hx hb d_Reader_isUtf8_89 (by decide) ?_
                  refine lv_goto (tgt := 94) hx hb d_Reader_isUtf8_90 (by decide) ?_
                  exact k94 _ (bz_t ⟨c67, Or.inr (Or.inr (bz_1 hv c86))⟩)
      · skip
        refine lv_iload hx hb d_Reader_isUtf8_45 (lv_at hl 1 rfl) ?_
        refine lv_ldc (v := 55296) hx hb hown (htb _ q3_216) d_Reader_isUtf8_47 ?_
        refine lv_icmp_lt (tgt := 63) hx hb d_Reader_isUtf8_49 (by decide) (fun c49 => ?_) (fun c49 => ?_)
        · refine lv_iconst (v := 0) hx hb d_Reader_isUtf8_63 (by decide) ?_
          exact k64 _ (bz_f (fun q => q.1 c49))
        · refine lv_iload hx hb d_Reader_isUtf8_52 (lv_at hl 1 rfl) ?_
          refine lv_ldc (v := 57343) hx hb hown (htb _ q3_217) d_Reader_isUtf8_54 ?_
          refine lv_icmp_gt (tgt := 63) hx hb d_Reader_isUtf8_56 (by decide) (fun c56 => ?_) (fun c56 => ?_)
          · refine lv_iconst (v := 0) hx hb d_Reader_isUtf8_63 (by decide) ?_
            exact k64 _ (bz_f (fun q => q.2 c56))
          · refine lv_iconst (v := 1) hx hb d_Reader_isUtf8_59 (by decide) ?_
            refine lv_goto (tgt := 64) hx hb d_Reader_isUtf8_60 (by decide) ?_
            exact k64 _ (bz_t ⟨c49, c56⟩)
