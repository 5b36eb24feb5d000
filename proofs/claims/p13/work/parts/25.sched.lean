/-! Sha256.fillSchedule. -/
def shrI (x y : Int32) : Int32 := (x.toUInt32 >>> (y.toUInt32 &&& Int32.toUInt32 31)).toInt32
/-- the first j octets of the word at place p of the padded text -/
def wdG (u : Nat → Nat) (a b tt p : Nat) : Nat → Int32
  | 0 => 0
  | j + 1 => (wdG u a b tt p j <<< ((8 : Int32) &&& 31)) ||| padI u a b (nI (p + j)) (nI tt)
def fsG (u : Nat → Nat) (a b tt fr : Nat) (g : Nat → Int32) : Nat → Nat → Int32
  | 0 => g
  | i + 1 => upd (fsG u a b tt fr g i) i (wdG u a b tt (fr + 4 * i) 4)
def scV (s : Nat → Int32) (i : Nat) : Int32 := ((((rotI (s (i - 2)) 17 ^^^ rotI (s (i - 2)) 19) ^^^ shrI (s (i - 2)) 10) + s (i - 7)) + ((rotI (s (i - 15)) 7 ^^^ rotI (s (i - 15)) 18) ^^^ shrI (s (i - 15)) 3)) + s (i - 16)
def scG (g : Nat → Int32) : Nat → Nat → Int32
  | 0 => g
  | k + 1 => upd (scG g k) (16 + k) (scV (scG g k) (16 + k))
def y_Sha256_fillSchedule : MethodName := ⟨"TrustChain$Sha256", "fillSchedule", "(LTrustChain$Slice;II)V"⟩
abbrev b_Sha256_fillSchedule : ByteArray := prog_11_method_3_code
def w_Sha256_fillSchedule : List Cond := Cond.code y_Sha256_fillSchedule b_Sha256_fillSchedule 9 (none) :: tb
theorem d_Sha256_fillSchedule_0 : decode b_Sha256_fillSchedule 0 = .ok (.iconst 0, 1) := by decide +kernel
theorem d_Sha256_fillSchedule_1 : decode b_Sha256_fillSchedule 1 = .ok (.istore 4, 2) := by decide +kernel
theorem d_Sha256_fillSchedule_3 : decode b_Sha256_fillSchedule 3 = .ok (.iload 4, 2) := by decide +kernel
theorem d_Sha256_fillSchedule_5 : decode b_Sha256_fillSchedule 5 = .ok (.bipush 16, 2) := by decide +kernel
theorem d_Sha256_fillSchedule_7 : decode b_Sha256_fillSchedule 7 = .ok (.if_icmp .ge 63, 3) := by decide +kernel
theorem d_Sha256_fillSchedule_10 : decode b_Sha256_fillSchedule 10 = .ok (.iconst 0, 1) := by decide +kernel
theorem d_Sha256_fillSchedule_11 : decode b_Sha256_fillSchedule 11 = .ok (.istore 5, 2) := by decide +kernel
theorem d_Sha256_fillSchedule_13 : decode b_Sha256_fillSchedule 13 = .ok (.iload_n 2, 1) := by decide +kernel
theorem d_Sha256_fillSchedule_14 : decode b_Sha256_fillSchedule 14 = .ok (.iconst 4, 1) := by decide +kernel
theorem d_Sha256_fillSchedule_15 : decode b_Sha256_fillSchedule 15 = .ok (.iload 4, 2) := by decide +kernel
theorem d_Sha256_fillSchedule_17 : decode b_Sha256_fillSchedule 17 = .ok (.imul, 1) := by decide +kernel
theorem d_Sha256_fillSchedule_18 : decode b_Sha256_fillSchedule 18 = .ok (.iadd, 1) := by decide +kernel
theorem d_Sha256_fillSchedule_19 : decode b_Sha256_fillSchedule 19 = .ok (.istore 6, 2) := by decide +kernel
theorem d_Sha256_fillSchedule_21 : decode b_Sha256_fillSchedule 21 = .ok (.iload 6, 2) := by decide +kernel
theorem d_Sha256_fillSchedule_23 : decode b_Sha256_fillSchedule 23 = .ok (.iload_n 2, 1) := by decide +kernel
theorem d_Sha256_fillSchedule_24 : decode b_Sha256_fillSchedule 24 = .ok (.iconst 4, 1) := by decide +kernel
theorem d_Sha256_fillSchedule_25 : decode b_Sha256_fillSchedule 25 = .ok (.iload 4, 2) := by decide +kernel
theorem d_Sha256_fillSchedule_27 : decode b_Sha256_fillSchedule 27 = .ok (.imul, 1) := by decide +kernel
theorem d_Sha256_fillSchedule_28 : decode b_Sha256_fillSchedule 28 = .ok (.iadd, 1) := by decide +kernel
theorem d_Sha256_fillSchedule_29 : decode b_Sha256_fillSchedule 29 = .ok (.iconst 4, 1) := by decide +kernel
theorem d_Sha256_fillSchedule_30 : decode b_Sha256_fillSchedule 30 = .ok (.iadd, 1) := by decide +kernel
theorem d_Sha256_fillSchedule_31 : decode b_Sha256_fillSchedule 31 = .ok (.if_icmp .ge 24, 3) := by decide +kernel
theorem d_Sha256_fillSchedule_34 : decode b_Sha256_fillSchedule 34 = .ok (.iload 5, 2) := by decide +kernel
theorem d_Sha256_fillSchedule_36 : decode b_Sha256_fillSchedule 36 = .ok (.bipush 8, 2) := by decide +kernel
theorem d_Sha256_fillSchedule_38 : decode b_Sha256_fillSchedule 38 = .ok (.ishl, 1) := by decide +kernel
theorem d_Sha256_fillSchedule_39 : decode b_Sha256_fillSchedule 39 = .ok (.aload_n 1, 1) := by decide +kernel
theorem d_Sha256_fillSchedule_40 : decode b_Sha256_fillSchedule 40 = .ok (.iload 6, 2) := by decide +kernel
theorem d_Sha256_fillSchedule_42 : decode b_Sha256_fillSchedule 42 = .ok (.iload_n 3, 1) := by decide +kernel
theorem d_Sha256_fillSchedule_43 : decode b_Sha256_fillSchedule 43 = .ok (.invokestatic 38, 3) := by decide +kernel
theorem d_Sha256_fillSchedule_46 : decode b_Sha256_fillSchedule 46 = .ok (.ior, 1) := by decide +kernel
theorem d_Sha256_fillSchedule_47 : decode b_Sha256_fillSchedule 47 = .ok (.istore 5, 2) := by decide +kernel
theorem d_Sha256_fillSchedule_49 : decode b_Sha256_fillSchedule 49 = .ok (.iinc 6 1, 3) := by decide +kernel
theorem d_Sha256_fillSchedule_52 : decode b_Sha256_fillSchedule 52 = .ok (.goto (-31), 3) := by decide +kernel
theorem d_Sha256_fillSchedule_55 : decode b_Sha256_fillSchedule 55 = .ok (.aload_n 0, 1) := by decide +kernel
theorem d_Sha256_fillSchedule_56 : decode b_Sha256_fillSchedule 56 = .ok (.getfield 11, 3) := by decide +kernel
theorem d_Sha256_fillSchedule_59 : decode b_Sha256_fillSchedule 59 = .ok (.iload 4, 2) := by decide +kernel
theorem d_Sha256_fillSchedule_61 : decode b_Sha256_fillSchedule 61 = .ok (.iload 5, 2) := by decide +kernel
theorem d_Sha256_fillSchedule_63 : decode b_Sha256_fillSchedule 63 = .ok (.iastore, 1) := by decide +kernel
theorem d_Sha256_fillSchedule_64 : decode b_Sha256_fillSchedule 64 = .ok (.iinc 4 1, 3) := by decide +kernel
theorem d_Sha256_fillSchedule_67 : decode b_Sha256_fillSchedule 67 = .ok (.goto (-64), 3) := by decide +kernel
theorem d_Sha256_fillSchedule_70 : decode b_Sha256_fillSchedule 70 = .ok (.bipush 16, 2) := by decide +kernel
theorem d_Sha256_fillSchedule_72 : decode b_Sha256_fillSchedule 72 = .ok (.istore 4, 2) := by decide +kernel
theorem d_Sha256_fillSchedule_74 : decode b_Sha256_fillSchedule 74 = .ok (.iload 4, 2) := by decide +kernel
theorem d_Sha256_fillSchedule_76 : decode b_Sha256_fillSchedule 76 = .ok (.bipush 64, 2) := by decide +kernel
theorem d_Sha256_fillSchedule_78 : decode b_Sha256_fillSchedule 78 = .ok (.if_icmp .ge 111, 3) := by decide +kernel
theorem d_Sha256_fillSchedule_81 : decode b_Sha256_fillSchedule 81 = .ok (.aload_n 0, 1) := by decide +kernel
theorem d_Sha256_fillSchedule_82 : decode b_Sha256_fillSchedule 82 = .ok (.getfield 11, 3) := by decide +kernel
theorem d_Sha256_fillSchedule_85 : decode b_Sha256_fillSchedule 85 = .ok (.iload 4, 2) := by decide +kernel
theorem d_Sha256_fillSchedule_87 : decode b_Sha256_fillSchedule 87 = .ok (.iconst 2, 1) := by decide +kernel
theorem d_Sha256_fillSchedule_88 : decode b_Sha256_fillSchedule 88 = .ok (.isub, 1) := by decide +kernel
theorem d_Sha256_fillSchedule_89 : decode b_Sha256_fillSchedule 89 = .ok (.iaload, 1) := by decide +kernel
theorem d_Sha256_fillSchedule_90 : decode b_Sha256_fillSchedule 90 = .ok (.istore 5, 2) := by decide +kernel
theorem d_Sha256_fillSchedule_92 : decode b_Sha256_fillSchedule 92 = .ok (.aload_n 0, 1) := by decide +kernel
theorem d_Sha256_fillSchedule_93 : decode b_Sha256_fillSchedule 93 = .ok (.getfield 11, 3) := by decide +kernel
theorem d_Sha256_fillSchedule_96 : decode b_Sha256_fillSchedule 96 = .ok (.iload 4, 2) := by decide +kernel
theorem d_Sha256_fillSchedule_98 : decode b_Sha256_fillSchedule 98 = .ok (.bipush 15, 2) := by decide +kernel
theorem d_Sha256_fillSchedule_100 : decode b_Sha256_fillSchedule 100 = .ok (.isub, 1) := by decide +kernel
theorem d_Sha256_fillSchedule_101 : decode b_Sha256_fillSchedule 101 = .ok (.iaload, 1) := by decide +kernel
theorem d_Sha256_fillSchedule_102 : decode b_Sha256_fillSchedule 102 = .ok (.istore 6, 2) := by decide +kernel
theorem d_Sha256_fillSchedule_104 : decode b_Sha256_fillSchedule 104 = .ok (.iload 5, 2) := by decide +kernel
theorem d_Sha256_fillSchedule_106 : decode b_Sha256_fillSchedule 106 = .ok (.bipush 17, 2) := by decide +kernel
theorem d_Sha256_fillSchedule_108 : decode b_Sha256_fillSchedule 108 = .ok (.invokestatic 42, 3) := by decide +kernel
theorem d_Sha256_fillSchedule_111 : decode b_Sha256_fillSchedule 111 = .ok (.iload 5, 2) := by decide +kernel
theorem d_Sha256_fillSchedule_113 : decode b_Sha256_fillSchedule 113 = .ok (.bipush 19, 2) := by decide +kernel
theorem d_Sha256_fillSchedule_115 : decode b_Sha256_fillSchedule 115 = .ok (.invokestatic 42, 3) := by decide +kernel
theorem d_Sha256_fillSchedule_118 : decode b_Sha256_fillSchedule 118 = .ok (.ixor, 1) := by decide +kernel
theorem d_Sha256_fillSchedule_119 : decode b_Sha256_fillSchedule 119 = .ok (.iload 5, 2) := by decide +kernel
theorem d_Sha256_fillSchedule_121 : decode b_Sha256_fillSchedule 121 = .ok (.bipush 10, 2) := by decide +kernel
theorem d_Sha256_fillSchedule_123 : decode b_Sha256_fillSchedule 123 = .ok (.iushr, 1) := by decide +kernel
theorem d_Sha256_fillSchedule_124 : decode b_Sha256_fillSchedule 124 = .ok (.ixor, 1) := by decide +kernel
theorem d_Sha256_fillSchedule_125 : decode b_Sha256_fillSchedule 125 = .ok (.istore 7, 2) := by decide +kernel
theorem d_Sha256_fillSchedule_127 : decode b_Sha256_fillSchedule 127 = .ok (.iload 6, 2) := by decide +kernel
theorem d_Sha256_fillSchedule_129 : decode b_Sha256_fillSchedule 129 = .ok (.bipush 7, 2) := by decide +kernel
theorem d_Sha256_fillSchedule_131 : decode b_Sha256_fillSchedule 131 = .ok (.invokestatic 42, 3) := by decide +kernel
theorem d_Sha256_fillSchedule_134 : decode b_Sha256_fillSchedule 134 = .ok (.iload 6, 2) := by decide +kernel
theorem d_Sha256_fillSchedule_136 : decode b_Sha256_fillSchedule 136 = .ok (.bipush 18, 2) := by decide +kernel
theorem d_Sha256_fillSchedule_138 : decode b_Sha256_fillSchedule 138 = .ok (.invokestatic 42, 3) := by decide +kernel
theorem d_Sha256_fillSchedule_141 : decode b_Sha256_fillSchedule 141 = .ok (.ixor, 1) := by decide +kernel
theorem d_Sha256_fillSchedule_142 : decode b_Sha256_fillSchedule 142 = .ok (.iload 6, 2) := by decide +kernel
theorem d_Sha256_fillSchedule_144 : decode b_Sha256_fillSchedule 144 = .ok (.iconst 3, 1) := by decide +kernel
theorem d_Sha256_fillSchedule_145 : decode b_Sha256_fillSchedule 145 = .ok (.iushr, 1) := by decide +kernel
theorem d_Sha256_fillSchedule_146 : decode b_Sha256_fillSchedule 146 = .ok (.ixor, 1) := by decide +kernel
theorem d_Sha256_fillSchedule_147 : decode b_Sha256_fillSchedule 147 = .ok (.istore 8, 2) := by decide +kernel
theorem d_Sha256_fillSchedule_149 : decode b_Sha256_fillSchedule 149 = .ok (.aload_n 0, 1) := by decide +kernel
theorem d_Sha256_fillSchedule_150 : decode b_Sha256_fillSchedule 150 = .ok (.getfield 11, 3) := by decide +kernel
theorem d_Sha256_fillSchedule_153 : decode b_Sha256_fillSchedule 153 = .ok (.iload 4, 2) := by decide +kernel
theorem d_Sha256_fillSchedule_155 : decode b_Sha256_fillSchedule 155 = .ok (.iload 7, 2) := by decide +kernel
theorem d_Sha256_fillSchedule_157 : decode b_Sha256_fillSchedule 157 = .ok (.aload_n 0, 1) := by decide +kernel
theorem d_Sha256_fillSchedule_158 : decode b_Sha256_fillSchedule 158 = .ok (.getfield 11, 3) := by decide +kernel
theorem d_Sha256_fillSchedule_161 : decode b_Sha256_fillSchedule 161 = .ok (.iload 4, 2) := by decide +kernel
theorem d_Sha256_fillSchedule_163 : decode b_Sha256_fillSchedule 163 = .ok (.bipush 7, 2) := by decide +kernel
theorem d_Sha256_fillSchedule_165 : decode b_Sha256_fillSchedule 165 = .ok (.isub, 1) := by decide +kernel
theorem d_Sha256_fillSchedule_166 : decode b_Sha256_fillSchedule 166 = .ok (.iaload, 1) := by decide +kernel
theorem d_Sha256_fillSchedule_167 : decode b_Sha256_fillSchedule 167 = .ok (.iadd, 1) := by decide +kernel
theorem d_Sha256_fillSchedule_168 : decode b_Sha256_fillSchedule 168 = .ok (.iload 8, 2) := by decide +kernel
theorem d_Sha256_fillSchedule_170 : decode b_Sha256_fillSchedule 170 = .ok (.iadd, 1) := by decide +kernel
theorem d_Sha256_fillSchedule_171 : decode b_Sha256_fillSchedule 171 = .ok (.aload_n 0, 1) := by decide +kernel
theorem d_Sha256_fillSchedule_172 : decode b_Sha256_fillSchedule 172 = .ok (.getfield 11, 3) := by decide +kernel
theorem d_Sha256_fillSchedule_175 : decode b_Sha256_fillSchedule 175 = .ok (.iload 4, 2) := by decide +kernel
theorem d_Sha256_fillSchedule_177 : decode b_Sha256_fillSchedule 177 = .ok (.bipush 16, 2) := by decide +kernel
theorem d_Sha256_fillSchedule_179 : decode b_Sha256_fillSchedule 179 = .ok (.isub, 1) := by decide +kernel
theorem d_Sha256_fillSchedule_180 : decode b_Sha256_fillSchedule 180 = .ok (.iaload, 1) := by decide +kernel
theorem d_Sha256_fillSchedule_181 : decode b_Sha256_fillSchedule 181 = .ok (.iadd, 1) := by decide +kernel
theorem d_Sha256_fillSchedule_182 : decode b_Sha256_fillSchedule 182 = .ok (.iastore, 1) := by decide +kernel
theorem d_Sha256_fillSchedule_183 : decode b_Sha256_fillSchedule 183 = .ok (.iinc 4 1, 3) := by decide +kernel
theorem d_Sha256_fillSchedule_186 : decode b_Sha256_fillSchedule 186 = .ok (.goto (-112), 3) := by decide +kernel
theorem d_Sha256_fillSchedule_189 : decode b_Sha256_fillSchedule 189 = .ok (.return_, 1) := by decide +kernel
set_option maxHeartbeats 4000000 in
set_option maxRecDepth 100000 in
theorem c_Sha256_fillSchedule (l : Launch) (dC : Nat → ClassId) (dI : Nat → Nat → Nat) (sb : sB) (q0 sc h t a b n tt fr : Nat) (cI cB : ClassId) (u : Nat → Nat) (g : Nat → Int32) (sz : Nat) (hu : ∀ j, u j < 256) (hab : a ≤ b) (hbn : b ≤ n) (hn : n < 2 ^ 20) (hfr : fr < 2 ^ 20) (htt : tt < 2 ^ 20) : Met l y_Sha256_fillSchedule w_Sha256_fillSchedule ({ frames := 2, cells := 0, slots := 0, locals := 44 }) (mu_P [.ref q0, .ref h, .int (nI fr), .int (nI tt)] (dC, dI) sb [(q0, .inr (6, [.ref sc])), (sc, .inl (cI, 64, .inl g)), (h, .inr (0, [.ref t, .int (nI a), .int (nI b)])), (t, .inl (cB, n, .inl (tx u)))] [(cI, .int), (cB, .byte)] sz) (va_Qv (fun (_u : Unit) => True) (mu_B (dC, dI) [(cI, .int), (cB, .byte)] (va_A [(q0, .inr (6, [.ref sc])), (sc, .inl (cI, 64, .inl g)), (h, .inr (0, [.ref t, .int (nI a), .int (nI b)])), (t, .inl (cB, n, .inl (tx u)))] sz) (fun _ : Unit => [(q0, .inr (6, [.ref sc])), (sc, .inl (cI, 64, .inl (scG (fsG u a b tt fr g 16) 48))), (h, .inr (0, [.ref t, .int (nI a), .int (nI b)])), (t, .inl (cB, n, .inl (tx u)))])) (va_A [(q0, .inr (6, [.ref sc])), (sc, .inl (cI, 64, .inl g)), (h, .inr (0, [.ref t, .int (nI a), .int (nI b)])), (t, .inl (cB, n, .inl (tx u)))] sz)) 0 0 (va_A [(q0, .inr (6, [.ref sc])), (sc, .inl (cI, 64, .inl g)), (h, .inr (0, [.ref t, .int (nI a), .int (nI b)])), (t, .inl (cB, n, .inl (tx u)))] sz) := by
  refine Met.ofW (cc := b_Sha256_fillSchedule) (maxL := 9) (ret := none) (by decide) rfl ?_
  intro p e s m args below meth c s₁ B hml hv
  obtain ⟨rfl, hsz, hB0, hP, hK, hD0, hN, hT0⟩ := hv
  have hx := B.exec
  have hb := B.bytes
  have hr := B.returns
  have hts := atoms_spec (ws := w_Sha256_fillSchedule) B.pre
  have tbin : ∀ w ∈ tb, w ∈ w_Sha256_fillSchedule := fun w h => List.mem_cons_of_mem _ h
  have htb : ∀ w ∈ tb, w.before _ s = true := fun w h => hts w (tbin w h)
  have hown : s.vm.findClass "TrustChain$Sha256" = some m.cls := findClass_of_methodNamed B.named
  have hlocks := B.notSynchronized
  subst hsz
  have hD := hD0.self (sz := s.heap.size)
  generalize hAe : va_A [(q0, .inr (6, [.ref sc])), (sc, .inl (cI, 64, .inl g)), (h, .inr (0, [.ref t, .int (nI a), .int (nI b)])), (t, .inl (cB, n, .inl (tx u)))] s.heap.size = A at hD ⊢
  have hA : ∀ q : Nat, s.heap.size ≤ q → A q := fun q h => by rw [← hAe]; exact Or.inr h
  have hAs : ∀ q : Nat, A q → sb.1 ≤ q := fun q h => by
    rw [← hAe] at h
    rcases h with ⟨k, e, h⟩ | h
    · exact hD0.2 k _ h
    · exact Nat.le_trans hB0 h
  have hS : va_S A s.heap s.heap [] := va_S.rf
  have hcs : 0 ≤ (headSpec w_Sha256_fillSchedule ({ frames := 2, cells := 0, slots := 0, locals := 44 })).room.cells ∧ 0 ≤ (headSpec w_Sha256_fillSchedule ({ frames := 2, cells := 0, slots := 0, locals := 44 })).room.slots := ⟨Nat.le_refl _, Nat.le_refl _⟩
  have hP : va_P (dC, dI) classes [(q0, .inr (6, [.ref sc])), (sc, .inl (cI, 64, .inl g)), (h, .inr (0, [.ref t, .int (nI a), .int (nI b)])), (t, .inl (cB, n, .inl (tx u)))] s.heap := hP
  have hl := lv_entry ([.ref q0, .ref h, .int (nI fr), .int (nI tt)]) (n := 9) (Nat.le_of_ble_eq_true rfl)
  rw [lg_entry_eq]
  generalize (lg_sl ([.ref q0, .ref h, .int (nI fr), .int (nI tt)]) ++ List.replicate (9 - (lg_sl ([.ref q0, .ref h, .int (nI fr), .int (nI tt)])).length) Slot.unset).toArray = ls at hl ⊢
  have hl : lv_has ls 9 [(0, .ref q0), (1, .ref h), (2, .int (nI fr)), (3, .int (nI tt))] := hl
  refine lv_iconst (v := 0) hx hb d_Sha256_fillSchedule_0 (by decide) ?_
  refine lv_istore (lv' := [(4, .int 0), (0, .ref q0), (1, .ref h), (2, .int (nI fr)), (3, .int (nI tt))]) hx hb d_Sha256_fillSchedule_1 hl (by decide) rfl (fun ls hl => ?_)
  refine w_loopW (α := Nat) (fun i => i ≤ 16) (fun i => 16 - i) (fun i => [(0, .ref q0), (1, .ref h), (2, .int (nI fr)), (3, .int (nI tt)), (4, .int (nI i))]) (fun _ => []) (fun i => [(q0, .inr (6, [.ref sc])), (sc, .inl (cI, 64, .inl (fsG u a b tt fr g i))), (h, .inr (0, [.ref t, .int (nI a), .int (nI b)])), (t, .inl (cB, n, .inl (tx u)))]) 9 3 (fun i HL3 locs ls hJ hP hD hS hl ih => ?_) 0 _ _ ls (Nat.zero_le _) hP hD hS (lv_sub hl [1, 2, 3, 4, 0] rfl)
  have hP : va_P (dC, dI) classes [(q0, .inr (6, [.ref sc])), (sc, .inl (cI, 64, .inl (fsG u a b tt fr g i))), (h, .inr (0, [.ref t, .int (nI a), .int (nI b)])), (t, .inl (cB, n, .inl (tx u)))] HL3 := hP
  have hD : va_D A [(q0, .inr (6, [.ref sc])), (sc, .inl (cI, 64, .inl (fsG u a b tt fr g i))), (h, .inr (0, [.ref t, .int (nI a), .int (nI b)])), (t, .inl (cB, n, .inl (tx u)))] := hD
  refine lv_iload hx hb d_Sha256_fillSchedule_3 (lv_at hl 4 rfl) ?_
  refine lv_bipush (v := 16) hx hb d_Sha256_fillSchedule_5 (by decide) ?_
  refine lv_icmp_ge (tgt := 70) hx hb d_Sha256_fillSchedule_7 (by decide) (fun c7 => ?_) (fun c7 => ?_)
  · have hi16 : i = 16 := by rw [show (16 : Int32) = nI 16 from rfl, nI_leI (by omega) (by omega)] at c7; omega
    subst hi16
    refine lv_bipush (v := 16) hx hb d_Sha256_fillSchedule_70 (by decide) ?_
    refine lv_istore (lv' := [(4, .int 16), (0, .ref q0), (1, .ref h), (2, .int (nI fr)), (3, .int (nI tt))]) hx hb d_Sha256_fillSchedule_72 hl (by decide) rfl (fun ls hl => ?_)
    refine w_loopW (α := Nat) (fun k => k ≤ 48) (fun k => 48 - k) (fun k => [(0, .ref q0), (1, .ref h), (2, .int (nI fr)), (3, .int (nI tt)), (4, .int (nI (16 + k)))]) (fun _ => []) (fun k => [(q0, .inr (6, [.ref sc])), (sc, .inl (cI, 64, .inl (scG (fsG u a b tt fr g 16) k))), (h, .inr (0, [.ref t, .int (nI a), .int (nI b)])), (t, .inl (cB, n, .inl (tx u)))]) 9 74 (fun k HL74 locs ls hJ hP hD hS hl ih => ?_) 0 _ _ ls (Nat.zero_le _) hP hD hS (lv_sub hl [1, 2, 3, 4, 0] rfl)
    have hP : va_P (dC, dI) classes [(q0, .inr (6, [.ref sc])), (sc, .inl (cI, 64, .inl (scG (fsG u a b tt fr g 16) k))), (h, .inr (0, [.ref t, .int (nI a), .int (nI b)])), (t, .inl (cB, n, .inl (tx u)))] HL74 := hP
    have hD : va_D A [(q0, .inr (6, [.ref sc])), (sc, .inl (cI, 64, .inl (scG (fsG u a b tt fr g 16) k))), (h, .inr (0, [.ref t, .int (nI a), .int (nI b)])), (t, .inl (cB, n, .inl (tx u)))] := hD
    refine lv_iload hx hb d_Sha256_fillSchedule_74 (lv_at hl 4 rfl) ?_
    refine lv_bipush (v := 64) hx hb d_Sha256_fillSchedule_76 (by decide) ?_
    refine lv_icmp_ge (tgt := 189) hx hb d_Sha256_fillSchedule_78 (by decide) (fun c78 => ?_) (fun c78 => ?_)
    · have hk48 : k = 48 := by rw [show (64 : Int32) = nI 64 from rfl, nI_leI (by omega) (by omega)] at c78; omega
      subst hk48
      exact W.vret hx hb hr (fun t ht hW => ⟨⟨(), rfl, trivial, by rw [ht]; exact hP, va_K.moved hW.alike hK, hD⟩, hS.F ht⟩) hS.2.2 d_Sha256_fillSchedule_189
    · have hk48 : k < 48 := by rw [show (64 : Int32) = nI 64 from rfl, nI_leI (by omega) (by omega)] at c78; omega
      refine lv_aload_n hx hb d_Sha256_fillSchedule_81 rfl (lv_at hl 0 rfl) ?_
      refine va_get (v := .ref sc) hx hb htb i_Sha256 hown hK hP 0 rfl rfl 0 (by decide) (htb _ q1_74) (fun _ h9 => h9) rfl d_Sha256_fillSchedule_82 ?_
      refine lv_iload hx hb d_Sha256_fillSchedule_85 (lv_at hl 4 rfl) ?_
      refine lv_iconst (v := 2) hx hb d_Sha256_fillSchedule_87 (by decide) ?_
      refine lv_isub hx hb d_Sha256_fillSchedule_88 ?_
      rw [show ((nI (16 + k)) - 2 : Int32) = nI (16 + k - 2) from pk_sub (a := 16 + k) (b := 2) (by omega)]
      have h89 : vp_in (nI (16 + k - 2)) 64 := vp_in_nI (by omega) (by omega)
      refine va_iald hx hb hK hP 1 0 rfl rfl h89 d_Sha256_fillSchedule_89 ?_
      rw [show ((scG (fsG u a b tt fr g 16) k) (nI (16 + k - 2)).toNatClampNeg : Int32) = scG (fsG u a b tt fr g 16) k (16 + k - 2) from by rw [nI_clamp (by omega)]]
      refine lv_topi (fun v90 ev90 => ?_)
      refine lv_istore (lv' := [(5, .int v90), (0, .ref q0), (1, .ref h), (2, .int (nI fr)), (3, .int (nI tt)), (4, .int (nI (16 + k)))]) hx hb d_Sha256_fillSchedule_90 hl (by decide) rfl (fun ls hl => ?_)
      refine lv_aload_n hx hb d_Sha256_fillSchedule_92 rfl (lv_at hl 1 rfl) ?_
      refine va_get (v := .ref sc) hx hb htb i_Sha256 hown hK hP 0 rfl rfl 0 (by decide) (htb _ q1_74) (fun _ h9 => h9) rfl d_Sha256_fillSchedule_93 ?_
      refine lv_iload hx hb d_Sha256_fillSchedule_96 (lv_at hl 5 rfl) ?_
      refine lv_bipush (v := 15) hx hb d_Sha256_fillSchedule_98 (by decide) ?_
      refine lv_isub hx hb d_Sha256_fillSchedule_100 ?_
      rw [show ((nI (16 + k)) - 15 : Int32) = nI (16 + k - 15) from pk_sub (a := 16 + k) (b := 15) (by omega)]
      have h101 : vp_in (nI (16 + k - 15)) 64 := vp_in_nI (by omega) (by omega)
      refine va_iald hx hb hK hP 1 0 rfl rfl h101 d_Sha256_fillSchedule_101 ?_
      rw [show ((scG (fsG u a b tt fr g 16) k) (nI (16 + k - 15)).toNatClampNeg : Int32) = scG (fsG u a b tt fr g 16) k (16 + k - 15) from by rw [nI_clamp (by omega)]]
      refine lv_topi (fun v102 ev102 => ?_)
      refine lv_istore (lv' := [(6, .int v102), (5, .int v90), (0, .ref q0), (1, .ref h), (2, .int (nI fr)), (3, .int (nI tt)), (4, .int (nI (16 + k)))]) hx hb d_Sha256_fillSchedule_102 hl (by decide) rfl (fun ls hl => ?_)
      refine lv_iload hx hb d_Sha256_fillSchedule_104 (lv_at hl 1 rfl) ?_
      refine lv_bipush (v := 17) hx hb d_Sha256_fillSchedule_106 (by decide) ?_
      refine vp_callSi (pu_callS (As := [.int v90, .int 17]) (rest := []) ⟨hx, hb, hml, hown, hts⟩ tbin (c_Sha256_turn l dC dI sb v90 17) q5_25 q5_26 q1_5 q5_27 (n := 2) (by decide +kernel) rfl ⟨rfl, rfl⟩ ⟨Nat.le_of_ble_eq_true rfl, Nat.le_of_ble_eq_true rfl⟩ ⟨Nat.le_of_ble_eq_true rfl, Nat.le_of_ble_eq_true rfl⟩ hN (hT0.keep hS hAs) hK hP [] rfl [] rfl hl.1 rfl (Nat.le_of_ble_eq_true rfl) d_Sha256_fillSchedule_108) (fun r108 hr108 => ?_)
      refine lv_iload hx hb d_Sha256_fillSchedule_111 (lv_at hl 1 rfl) ?_
      refine lv_bipush (v := 19) hx hb d_Sha256_fillSchedule_113 (by decide) ?_
      refine vp_callSi (pu_callS (As := [.int v90, .int 19]) (rest := [.int r108]) ⟨hx, hb, hml, hown, hts⟩ tbin (c_Sha256_turn l dC dI sb v90 19) q5_25 q5_26 q1_5 q5_27 (n := 2) (by decide +kernel) rfl ⟨rfl, rfl⟩ ⟨Nat.le_of_ble_eq_true rfl, Nat.le_of_ble_eq_true rfl⟩ ⟨Nat.le_of_ble_eq_true rfl, Nat.le_of_ble_eq_true rfl⟩ hN (hT0.keep hS hAs) hK hP [] rfl [] rfl hl.1 rfl (Nat.le_of_ble_eq_true rfl) d_Sha256_fillSchedule_115) (fun r115 hr115 => ?_)
      refine lv_ixor hx hb d_Sha256_fillSchedule_118 ?_
      refine lv_iload hx hb d_Sha256_fillSchedule_119 (lv_at hl 1 rfl) ?_
      refine lv_bipush (v := 10) hx hb d_Sha256_fillSchedule_121 (by decide) ?_
      refine lv_iushr (v := (v90.toUInt32 >>> ((10 : Int32).toUInt32 &&& Int32.toUInt32 31)).toInt32) hx hb d_Sha256_fillSchedule_123 rfl ?_
      refine lv_ixor hx hb d_Sha256_fillSchedule_124 ?_
      refine lv_topi (fun v125 ev125 => ?_)
      refine lv_istore (lv' := [(7, .int v125), (6, .int v102), (5, .int v90), (0, .ref q0), (1, .ref h), (2, .int (nI fr)), (3, .int (nI tt)), (4, .int (nI (16 + k)))]) hx hb d_Sha256_fillSchedule_125 hl (by decide) rfl (fun ls hl => ?_)
      refine lv_iload hx hb d_Sha256_fillSchedule_127 (lv_at hl 1 rfl) ?_
      refine lv_bipush (v := 7) hx hb d_Sha256_fillSchedule_129 (by decide) ?_
      refine vp_callSi (pu_callS (As := [.int v102, .int 7]) (rest := []) ⟨hx, hb, hml, hown, hts⟩ tbin (c_Sha256_turn l dC dI sb v102 7) q5_25 q5_26 q1_5 q5_27 (n := 2) (by decide +kernel) rfl ⟨rfl, rfl⟩ ⟨Nat.le_of_ble_eq_true rfl, Nat.le_of_ble_eq_true rfl⟩ ⟨Nat.le_of_ble_eq_true rfl, Nat.le_of_ble_eq_true rfl⟩ hN (hT0.keep hS hAs) hK hP [] rfl [] rfl hl.1 rfl (Nat.le_of_ble_eq_true rfl) d_Sha256_fillSchedule_131) (fun r131 hr131 => ?_)
      refine lv_iload hx hb d_Sha256_fillSchedule_134 (lv_at hl 1 rfl) ?_
      refine lv_bipush (v := 18) hx hb d_Sha256_fillSchedule_136 (by decide) ?_
      refine vp_callSi (pu_callS (As := [.int v102, .int 18]) (rest := [.int r131]) ⟨hx, hb, hml, hown, hts⟩ tbin (c_Sha256_turn l dC dI sb v102 18) q5_25 q5_26 q1_5 q5_27 (n := 2) (by decide +kernel) rfl ⟨rfl, rfl⟩ ⟨Nat.le_of_ble_eq_true rfl, Nat.le_of_ble_eq_true rfl⟩ ⟨Nat.le_of_ble_eq_true rfl, Nat.le_of_ble_eq_true rfl⟩ hN (hT0.keep hS hAs) hK hP [] rfl [] rfl hl.1 rfl (Nat.le_of_ble_eq_true rfl) d_Sha256_fillSchedule_138) (fun r138 hr138 => ?_)
      refine lv_ixor hx hb d_Sha256_fillSchedule_141 ?_
      refine lv_iload hx hb d_Sha256_fillSchedule_142 (lv_at hl 1 rfl) ?_
      refine lv_iconst (v := 3) hx hb d_Sha256_fillSchedule_144 (by decide) ?_
      refine lv_iushr (v := (v102.toUInt32 >>> ((3 : Int32).toUInt32 &&& Int32.toUInt32 31)).toInt32) hx hb d_Sha256_fillSchedule_145 rfl ?_
      refine lv_ixor hx hb d_Sha256_fillSchedule_146 ?_
      refine lv_topi (fun v147 ev147 => ?_)
      refine lv_istore (lv' := [(8, .int v147), (7, .int v125), (6, .int v102), (5, .int v90), (0, .ref q0), (1, .ref h), (2, .int (nI fr)), (3, .int (nI tt)), (4, .int (nI (16 + k)))]) hx hb d_Sha256_fillSchedule_147 hl (by decide) rfl (fun ls hl => ?_)
      refine lv_aload_n hx hb d_Sha256_fillSchedule_149 rfl (lv_at hl 4 rfl) ?_
      refine va_get (v := .ref sc) hx hb htb i_Sha256 hown hK hP 0 rfl rfl 0 (by decide) (htb _ q1_74) (fun _ h9 => h9) rfl d_Sha256_fillSchedule_150 ?_
      refine lv_iload hx hb d_Sha256_fillSchedule_153 (lv_at hl 8 rfl) ?_
      refine lv_iload hx hb d_Sha256_fillSchedule_155 (lv_at hl 1 rfl) ?_
      refine lv_aload_n hx hb d_Sha256_fillSchedule_157 rfl (lv_at hl 4 rfl) ?_
      refine va_get (v := .ref sc) hx hb htb i_Sha256 hown hK hP 0 rfl rfl 0 (by decide) (htb _ q1_74) (fun _ h9 => h9) rfl d_Sha256_fillSchedule_158 ?_
      refine lv_iload hx hb d_Sha256_fillSchedule_161 (lv_at hl 8 rfl) ?_
      refine lv_bipush (v := 7) hx hb d_Sha256_fillSchedule_163 (by decide) ?_
      refine lv_isub hx hb d_Sha256_fillSchedule_165 ?_
      rw [show ((nI (16 + k)) - 7 : Int32) = nI (16 + k - 7) from pk_sub (a := 16 + k) (b := 7) (by omega)]
      have h166 : vp_in (nI (16 + k - 7)) 64 := vp_in_nI (by omega) (by omega)
      refine va_iald hx hb hK hP 1 0 rfl rfl h166 d_Sha256_fillSchedule_166 ?_
      rw [show ((scG (fsG u a b tt fr g 16) k) (nI (16 + k - 7)).toNatClampNeg : Int32) = scG (fsG u a b tt fr g 16) k (16 + k - 7) from by rw [nI_clamp (by omega)]]
      refine lv_iadd hx hb d_Sha256_fillSchedule_167 ?_
      refine lv_iload hx hb d_Sha256_fillSchedule_168 (lv_at hl 0 rfl) ?_
      refine lv_iadd hx hb d_Sha256_fillSchedule_170 ?_
      refine lv_aload_n hx hb d_Sha256_fillSchedule_171 rfl (lv_at hl 4 rfl) ?_
      refine va_get (v := .ref sc) hx hb htb i_Sha256 hown hK hP 0 rfl rfl 0 (by decide) (htb _ q1_74) (fun _ h9 => h9) rfl d_Sha256_fillSchedule_172 ?_
      refine lv_iload hx hb d_Sha256_fillSchedule_175 (lv_at hl 8 rfl) ?_
      refine lv_bipush (v := 16) hx hb d_Sha256_fillSchedule_177 (by decide) ?_
      refine lv_isub hx hb d_Sha256_fillSchedule_179 ?_
      rw [show ((nI (16 + k)) - 16 : Int32) = nI (16 + k - 16) from pk_sub (a := 16 + k) (b := 16) (by omega)]
      have h180 : vp_in (nI (16 + k - 16)) 64 := vp_in_nI (by omega) (by omega)
      refine va_iald hx hb hK hP 1 0 rfl rfl h180 d_Sha256_fillSchedule_180 ?_
      rw [show ((scG (fsG u a b tt fr g 16) k) (nI (16 + k - 16)).toNatClampNeg : Int32) = scG (fsG u a b tt fr g 16) k (16 + k - 16) from by rw [nI_clamp (by omega)]]
      refine lv_iadd hx hb d_Sha256_fillSchedule_181 ?_
      rw [show (((v125 + (scG (fsG u a b tt fr g 16) k (16 + k - 7))) + v147) + (scG (fsG u a b tt fr g 16) k (16 + k - 16)) : Int32) = scV (scG (fsG u a b tt fr g 16) k) (16 + k) from by rw [ev125, ev147, hr108, hr115, hr131, hr138, ev90, ev102]; rfl]
      have h182 : vp_in (nI (16 + k)) 64 := vp_in_nI (by omega) (by omega)
      refine va_iast hx hb hK hP hD hS 1 0 rfl rfl h182 d_Sha256_fillSchedule_182 (fun H182 locs hP hD hS => ?_)
      rw [nI_clamp (by omega)] at hP hD
      have hP : va_P (dC, dI) classes [(q0, .inr (6, [.ref sc])), (sc, .inl (cI, 64, .inl (scG (fsG u a b tt fr g 16) (k + 1)))), (h, .inr (0, [.ref t, .int (nI a), .int (nI b)])), (t, .inl (cB, n, .inl (tx u)))] H182 := hP
      have hD : va_D A [(q0, .inr (6, [.ref sc])), (sc, .inl (cI, 64, .inl (scG (fsG u a b tt fr g 16) (k + 1)))), (h, .inr (0, [.ref t, .int (nI a), .int (nI b)])), (t, .inl (cB, n, .inl (tx u)))] := hD
      refine lv_iinc (v := nI (16 + k + 1)) (lv' := [(4, .int (nI (16 + k + 1))), (8, .int v147), (7, .int v125), (6, .int v102), (5, .int v90), (0, .ref q0), (1, .ref h), (2, .int (nI fr)), (3, .int (nI tt))]) hx hb d_Sha256_fillSchedule_183 hl (k := 8) rfl (nI_1 _) (by decide) rfl (fun ls hl => ?_)
      refine lv_goto (tgt := 74) hx hb d_Sha256_fillSchedule_186 (by decide) ?_
      exact ih (k + 1) _ _ ls (by omega) (by omega) hP hD hS (lv_sub hl [5, 6, 7, 8, 0] rfl)
  · have hi16 : i < 16 := by rw [show (16 : Int32) = nI 16 from rfl, nI_leI (by omega) (by omega)] at c7; omega
    refine lv_iconst (v := 0) hx hb d_Sha256_fillSchedule_10 (by decide) ?_
    refine lv_istore (lv' := [(5, .int 0), (0, .ref q0), (1, .ref h), (2, .int (nI fr)), (3, .int (nI tt)), (4, .int (nI i))]) hx hb d_Sha256_fillSchedule_11 hl (by decide) rfl (fun ls hl => ?_)
    refine lv_iload_n hx hb d_Sha256_fillSchedule_13 rfl (lv_at hl 3 rfl) ?_
    refine lv_iconst (v := 4) hx hb d_Sha256_fillSchedule_14 (by decide) ?_
    refine lv_iload hx hb d_Sha256_fillSchedule_15 (lv_at hl 5 rfl) ?_
    refine lv_imul hx hb d_Sha256_fillSchedule_17 ?_
    rw [show (4 * (nI i) : Int32) = nI (4 * i) from pk_mul 4 i]
    refine lv_iadd hx hb d_Sha256_fillSchedule_18 ?_
    rw [show ((nI fr) + (nI (4 * i)) : Int32) = nI (fr + 4 * i) from nI_add fr (4 * i)]
    refine lv_istore (lv' := [(6, .int (nI (fr + 4 * i))), (5, .int 0), (0, .ref q0), (1, .ref h), (2, .int (nI fr)), (3, .int (nI tt)), (4, .int (nI i))]) hx hb d_Sha256_fillSchedule_19 hl (by decide) rfl (fun ls hl => ?_)
    refine w_loop (α := Nat × Int32) (fun z => z.1 ≤ 4 ∧ z.2 = wdG u a b tt (fr + 4 * i) z.1) (fun z => 4 - z.1) (fun z => [(0, .ref q0), (1, .ref h), (2, .int (nI fr)), (3, .int (nI tt)), (4, .int (nI i)), (5, .int z.2), (6, .int (nI (fr + 4 * i + z.1)))]) (fun _ => []) 9 21 (fun z ls hJ2 hl ih2 => ?_) (0, 0) ls (⟨Nat.zero_le _, rfl⟩) (lv_sub hl [2, 3, 4, 5, 6, 1, 0] rfl)
    refine lv_iload hx hb d_Sha256_fillSchedule_21 (lv_at hl 6 rfl) ?_
    refine lv_iload_n hx hb d_Sha256_fillSchedule_23 rfl (lv_at hl 2 rfl) ?_
    refine lv_iconst (v := 4) hx hb d_Sha256_fillSchedule_24 (by decide) ?_
    refine lv_iload hx hb d_Sha256_fillSchedule_25 (lv_at hl 4 rfl) ?_
    refine lv_imul hx hb d_Sha256_fillSchedule_27 ?_
    rw [show (4 * (nI i) : Int32) = nI (4 * i) from pk_mul 4 i]
    refine lv_iadd hx hb d_Sha256_fillSchedule_28 ?_
    rw [show ((nI fr) + (nI (4 * i)) : Int32) = nI (fr + 4 * i) from nI_add fr (4 * i)]
    refine lv_iconst (v := 4) hx hb d_Sha256_fillSchedule_29 (by decide) ?_
    refine lv_iadd hx hb d_Sha256_fillSchedule_30 ?_
    rw [show ((nI (fr + 4 * i)) + 4 : Int32) = nI (fr + 4 * i + 4) from nI_add (fr + 4 * i) 4]
    refine lv_icmp_ge (tgt := 55) hx hb d_Sha256_fillSchedule_31 (by decide) (fun c31 => ?_) (fun c31 => ?_)
    · have hj4 : z.1 = 4 := by rw [nI_leI (by omega) (by omega)] at c31; omega
      have hwd : z.2 = wdG u a b tt (fr + 4 * i) 4 := by have h := hJ2.2; rw [hj4] at h; exact h
      refine lv_aload_n hx hb d_Sha256_fillSchedule_55 rfl (lv_at hl 0 rfl) ?_
      refine va_get (v := .ref sc) hx hb htb i_Sha256 hown hK hP 0 rfl rfl 0 (by decide) (htb _ q1_74) (fun _ h9 => h9) rfl d_Sha256_fillSchedule_56 ?_
      refine lv_iload hx hb d_Sha256_fillSchedule_59 (lv_at hl 4 rfl) ?_
      refine lv_iload hx hb d_Sha256_fillSchedule_61 (lv_at hl 5 rfl) ?_
      rw [show (z.2 : Int32) = wdG u a b tt (fr + 4 * i) 4 from hwd]
      have h63 : vp_in (nI i) 64 := vp_in_nI (by omega) (by omega)
      refine va_iast hx hb hK hP hD hS 1 0 rfl rfl h63 d_Sha256_fillSchedule_63 (fun H63 locs hP hD hS => ?_)
      rw [nI_clamp (by omega)] at hP hD
      have hP : va_P (dC, dI) classes [(q0, .inr (6, [.ref sc])), (sc, .inl (cI, 64, .inl (fsG u a b tt fr g (i + 1)))), (h, .inr (0, [.ref t, .int (nI a), .int (nI b)])), (t, .inl (cB, n, .inl (tx u)))] H63 := hP
      have hD : va_D A [(q0, .inr (6, [.ref sc])), (sc, .inl (cI, 64, .inl (fsG u a b tt fr g (i + 1)))), (h, .inr (0, [.ref t, .int (nI a), .int (nI b)])), (t, .inl (cB, n, .inl (tx u)))] := hD
      refine lv_iinc (v := nI (i + 1)) (lv' := [(4, .int (nI (i + 1))), (0, .ref q0), (1, .ref h), (2, .int (nI fr)), (3, .int (nI tt)), (5, .int z.2), (6, .int (nI (fr + 4 * i + z.1)))]) hx hb d_Sha256_fillSchedule_64 hl (k := 4) rfl (nI_1 _) (by decide) rfl (fun ls hl => ?_)
      refine lv_goto (tgt := 3) hx hb d_Sha256_fillSchedule_67 (by decide) ?_
      exact ih (i + 1) _ _ ls (by omega) (by omega) hP hD hS (lv_sub hl [1, 2, 3, 4, 0] rfl)
    · have hj4 : z.1 < 4 := by rw [nI_leI (by omega) (by omega)] at c31; omega
      refine lv_iload hx hb d_Sha256_fillSchedule_34 (lv_at hl 5 rfl) ?_
      refine lv_bipush (v := 8) hx hb d_Sha256_fillSchedule_36 (by decide) ?_
      refine lv_ishl hx hb d_Sha256_fillSchedule_38 ?_
      refine lv_aload_n hx hb d_Sha256_fillSchedule_39 rfl (lv_at hl 1 rfl) ?_
      refine lv_iload hx hb d_Sha256_fillSchedule_40 (lv_at hl 6 rfl) ?_
      refine lv_iload_n hx hb d_Sha256_fillSchedule_42 rfl (lv_at hl 3 rfl) ?_
      refine vp_callSi (pu_callS (As := [.ref h, .int (nI (fr + 4 * i + z.1)), .int (nI tt)]) (rest := [.int (z.2 <<< (8 &&& 31))]) ⟨hx, hb, hml, hown, hts⟩ tbin (c_Sha256_padded l dC dI sb h t a b n cB u (nI (fr + 4 * i + z.1)) (nI tt) hu hab hbn (by omega)) q5_21 q5_22 q1_5 q5_23 (n := 3) (by decide +kernel) rfl ⟨rfl, rfl⟩ ⟨Nat.le_of_ble_eq_true rfl, Nat.le_of_ble_eq_true rfl⟩ ⟨Nat.le_of_ble_eq_true rfl, Nat.le_of_ble_eq_true rfl⟩ hN (hT0.keep hS hAs) hK hP [2, 3] rfl [1] rfl hl.1 rfl (Nat.le_of_ble_eq_true rfl) d_Sha256_fillSchedule_43) (fun r43 hr43 => ?_)
      refine lv_ior hx hb d_Sha256_fillSchedule_46 ?_
      refine lv_topi (fun v47 ev47 => ?_)
      refine lv_istore (lv' := [(5, .int v47), (0, .ref q0), (1, .ref h), (2, .int (nI fr)), (3, .int (nI tt)), (4, .int (nI i)), (6, .int (nI (fr + 4 * i + z.1)))]) hx hb d_Sha256_fillSchedule_47 hl (by decide) rfl (fun ls hl => ?_)
      refine lv_iinc (v := nI (fr + 4 * i + z.1 + 1)) (lv' := [(6, .int (nI (fr + 4 * i + z.1 + 1))), (5, .int v47), (0, .ref q0), (1, .ref h), (2, .int (nI fr)), (3, .int (nI tt)), (4, .int (nI i))]) hx hb d_Sha256_fillSchedule_49 hl (k := 6) rfl (nI_1 _) (by decide) rfl (fun ls hl => ?_)
      refine lv_goto (tgt := 21) hx hb d_Sha256_fillSchedule_52 (by decide) ?_
      exact ih2 (z.1 + 1, v47) ls (by show 4 - (z.1 + 1) < 4 - z.1; omega) (⟨by show z.1 + 1 ≤ 4; omega, by rw [ev47, hr43, hJ2.2]; rfl⟩) (lv_sub hl [2, 3, 4, 5, 6, 1, 0] rfl)
