/-! TrustChain.Reader: methods that are made of open, leave, finish, require. -/
/-- a truth as Java holds it -/
def zI (P : Prop) [Decidable P] : Int32 := if P then 1 else 0
theorem bz_zI {r : Int32} {P : Prop} [Decidable P] (h : bz r P) : r = zI P := by
  rcases h with ⟨h1, h2⟩ | ⟨h1, h2⟩
  · rw [h1, zI, if_pos h2]
  · rw [h1, zI, if_neg h2]
def rdInv (n : Nat) (x : rS) : Prop := x.1 ≤ n ∧ x.2.1 ≤ n ∧ ∀ k, x.2.2 = some k → k ≤ n
section RDI
variable {u : Nat → Nat} {n tg en : Nat} {x : rS} {bv : Int32}
theorem rdInv.w (h : rdInv n x) (hn : n < 2 ^ 30) : ∀ k, x.2.2 = some k → k < 2 ^ 31 := fun k hk => by have := h.2.2 k hk; omega
theorem opn_inv (h : rdInv n x) (he : en ≤ n) : rdInv n (rd_opn u n x tg en).1 ∧ (rd_opn u n x tg en).1.1 ≤ (rd_opn u n x tg en).2 ∧ (rd_opn u n x tg en).2 ≤ n ∧ (rd_opn u n x tg en).1.2.1 = x.1 := by
  obtain ⟨p, s, w⟩ := x
  obtain ⟨h1, h2, h3⟩ := h
  dsimp only at h1 h2 h3
  cases w with
  | some j => exact ⟨⟨h1, h1, h3⟩, Nat.le_refl _, h1, rfl⟩
  | none =>
    simp only [rd_opn]
    by_cases h4 : en ≤ p
    · rw [if_pos h4]
      exact ⟨⟨h1, h1, fun k hk => by cases hk; exact he⟩, Nat.le_refl _, h1, rfl⟩
    · rw [if_neg h4]
      cases hq : hx u n p with
      | none => exact ⟨⟨h1, h1, fun k hk => by cases hk; exact h1⟩, Nat.le_refl _, h1, rfl⟩
      | some z =>
        obtain ⟨k, m⟩ := z
        dsimp only
        by_cases h5 : u p = tg ∧ p + k + m ≤ en
        · rw [if_pos h5]
          exact ⟨⟨by show p + k ≤ n; omega, h1, fun k hk => by cases hk⟩, by show p + k ≤ p + k + m; omega, by show p + k + m ≤ n; omega, rfl⟩
        · rw [if_neg h5]
          exact ⟨⟨h1, h1, fun k hk => by cases hk; exact h1⟩, Nat.le_refl _, h1, rfl⟩
theorem lea_inv (h : rdInv n x) (he : en ≤ n) : rdInv n (rd_lea x en bv) := by
  obtain ⟨p, s, w⟩ := x
  obtain ⟨h1, h2, h3⟩ := h
  dsimp only at h1 h2 h3
  cases w with
  | some j => exact ⟨h1, h2, h3⟩
  | none =>
    simp only [rd_lea]
    by_cases h4 : bv = 0
    · rw [if_pos h4]; exact ⟨h1, h2, fun k hk => by cases hk; exact h2⟩
    · rw [if_neg h4]; exact ⟨he, h2, fun k hk => by cases hk⟩
theorem fin_inv (h : rdInv n x) : rdInv n (rd_fin x en) := by
  obtain ⟨p, s, w⟩ := x
  obtain ⟨h1, h2, h3⟩ := h
  dsimp only at h1 h2 h3
  cases w with
  | some j => exact ⟨h1, h2, h3⟩
  | none =>
    simp only [rd_fin]
    by_cases h4 : p < en
    · rw [if_pos h4]; exact ⟨h1, h2, fun k hk => by cases hk; exact h1⟩
    · rw [if_neg h4]; exact ⟨h1, h2, fun k hk => by cases hk⟩
theorem req_inv (h : rdInv n x) : rdInv n (rd_req x bv) := by
  obtain ⟨p, s, w⟩ := x
  obtain ⟨h1, h2, h3⟩ := h
  dsimp only at h1 h2 h3
  cases w with
  | some j => exact ⟨h1, h2, h3⟩
  | none =>
    simp only [rd_req]
    by_cases h4 : bv = 0
    · rw [if_pos h4]; exact ⟨h1, h2, fun k hk => by cases hk; exact h2⟩
    · rw [if_neg h4]; exact ⟨h1, h2, fun k hk => by cases hk⟩
theorem ref_inv {k : Nat} (h : rdInv n x) (hk : k ≤ n) : rdInv n (rd_ref x k) := by
  obtain ⟨p, s, w⟩ := x
  obtain ⟨h1, h2, h3⟩ := h
  dsimp only at h1 h2 h3
  cases w with
  | some j => exact ⟨h1, h2, h3⟩
  | none => exact ⟨h1, h2, fun j hj => by cases hj; exact hk⟩
end RDI
/-- flag, openBits: what the reader is behind them -/
def rd_flag (u : Nat → Nat) (n : Nat) (x : rS) (en : Nat) : rS :=
  let o := rd_opn u n x 1 en
  rd_lea o.1 o.2 (zI (o.2 - o.1.1 = 1 ∧ oc u n o.1.1 = 255))
def rd_bits (u : Nat → Nat) (n : Nat) (x : rS) (en : Nat) : rS × Nat :=
  let o := rd_opn u n x 3 en
  (rd_lea o.1 (o.1.1 + 1) (zI (o.1.1 < o.2 ∧ oc u n o.1.1 = 0)), o.2)

def y_Reader_flag : MethodName := ⟨"TrustChain$Reader", "flag", "(I)V"⟩
abbrev b_Reader_flag : ByteArray := prog_8_method_13_code
def w_Reader_flag : List Cond := Cond.code y_Reader_flag b_Reader_flag 3 (none) :: tb
theorem d_Reader_flag_0 : decode b_Reader_flag 0 = .ok (.aload_n 0, 1) := by decide +kernel
theorem d_Reader_flag_1 : decode b_Reader_flag 1 = .ok (.iconst 1, 1) := by decide +kernel
theorem d_Reader_flag_2 : decode b_Reader_flag 2 = .ok (.iload_n 1, 1) := by decide +kernel
theorem d_Reader_flag_3 : decode b_Reader_flag 3 = .ok (.invokevirtual 49, 3) := by decide +kernel
theorem d_Reader_flag_6 : decode b_Reader_flag 6 = .ok (.istore_n 2, 1) := by decide +kernel
theorem d_Reader_flag_7 : decode b_Reader_flag 7 = .ok (.aload_n 0, 1) := by decide +kernel
theorem d_Reader_flag_8 : decode b_Reader_flag 8 = .ok (.iload_n 2, 1) := by decide +kernel
theorem d_Reader_flag_9 : decode b_Reader_flag 9 = .ok (.iload_n 2, 1) := by decide +kernel
theorem d_Reader_flag_10 : decode b_Reader_flag 10 = .ok (.aload_n 0, 1) := by decide +kernel
theorem d_Reader_flag_11 : decode b_Reader_flag 11 = .ok (.getfield 9, 3) := by decide +kernel
theorem d_Reader_flag_14 : decode b_Reader_flag 14 = .ok (.isub, 1) := by decide +kernel
theorem d_Reader_flag_15 : decode b_Reader_flag 15 = .ok (.iconst 1, 1) := by decide +kernel
theorem d_Reader_flag_16 : decode b_Reader_flag 16 = .ok (.if_icmp .ne 21, 3) := by decide +kernel
theorem d_Reader_flag_19 : decode b_Reader_flag 19 = .ok (.aload_n 0, 1) := by decide +kernel
theorem d_Reader_flag_20 : decode b_Reader_flag 20 = .ok (.aload_n 0, 1) := by decide +kernel
theorem d_Reader_flag_21 : decode b_Reader_flag 21 = .ok (.getfield 9, 3) := by decide +kernel
theorem d_Reader_flag_24 : decode b_Reader_flag 24 = .ok (.invokevirtual 45, 3) := by decide +kernel
theorem d_Reader_flag_27 : decode b_Reader_flag 27 = .ok (.sipush 255, 3) := by decide +kernel
theorem d_Reader_flag_30 : decode b_Reader_flag 30 = .ok (.if_icmp .ne 7, 3) := by decide +kernel
theorem d_Reader_flag_33 : decode b_Reader_flag 33 = .ok (.iconst 1, 1) := by decide +kernel
theorem d_Reader_flag_34 : decode b_Reader_flag 34 = .ok (.goto 4, 3) := by decide +kernel
theorem d_Reader_flag_37 : decode b_Reader_flag 37 = .ok (.iconst 0, 1) := by decide +kernel
theorem d_Reader_flag_38 : decode b_Reader_flag 38 = .ok (.invokevirtual 53, 3) := by decide +kernel
theorem d_Reader_flag_41 : decode b_Reader_flag 41 = .ok (.return_, 1) := by decide +kernel
def y_Reader_openBits : MethodName := ⟨"TrustChain$Reader", "openBits", "(I)I"⟩
abbrev b_Reader_openBits : ByteArray := prog_8_method_14_code
def w_Reader_openBits : List Cond := Cond.code y_Reader_openBits b_Reader_openBits 3 ((some FieldType.int)) :: tb
theorem d_Reader_openBits_0 : decode b_Reader_openBits 0 = .ok (.aload_n 0, 1) := by decide +kernel
theorem d_Reader_openBits_1 : decode b_Reader_openBits 1 = .ok (.iconst 3, 1) := by decide +kernel
theorem d_Reader_openBits_2 : decode b_Reader_openBits 2 = .ok (.iload_n 1, 1) := by decide +kernel
theorem d_Reader_openBits_3 : decode b_Reader_openBits 3 = .ok (.invokevirtual 49, 3) := by decide +kernel
theorem d_Reader_openBits_6 : decode b_Reader_openBits 6 = .ok (.istore_n 2, 1) := by decide +kernel
theorem d_Reader_openBits_7 : decode b_Reader_openBits 7 = .ok (.aload_n 0, 1) := by decide +kernel
theorem d_Reader_openBits_8 : decode b_Reader_openBits 8 = .ok (.aload_n 0, 1) := by decide +kernel
theorem d_Reader_openBits_9 : decode b_Reader_openBits 9 = .ok (.getfield 9, 3) := by decide +kernel
theorem d_Reader_openBits_12 : decode b_Reader_openBits 12 = .ok (.iconst 1, 1) := by decide +kernel
theorem d_Reader_openBits_13 : decode b_Reader_openBits 13 = .ok (.iadd, 1) := by decide +kernel
theorem d_Reader_openBits_14 : decode b_Reader_openBits 14 = .ok (.aload_n 0, 1) := by decide +kernel
theorem d_Reader_openBits_15 : decode b_Reader_openBits 15 = .ok (.getfield 9, 3) := by decide +kernel
theorem d_Reader_openBits_18 : decode b_Reader_openBits 18 = .ok (.iload_n 2, 1) := by decide +kernel
theorem d_Reader_openBits_19 : decode b_Reader_openBits 19 = .ok (.if_icmp .ge 18, 3) := by decide +kernel
theorem d_Reader_openBits_22 : decode b_Reader_openBits 22 = .ok (.aload_n 0, 1) := by decide +kernel
theorem d_Reader_openBits_23 : decode b_Reader_openBits 23 = .ok (.aload_n 0, 1) := by decide +kernel
theorem d_Reader_openBits_24 : decode b_Reader_openBits 24 = .ok (.getfield 9, 3) := by decide +kernel
theorem d_Reader_openBits_27 : decode b_Reader_openBits 27 = .ok (.invokevirtual 45, 3) := by decide +kernel
theorem d_Reader_openBits_30 : decode b_Reader_openBits 30 = .ok (.ifCond .ne 7, 3) := by decide +kernel
theorem d_Reader_openBits_33 : decode b_Reader_openBits 33 = .ok (.iconst 1, 1) := by decide +kernel
theorem d_Reader_openBits_34 : decode b_Reader_openBits 34 = .ok (.goto 4, 3) := by decide +kernel
theorem d_Reader_openBits_37 : decode b_Reader_openBits 37 = .ok (.iconst 0, 1) := by decide +kernel
theorem d_Reader_openBits_38 : decode b_Reader_openBits 38 = .ok (.invokevirtual 53, 3) := by decide +kernel
theorem d_Reader_openBits_41 : decode b_Reader_openBits 41 = .ok (.iload_n 2, 1) := by decide +kernel
theorem d_Reader_openBits_42 : decode b_Reader_openBits 42 = .ok (.ireturn, 1) := by decide +kernel
set_option maxHeartbeats 4000000 in
set_option maxRecDepth 100000 in
theorem cC_flag (l : Launch) (dC : Nat → ClassId) (dI : Nat → Nat → Nat) (sb : sB) (h res t ki n : Nat) (x : rS) (pa ma ex ie : Int32) (cB : ClassId) (u : Nat → Nat) (en : Nat) (sz : Nat) (hu : ∀ j, u j < 256) (hn : n < 2 ^ 30) (hi : rdInv n x) (he : en ≤ n) : Met l y_Reader_flag w_Reader_flag ({ frames := 2, cells := 0, slots := 0, locals := 46 }) (mu_P [.ref h, .int (nI en)] (dC, dI) sb [(h, .inr (4, [.ref res, .ref t, .int (nI x.1), .int (nI x.2.1), .int (wI x.2.2), .int pa, .int ma, .int ex, .ref ki])), (t, .inl (cB, n, .inl (tx u)))] [(cB, .byte)] sz) (va_Qv (fun (u' : rS) => u' = rd_flag u n x en) (mu_B (dC, dI) [(cB, .byte)] (va_A [(h, .inr (4, [.ref res, .ref t, .int (nI x.1), .int (nI x.2.1), .int (wI x.2.2), .int pa, .int ma, .int ex, .ref ki])), (t, .inl (cB, n, .inl (tx u)))] sz) (fun u' : rS => [(h, .inr (4, [.ref res, .ref t, .int (nI u'.1), .int (nI u'.2.1), .int (wI u'.2.2), .int pa, .int ma, .int ex, .ref ki])), (t, .inl (cB, n, .inl (tx u)))])) (va_A [(h, .inr (4, [.ref res, .ref t, .int (nI x.1), .int (nI x.2.1), .int (wI x.2.2), .int pa, .int ma, .int ex, .ref ki])), (t, .inl (cB, n, .inl (tx u)))] sz)) 0 0 (va_A [(h, .inr (4, [.ref res, .ref t, .int (nI x.1), .int (nI x.2.1), .int (wI x.2.2), .int pa, .int ma, .int ex, .ref ki])), (t, .inl (cB, n, .inl (tx u)))] sz) := by
  refine Met.ofW (cc := b_Reader_flag) (maxL := 3) (ret := none) (by decide) rfl ?_
  intro p e s m args below meth c s₁ B hml hv
  obtain ⟨rfl, hsz, hB0, hP, hK, hD0, hN, hT0⟩ := hv
  have hx := B.exec
  have hb := B.bytes
  have hr := B.returns
  have hts := atoms_spec (ws := w_Reader_flag) B.pre
  have tbin : ∀ w ∈ tb, w ∈ w_Reader_flag := fun w h => List.mem_cons_of_mem _ h
  have htb : ∀ w ∈ tb, w.before _ s = true := fun w h => hts w (tbin w h)
  have hown : s.vm.findClass "TrustChain$Reader" = some m.cls := findClass_of_methodNamed B.named
  have hlocks := B.notSynchronized
  subst hsz
  have hD := hD0.self (sz := s.heap.size)
  generalize hAe : va_A [(h, .inr (4, [.ref res, .ref t, .int (nI x.1), .int (nI x.2.1), .int (wI x.2.2), .int pa, .int ma, .int ex, .ref ki])), (t, .inl (cB, n, .inl (tx u)))] s.heap.size = A at hD ⊢
  have hA : ∀ q : Nat, s.heap.size ≤ q → A q := fun q h => by rw [← hAe]; exact Or.inr h
  have hAs : ∀ q : Nat, A q → sb.1 ≤ q := fun q h => by
    rw [← hAe] at h
    rcases h with ⟨k, e, h⟩ | h
    · exact hD0.2 k _ h
    · exact Nat.le_trans hB0 h
  have hS : va_S A s.heap s.heap [] := va_S.rf
  have hcs : 0 ≤ (headSpec w_Reader_flag ({ frames := 2, cells := 0, slots := 0, locals := 46 })).room.cells ∧ 0 ≤ (headSpec w_Reader_flag ({ frames := 2, cells := 0, slots := 0, locals := 46 })).room.slots := ⟨Nat.le_refl _, Nat.le_refl _⟩
  have hP : va_P (dC, dI) classes [(h, .inr (4, [.ref res, .ref t, .int (nI x.1), .int (nI x.2.1), .int (wI x.2.2), .int pa, .int ma, .int ex, .ref ki])), (t, .inl (cB, n, .inl (tx u)))] s.heap := hP
  have hl := lv_entry ([.ref h, .int (nI en)]) (n := 3) (Nat.le_of_ble_eq_true rfl)
  rw [lg_entry_eq]
  generalize (lg_sl ([.ref h, .int (nI en)]) ++ List.replicate (3 - (lg_sl ([.ref h, .int (nI en)])).length) Slot.unset).toArray = ls at hl ⊢
  have hl : lv_has ls 3 [(0, .ref h), (1, .int (nI en))] := hl
  refine lv_aload_n hx hb d_Reader_flag_0 rfl (lv_at hl 0 rfl) ?_
  refine lv_iconst (v := 1) hx hb d_Reader_flag_1 (by decide) ?_
  refine lv_iload_n hx hb d_Reader_flag_2 rfl (lv_at hl 1 rfl) ?_
  have hFc := va_free (wc := [(h, .inr (4, [.ref res, .ref t, .int (nI x.1), .int (nI x.2.1), .int (wI x.2.2), .int pa, .int ma, .int ex, .ref ki])), (t, .inl (cB, n, .inl (tx u)))]) hD hS hA [0, 1] rfl
  refine va_calli (mu_runU (As := [.int 1, .int (nI en)]) (rest := []) ⟨hx, hb, hml, hown, hts⟩ (cC_open l dC dI sb h res t ki x.1 x.2.1 n x.2.2 pa ma ex ie cB u 1 en s.heap.size hu hn ((hi).w hn) he (hi).1 (by decide)) (cu_of (n := 2) hts tbin q3_130 q9_192 q3_112 q9_193 q1_15 q3_113 rfl (by decide +kernel) ⟨rfl, rfl⟩ ⟨Nat.le_of_ble_eq_true rfl, Nat.le_of_ble_eq_true rfl⟩) rfl ⟨Nat.le_of_ble_eq_true rfl, Nat.le_of_ble_eq_true rfl⟩ hN (hT0.keep hS hAs) hAs (Nat.le_trans hB0 hS.1) hK hP hD [0, 1] (by decide) rfl [0] rfl 0 4 rfl rfl rfl hl.1 rfl (Nat.le_of_ble_eq_true rfl) d_Reader_flag_3) hS (fun q _ h => hFc q h) hFc (fun r3 u3 tS H3 locs ht hvm hw3 hB hz1 hk1 hS => ?_)
  obtain ⟨x3, rfl⟩ : ∃ z, z = u3 := ⟨_, rfl⟩
  obtain ⟨hP1, hK1, hD1⟩ := hB
  rw [ht] at hP1
  obtain ⟨hP, hD⟩ := va_join (wr := []) (w1 := [(h, .inr (4, [.ref res, .ref t, .int (nI x3.1), .int (nI x3.2.1), .int (wI x3.2.2), .int pa, .int ma, .int ex, .ref ki])), (t, .inl (cB, n, .inl (tx u)))]) hP hD [0, 1] [] rfl rfl (by decide) (by decide) hk1 hFc hP1 hD1
  have hP : va_P (dC, dI) classes [(h, .inr (4, [.ref res, .ref t, .int (nI x3.1), .int (nI x3.2.1), .int (wI x3.2.2), .int pa, .int ma, .int ex, .ref ki])), (t, .inl (cB, n, .inl (tx u)))] H3 := hP
  have hD : va_D A [(h, .inr (4, [.ref res, .ref t, .int (nI x3.1), .int (nI x3.2.1), .int (wI x3.2.2), .int pa, .int ma, .int ex, .ref ki])), (t, .inl (cB, n, .inl (tx u)))] := hD
  have hw3 : x3 = (rd_opn u n x 1 en).1 ∧ r3 = nI (rd_opn u n x 1 en).2 := hw3
  have hi3 := opn_inv (u := u) (tg := 1) hi he
  obtain ⟨o3, ho3⟩ : ∃ o, o = rd_opn u n x 1 en := ⟨_, rfl⟩
  rw [← ho3] at hw3 hi3
  obtain ⟨rfl, rfl⟩ := hw3
  have hP : va_P (dC, dI) classes [(h, .inr (4, [.ref res, .ref t, .int (nI o3.1.1), .int (nI o3.1.2.1), .int (wI o3.1.2.2), .int pa, .int ma, .int ex, .ref ki])), (t, .inl (cB, n, .inl (tx u)))] H3 := hP
  have hD : va_D A [(h, .inr (4, [.ref res, .ref t, .int (nI o3.1.1), .int (nI o3.1.2.1), .int (wI o3.1.2.2), .int pa, .int ma, .int ex, .ref ki])), (t, .inl (cB, n, .inl (tx u)))] := hD
  refine lv_istore_n (lv' := [(2, .int (nI o3.2)), (0, .ref h), (1, .int (nI en))]) hx hb d_Reader_flag_6 rfl hl (by decide) rfl (fun ls hl => ?_)
  refine lv_aload_n hx hb d_Reader_flag_7 rfl (lv_at hl 1 rfl) ?_
  refine lv_iload_n hx hb d_Reader_flag_8 rfl (lv_at hl 0 rfl) ?_
  have hb1 := hi3.1.1
  have hb2 := hi3.2.1
  have hb3 := hi3.2.2.1
  refine w_join (J := fun v => bz v (o3.2 - o3.1.1 = 1 ∧ oc u n o3.1.1 = 255)) (pc := 38) (ls := ls) (rest := [.int (nI o3.2), .ref h]) (fun v hv => ?_) (fun k38 => ?_)
  · skip
    have hFc := va_free (wc := [(h, .inr (4, [.ref res, .ref t, .int (nI o3.1.1), .int (nI o3.1.2.1), .int (wI o3.1.2.2), .int pa, .int ma, .int ex, .ref ki]))]) hD hS hA [0] rfl
    refine va_callv (mu_runU (As := [.int (nI o3.2), .int v]) (rest := []) ⟨hx, hb, hml, hown, hts⟩ (cC_leave l dC dI sb h res t ki o3.1.1 o3.1.2.1 n o3.1.2.2 pa ma ex ie cB u o3.2 v H3.size ((hi3.1).w hn)) (cu_of (n := 2) hts tbin q3_131 q3_133 q3_132 q3_134 q1_15 q3_136 rfl (by decide +kernel) ⟨rfl, rfl⟩ ⟨Nat.le_of_ble_eq_true rfl, Nat.le_of_ble_eq_true rfl⟩) rfl ⟨Nat.le_of_ble_eq_true rfl, Nat.le_of_ble_eq_true rfl⟩ hN (hT0.keep hS hAs) hAs (Nat.le_trans hB0 hS.1) hK hP hD [0] (by decide) rfl [] rfl 0 4 rfl rfl rfl hl.1 rfl (Nat.le_of_ble_eq_true rfl) d_Reader_flag_38) hS (fun q _ h => hFc q h) hFc (fun u38 tS H38 locs ht hvm hw38 hB hz1 hk1 hS => ?_)
    obtain ⟨x38, rfl⟩ : ∃ z, z = u38 := ⟨_, rfl⟩
    obtain ⟨hP1, hK1, hD1⟩ := hB
    rw [ht] at hP1
    obtain ⟨hP, hD⟩ := va_join (wr := [(t, .inl (cB, n, .inl (tx u)))]) (w1 := [(h, .inr (4, [.ref res, .ref t, .int (nI x38.1), .int (nI x38.2.1), .int (wI x38.2.2), .int pa, .int ma, .int ex, .ref ki]))]) hP hD [0] [1] rfl rfl (by decide) (by decide) hk1 hFc hP1 hD1
    have hP : va_P (dC, dI) classes [(t, .inl (cB, n, .inl (tx u))), (h, .inr (4, [.ref res, .ref t, .int (nI x38.1), .int (nI x38.2.1), .int (wI x38.2.2), .int pa, .int ma, .int ex, .ref ki]))] H38 := hP
    have hD : va_D A [(t, .inl (cB, n, .inl (tx u))), (h, .inr (4, [.ref res, .ref t, .int (nI x38.1), .int (nI x38.2.1), .int (wI x38.2.2), .int pa, .int ma, .int ex, .ref ki]))] := hD
    have hw38 : x38 = rd_lea o3.1 o3.2 v := hw38
    have hi38 : rdInv n x38 := by rw [hw38]; exact lea_inv hi3.1 hi3.2.2.1
    exact W.vret hx hb hr (fun t ht hW => ⟨⟨x38, rfl, hw38.trans (by rw [bz_zI hv, ho3]; rfl), by rw [ht]; exact hP.sub [1, 0] rfl, va_K.moved hW.alike hK, hD.sub [1, 0] (by decide) rfl⟩, hS.F ht⟩) hS.2.2 d_Reader_flag_41
  · skip
    have hb1 := hi3.1.1
    have hb2 := hi3.2.1
    have hb3 := hi3.2.2.1
    refine lv_iload_n hx hb d_Reader_flag_9 rfl (lv_at hl 0 rfl) ?_
    refine lv_aload_n hx hb d_Reader_flag_10 rfl (lv_at hl 1 rfl) ?_
    refine va_get (v := .int (nI o3.1.1)) hx hb htb i_CertificateReader hown hK hP 0 rfl rfl 2 (by decide) (htb _ q3_62) (fun _ h9 => h9) rfl d_Reader_flag_11 ?_
    refine lv_isub hx hb d_Reader_flag_14 ?_
    refine lv_iconst (v := 1) hx hb d_Reader_flag_15 (by decide) ?_
    refine lv_icmp_ne (tgt := 37) hx hb d_Reader_flag_16 (by decide) (fun c16 => ?_) (fun c16 => ?_)
    · refine lv_iconst (v := 0) hx hb d_Reader_flag_37 (by decide) ?_
      exact k38 _ (bz_f (fun q => c16 (by rw [pk_sub hi3.2.1, q.1]; rfl)))
    · refine lv_aload_n hx hb d_Reader_flag_19 rfl (lv_at hl 1 rfl) ?_
      refine lv_aload_n hx hb d_Reader_flag_20 rfl (lv_at hl 1 rfl) ?_
      refine va_get (v := .int (nI o3.1.1)) hx hb htb i_CertificateReader hown hK hP 0 rfl rfl 2 (by decide) (htb _ q3_62) (fun _ h9 => h9) rfl d_Reader_flag_21 ?_
      refine vp_callSi (pu_callU (As := [.int (nI o3.1.1)]) (rest := [.int (nI o3.2), .ref h]) ⟨hx, hb, hml, hown, hts⟩ (cC_octet l dC dI sb h res t ki o3.1.1 o3.1.2.1 n o3.1.2.2 pa ma ex ie cB u (nI o3.1.1) hu hn) (cu_of (n := 1) hts tbin q3_114 q3_116 q3_115 q3_117 q1_15 q3_119 rfl (by decide +kernel) ⟨rfl, rfl⟩ ⟨Nat.le_of_ble_eq_true rfl, Nat.le_of_ble_eq_true rfl⟩) rfl ⟨Nat.le_of_ble_eq_true rfl, Nat.le_of_ble_eq_true rfl⟩ hN (hT0.keep hS hAs) hK hP [0, 1] rfl [0] rfl 0 4 rfl rfl rfl hl.1 rfl (Nat.le_of_ble_eq_true rfl) d_Reader_flag_24) (fun r24 hr24 => ?_)
      refine lv_sipush (v := 255) hx hb d_Reader_flag_27 (by decide) ?_
      refine lv_icmp_ne (tgt := 37) hx hb d_Reader_flag_30 (by decide) (fun c30 => ?_) (fun c30 => ?_)
      · refine lv_iconst (v := 0) hx hb d_Reader_flag_37 (by decide) ?_
        exact k38 _ (bz_f (fun q => c30 (by rw [hr24, oc_eq (by have := hi3.1.1; omega)]; exact q.2)))
      · refine lv_iconst (v := 1) hx hb d_Reader_flag_33 (by decide) ?_
        refine lv_goto (tgt := 38) hx hb d_Reader_flag_34 (by decide) ?_
        exact k38 _ (bz_t ⟨by rw [pk_sub hi3.2.1, show (1 : Int32) = nI 1 from rfl, nI_eq (by omega) (by omega)] at c16; exact c16, by rw [← oc_eq (by have := hi3.1.1; omega), ← hr24]; exact c30⟩)
set_option maxHeartbeats 4000000 in
set_option maxRecDepth 100000 in
theorem cC_openBits (l : Launch) (dC : Nat → ClassId) (dI : Nat → Nat → Nat) (sb : sB) (h res t ki n : Nat) (x : rS) (pa ma ex ie : Int32) (cB : ClassId) (u : Nat → Nat) (en : Nat) (sz : Nat) (hu : ∀ j, u j < 256) (hn : n < 2 ^ 30) (hi : rdInv n x) (he : en ≤ n) : Met l y_Reader_openBits w_Reader_openBits ({ frames := 2, cells := 0, slots := 0, locals := 46 }) (mu_P [.ref h, .int (nI en)] (dC, dI) sb [(h, .inr (4, [.ref res, .ref t, .int (nI x.1), .int (nI x.2.1), .int (wI x.2.2), .int pa, .int ma, .int ex, .ref ki])), (t, .inl (cB, n, .inl (tx u)))] [(cB, .byte)] sz) (va_Qi (fun r (u' : rS) => u' = (rd_bits u n x en).1 ∧ r = nI (rd_bits u n x en).2) (mu_B (dC, dI) [(cB, .byte)] (va_A [(h, .inr (4, [.ref res, .ref t, .int (nI x.1), .int (nI x.2.1), .int (wI x.2.2), .int pa, .int ma, .int ex, .ref ki])), (t, .inl (cB, n, .inl (tx u)))] sz) (fun u' : rS => [(h, .inr (4, [.ref res, .ref t, .int (nI u'.1), .int (nI u'.2.1), .int (wI u'.2.2), .int pa, .int ma, .int ex, .ref ki])), (t, .inl (cB, n, .inl (tx u)))])) (va_A [(h, .inr (4, [.ref res, .ref t, .int (nI x.1), .int (nI x.2.1), .int (wI x.2.2), .int pa, .int ma, .int ex, .ref ki])), (t, .inl (cB, n, .inl (tx u)))] sz)) 0 0 (va_A [(h, .inr (4, [.ref res, .ref t, .int (nI x.1), .int (nI x.2.1), .int (wI x.2.2), .int pa, .int ma, .int ex, .ref ki])), (t, .inl (cB, n, .inl (tx u)))] sz) := by
  refine Met.ofW (cc := b_Reader_openBits) (maxL := 3) (ret := (some FieldType.int)) (by decide) rfl ?_
  intro p e s m args below meth c s₁ B hml hv
  obtain ⟨rfl, hsz, hB0, hP, hK, hD0, hN, hT0⟩ := hv
  have hx := B.exec
  have hb := B.bytes
  have hr := B.returns
  have hts := atoms_spec (ws := w_Reader_openBits) B.pre
  have tbin : ∀ w ∈ tb, w ∈ w_Reader_openBits := fun w h => List.mem_cons_of_mem _ h
  have htb : ∀ w ∈ tb, w.before _ s = true := fun w h => hts w (tbin w h)
  have hown : s.vm.findClass "TrustChain$Reader" = some m.cls := findClass_of_methodNamed B.named
  have hlocks := B.notSynchronized
  subst hsz
  have hD := hD0.self (sz := s.heap.size)
  generalize hAe : va_A [(h, .inr (4, [.ref res, .ref t, .int (nI x.1), .int (nI x.2.1), .int (wI x.2.2), .int pa, .int ma, .int ex, .ref ki])), (t, .inl (cB, n, .inl (tx u)))] s.heap.size = A at hD ⊢
  have hA : ∀ q : Nat, s.heap.size ≤ q → A q := fun q h => by rw [← hAe]; exact Or.inr h
  have hAs : ∀ q : Nat, A q → sb.1 ≤ q := fun q h => by
    rw [← hAe] at h
    rcases h with ⟨k, e, h⟩ | h
    · exact hD0.2 k _ h
    · exact Nat.le_trans hB0 h
  have hS : va_S A s.heap s.heap [] := va_S.rf
  have hcs : 0 ≤ (headSpec w_Reader_openBits ({ frames := 2, cells := 0, slots := 0, locals := 46 })).room.cells ∧ 0 ≤ (headSpec w_Reader_openBits ({ frames := 2, cells := 0, slots := 0, locals := 46 })).room.slots := ⟨Nat.le_refl _, Nat.le_refl _⟩
  have hP : va_P (dC, dI) classes [(h, .inr (4, [.ref res, .ref t, .int (nI x.1), .int (nI x.2.1), .int (wI x.2.2), .int pa, .int ma, .int ex, .ref ki])), (t, .inl (cB, n, .inl (tx u)))] s.heap := hP
  have hl := lv_entry ([.ref h, .int (nI en)]) (n := 3) (Nat.le_of_ble_eq_true rfl)
  rw [lg_entry_eq]
  generalize (lg_sl ([.ref h, .int (nI en)]) ++ List.replicate (3 - (lg_sl ([.ref h, .int (nI en)])).length) Slot.unset).toArray = ls at hl ⊢
  have hl : lv_has ls 3 [(0, .ref h), (1, .int (nI en))] := hl
  refine lv_aload_n hx hb d_Reader_openBits_0 rfl (lv_at hl 0 rfl) ?_
  refine lv_iconst (v := 3) hx hb d_Reader_openBits_1 (by decide) ?_
  refine lv_iload_n hx hb d_Reader_openBits_2 rfl (lv_at hl 1 rfl) ?_
  have hFc := va_free (wc := [(h, .inr (4, [.ref res, .ref t, .int (nI x.1), .int (nI x.2.1), .int (wI x.2.2), .int pa, .int ma, .int ex, .ref ki])), (t, .inl (cB, n, .inl (tx u)))]) hD hS hA [0, 1] rfl
  refine va_calli (mu_runU (As := [.int 3, .int (nI en)]) (rest := []) ⟨hx, hb, hml, hown, hts⟩ (cC_open l dC dI sb h res t ki x.1 x.2.1 n x.2.2 pa ma ex ie cB u 3 en s.heap.size hu hn ((hi).w hn) he (hi).1 (by decide)) (cu_of (n := 2) hts tbin q3_130 q9_192 q3_112 q9_193 q1_15 q3_113 rfl (by decide +kernel) ⟨rfl, rfl⟩ ⟨Nat.le_of_ble_eq_true rfl, Nat.le_of_ble_eq_true rfl⟩) rfl ⟨Nat.le_of_ble_eq_true rfl, Nat.le_of_ble_eq_true rfl⟩ hN (hT0.keep hS hAs) hAs (Nat.le_trans hB0 hS.1) hK hP hD [0, 1] (by decide) rfl [0] rfl 0 4 rfl rfl rfl hl.1 rfl (Nat.le_of_ble_eq_true rfl) d_Reader_openBits_3) hS (fun q _ h => hFc q h) hFc (fun r3 u3 tS H3 locs ht hvm hw3 hB hz1 hk1 hS => ?_)
  obtain ⟨x3, rfl⟩ : ∃ z, z = u3 := ⟨_, rfl⟩
  obtain ⟨hP1, hK1, hD1⟩ := hB
  rw [ht] at hP1
  obtain ⟨hP, hD⟩ := va_join (wr := []) (w1 := [(h, .inr (4, [.ref res, .ref t, .int (nI x3.1), .int (nI x3.2.1), .int (wI x3.2.2), .int pa, .int ma, .int ex, .ref ki])), (t, .inl (cB, n, .inl (tx u)))]) hP hD [0, 1] [] rfl rfl (by decide) (by decide) hk1 hFc hP1 hD1
  have hP : va_P (dC, dI) classes [(h, .inr (4, [.ref res, .ref t, .int (nI x3.1), .int (nI x3.2.1), .int (wI x3.2.2), .int pa, .int ma, .int ex, .ref ki])), (t, .inl (cB, n, .inl (tx u)))] H3 := hP
  have hD : va_D A [(h, .inr (4, [.ref res, .ref t, .int (nI x3.1), .int (nI x3.2.1), .int (wI x3.2.2), .int pa, .int ma, .int ex, .ref ki])), (t, .inl (cB, n, .inl (tx u)))] := hD
  have hw3 : x3 = (rd_opn u n x 3 en).1 ∧ r3 = nI (rd_opn u n x 3 en).2 := hw3
  have hi3 := opn_inv (u := u) (tg := 3) hi he
  obtain ⟨o3, ho3⟩ : ∃ o, o = rd_opn u n x 3 en := ⟨_, rfl⟩
  rw [← ho3] at hw3 hi3
  obtain ⟨rfl, rfl⟩ := hw3
  have hP : va_P (dC, dI) classes [(h, .inr (4, [.ref res, .ref t, .int (nI o3.1.1), .int (nI o3.1.2.1), .int (wI o3.1.2.2), .int pa, .int ma, .int ex, .ref ki])), (t, .inl (cB, n, .inl (tx u)))] H3 := hP
  have hD : va_D A [(h, .inr (4, [.ref res, .ref t, .int (nI o3.1.1), .int (nI o3.1.2.1), .int (wI o3.1.2.2), .int pa, .int ma, .int ex, .ref ki])), (t, .inl (cB, n, .inl (tx u)))] := hD
  refine lv_istore_n (lv' := [(2, .int (nI o3.2)), (0, .ref h), (1, .int (nI en))]) hx hb d_Reader_openBits_6 rfl hl (by decide) rfl (fun ls hl => ?_)
  refine lv_aload_n hx hb d_Reader_openBits_7 rfl (lv_at hl 1 rfl) ?_
  refine lv_aload_n hx hb d_Reader_openBits_8 rfl (lv_at hl 1 rfl) ?_
  refine va_get (v := .int (nI o3.1.1)) hx hb htb i_CertificateReader hown hK hP 0 rfl rfl 2 (by decide) (htb _ q3_62) (fun _ h9 => h9) rfl d_Reader_openBits_9 ?_
  refine lv_iconst (v := 1) hx hb d_Reader_openBits_12 (by decide) ?_
  refine lv_iadd hx hb d_Reader_openBits_13 ?_
  have hb1 := hi3.1.1
  have hb2 := hi3.2.1
  have hb3 := hi3.2.2.1
  rw [show ((nI o3.1.1) + 1 : Int32) = nI (o3.1.1 + 1) from nI_add o3.1.1 1]
  refine w_join (J := fun v => bz v (o3.1.1 < o3.2 ∧ oc u n o3.1.1 = 0)) (pc := 38) (ls := ls) (rest := [.int (nI (o3.1.1 + 1)), .ref h]) (fun v hv => ?_) (fun k38 => ?_)
  · skip
    have hFc := va_free (wc := [(h, .inr (4, [.ref res, .ref t, .int (nI o3.1.1), .int (nI o3.1.2.1), .int (wI o3.1.2.2), .int pa, .int ma, .int ex, .ref ki]))]) hD hS hA [0] rfl
    refine va_callv (mu_runU (As := [.int (nI (o3.1.1 + 1)), .int v]) (rest := []) ⟨hx, hb, hml, hown, hts⟩ (cC_leave l dC dI sb h res t ki o3.1.1 o3.1.2.1 n o3.1.2.2 pa ma ex ie cB u (o3.1.1 + 1) v H3.size ((hi3.1).w hn)) (cu_of (n := 2) hts tbin q3_131 q3_133 q3_132 q3_134 q1_15 q3_136 rfl (by decide +kernel) ⟨rfl, rfl⟩ ⟨Nat.le_of_ble_eq_true rfl, Nat.le_of_ble_eq_true rfl⟩) rfl ⟨Nat.le_of_ble_eq_true rfl, Nat.le_of_ble_eq_true rfl⟩ hN (hT0.keep hS hAs) hAs (Nat.le_trans hB0 hS.1) hK hP hD [0] (by decide) rfl [] rfl 0 4 rfl rfl rfl hl.1 rfl (Nat.le_of_ble_eq_true rfl) d_Reader_openBits_38) hS (fun q _ h => hFc q h) hFc (fun u38 tS H38 locs ht hvm hw38 hB hz1 hk1 hS => ?_)
    obtain ⟨x38, rfl⟩ : ∃ z, z = u38 := ⟨_, rfl⟩
    obtain ⟨hP1, hK1, hD1⟩ := hB
    rw [ht] at hP1
    obtain ⟨hP, hD⟩ := va_join (wr := [(t, .inl (cB, n, .inl (tx u)))]) (w1 := [(h, .inr (4, [.ref res, .ref t, .int (nI x38.1), .int (nI x38.2.1), .int (wI x38.2.2), .int pa, .int ma, .int ex, .ref ki]))]) hP hD [0] [1] rfl rfl (by decide) (by decide) hk1 hFc hP1 hD1
    have hP : va_P (dC, dI) classes [(t, .inl (cB, n, .inl (tx u))), (h, .inr (4, [.ref res, .ref t, .int (nI x38.1), .int (nI x38.2.1), .int (wI x38.2.2), .int pa, .int ma, .int ex, .ref ki]))] H38 := hP
    have hD : va_D A [(t, .inl (cB, n, .inl (tx u))), (h, .inr (4, [.ref res, .ref t, .int (nI x38.1), .int (nI x38.2.1), .int (wI x38.2.2), .int pa, .int ma, .int ex, .ref ki]))] := hD
    have hw38 : x38 = rd_lea o3.1 (o3.1.1 + 1) v := hw38
    refine lv_iload_n hx hb d_Reader_openBits_41 rfl (lv_at hl 0 rfl) ?_
    exact W.iret (v := nI o3.2) hx hb hr (fun t ht hW => ⟨⟨_, x38, rfl, ⟨hw38.trans (by rw [bz_zI hv, ho3]; rfl), by rw [ho3]; rfl⟩, by rw [ht]; exact hP.sub [1, 0] rfl, va_K.moved hW.alike hK, hD.sub [1, 0] (by decide) rfl⟩, hS.F ht⟩) hS.2.2 d_Reader_openBits_42
  · skip
    have hb1 := hi3.1.1
    have hb2 := hi3.2.1
    have hb3 := hi3.2.2.1
    refine lv_aload_n hx hb d_Reader_openBits_14 rfl (lv_at hl 1 rfl) ?_
    refine va_get (v := .int (nI o3.1.1)) hx hb htb i_CertificateReader hown hK hP 0 rfl rfl 2 (by decide) (htb _ q3_62) (fun _ h9 => h9) rfl d_Reader_openBits_15 ?_
    refine lv_iload_n hx hb d_Reader_openBits_18 rfl (lv_at hl 0 rfl) ?_
    refine lv_icmp_ge (tgt := 37) hx hb d_Reader_openBits_19 (by decide) (fun c19 => ?_) (fun c19 => ?_)
    · refine lv_iconst (v := 0) hx hb d_Reader_openBits_37 (by decide) ?_
      exact k38 _ (bz_f (fun q => absurd q.1 (by rw [nI_leI (by omega) (by omega)] at c19; omega)))
    · refine lv_aload_n hx hb d_Reader_openBits_22 rfl (lv_at hl 1 rfl) ?_
      refine lv_aload_n hx hb d_Reader_openBits_23 rfl (lv_at hl 1 rfl) ?_
      refine va_get (v := .int (nI o3.1.1)) hx hb htb i_CertificateReader hown hK hP 0 rfl rfl 2 (by decide) (htb _ q3_62) (fun _ h9 => h9) rfl d_Reader_openBits_24 ?_
      refine vp_callSi (pu_callU (As := [.int (nI o3.1.1)]) (rest := [.int (nI (o3.1.1 + 1)), .ref h]) ⟨hx, hb, hml, hown, hts⟩ (cC_octet l dC dI sb h res t ki o3.1.1 o3.1.2.1 n o3.1.2.2 pa ma ex ie cB u (nI o3.1.1) hu hn) (cu_of (n := 1) hts tbin q3_114 q3_116 q3_115 q3_117 q1_15 q3_119 rfl (by decide +kernel) ⟨rfl, rfl⟩ ⟨Nat.le_of_ble_eq_true rfl, Nat.le_of_ble_eq_true rfl⟩) rfl ⟨Nat.le_of_ble_eq_true rfl, Nat.le_of_ble_eq_true rfl⟩ hN (hT0.keep hS hAs) hK hP [0, 1] rfl [0] rfl 0 4 rfl rfl rfl hl.1 rfl (Nat.le_of_ble_eq_true rfl) d_Reader_openBits_27) (fun r27 hr27 => ?_)
      refine lv_if_ne (tgt := 37) hx hb d_Reader_openBits_30 (by decide) (fun c30 => ?_) (fun c30 => ?_)
      · refine lv_iconst (v := 0) hx hb d_Reader_openBits_37 (by decide) ?_
        exact k38 _ (bz_f (fun q => c30 (by rw [hr27, oc_eq (by omega)]; exact q.2)))
      · refine lv_iconst (v := 1) hx hb d_Reader_openBits_33 (by decide) ?_
        refine lv_goto (tgt := 38) hx hb d_Reader_openBits_34 (by decide) ?_
        exact k38 _ (bz_t ⟨by rw [nI_leI (by omega) (by omega)] at c19; omega, by rw [← oc_eq (by omega), ← hr27]; exact c30⟩)
set_option maxHeartbeats 4000000 in
set_option maxRecDepth 100000 in
theorem cL_flag (l : Launch) (dC : Nat → ClassId) (dI : Nat → Nat → Nat) (sb : sB) (h res t ki n : Nat) (x : rS) (pa ma ex ie : Int32) (cB : ClassId) (u : Nat → Nat) (en : Nat) (sz : Nat) (hu : ∀ j, u j < 256) (hn : n < 2 ^ 30) (hi : rdInv n x) (he : en ≤ n) : Met l y_Reader_flag w_Reader_flag ({ frames := 2, cells := 0, slots := 0, locals := 46 }) (mu_P [.ref h, .int (nI en)] (dC, dI) sb [(h, .inr (5, [.ref res, .int ie, .ref t, .int (nI x.1), .int (nI x.2.1), .int (wI x.2.2), .int pa, .int ma, .int ex, .ref ki])), (t, .inl (cB, n, .inl (tx u)))] [(cB, .byte)] sz) (va_Qv (fun (u' : rS) => u' = rd_flag u n x en) (mu_B (dC, dI) [(cB, .byte)] (va_A [(h, .inr (5, [.ref res, .int ie, .ref t, .int (nI x.1), .int (nI x.2.1), .int (wI x.2.2), .int pa, .int ma, .int ex, .ref ki])), (t, .inl (cB, n, .inl (tx u)))] sz) (fun u' : rS => [(h, .inr (5, [.ref res, .int ie, .ref t, .int (nI u'.1), .int (nI u'.2.1), .int (wI u'.2.2), .int pa, .int ma, .int ex, .ref ki])), (t, .inl (cB, n, .inl (tx u)))])) (va_A [(h, .inr (5, [.ref res, .int ie, .ref t, .int (nI x.1), .int (nI x.2.1), .int (wI x.2.2), .int pa, .int ma, .int ex, .ref ki])), (t, .inl (cB, n, .inl (tx u)))] sz)) 0 0 (va_A [(h, .inr (5, [.ref res, .int ie, .ref t, .int (nI x.1), .int (nI x.2.1), .int (wI x.2.2), .int pa, .int ma, .int ex, .ref ki])), (t, .inl (cB, n, .inl (tx u)))] sz) := by
  refine Met.ofW (cc := b_Reader_flag) (maxL := 3) (ret := none) (by decide) rfl ?_
  intro p e s m args below meth c s₁ B hml hv
  obtain ⟨rfl, hsz, hB0, hP, hK, hD0, hN, hT0⟩ := hv
  have hx := B.exec
  have hb := B.bytes
  have hr := B.returns
  have hts := atoms_spec (ws := w_Reader_flag) B.pre
  have tbin : ∀ w ∈ tb, w ∈ w_Reader_flag := fun w h => List.mem_cons_of_mem _ h
  have htb : ∀ w ∈ tb, w.before _ s = true := fun w h => hts w (tbin w h)
  have hown : s.vm.findClass "TrustChain$Reader" = some m.cls := findClass_of_methodNamed B.named
  have hlocks := B.notSynchronized
  subst hsz
  have hD := hD0.self (sz := s.heap.size)
  generalize hAe : va_A [(h, .inr (5, [.ref res, .int ie, .ref t, .int (nI x.1), .int (nI x.2.1), .int (wI x.2.2), .int pa, .int ma, .int ex, .ref ki])), (t, .inl (cB, n, .inl (tx u)))] s.heap.size = A at hD ⊢
  have hA : ∀ q : Nat, s.heap.size ≤ q → A q := fun q h => by rw [← hAe]; exact Or.inr h
  have hAs : ∀ q : Nat, A q → sb.1 ≤ q := fun q h => by
    rw [← hAe] at h
    rcases h with ⟨k, e, h⟩ | h
    · exact hD0.2 k _ h
    · exact Nat.le_trans hB0 h
  have hS : va_S A s.heap s.heap [] := va_S.rf
  have hcs : 0 ≤ (headSpec w_Reader_flag ({ frames := 2, cells := 0, slots := 0, locals := 46 })).room.cells ∧ 0 ≤ (headSpec w_Reader_flag ({ frames := 2, cells := 0, slots := 0, locals := 46 })).room.slots := ⟨Nat.le_refl _, Nat.le_refl _⟩
  have hP : va_P (dC, dI) classes [(h, .inr (5, [.ref res, .int ie, .ref t, .int (nI x.1), .int (nI x.2.1), .int (wI x.2.2), .int pa, .int ma, .int ex, .ref ki])), (t, .inl (cB, n, .inl (tx u)))] s.heap := hP
  have hl := lv_entry ([.ref h, .int (nI en)]) (n := 3) (Nat.le_of_ble_eq_true rfl)
  rw [lg_entry_eq]
  generalize (lg_sl ([.ref h, .int (nI en)]) ++ List.replicate (3 - (lg_sl ([.ref h, .int (nI en)])).length) Slot.unset).toArray = ls at hl ⊢
  have hl : lv_has ls 3 [(0, .ref h), (1, .int (nI en))] := hl
  refine lv_aload_n hx hb d_Reader_flag_0 rfl (lv_at hl 0 rfl) ?_
  refine lv_iconst (v := 1) hx hb d_Reader_flag_1 (by decide) ?_
  refine lv_iload_n hx hb d_Reader_flag_2 rfl (lv_at hl 1 rfl) ?_
  have hFc := va_free (wc := [(h, .inr (5, [.ref res, .int ie, .ref t, .int (nI x.1), .int (nI x.2.1), .int (wI x.2.2), .int pa, .int ma, .int ex, .ref ki])), (t, .inl (cB, n, .inl (tx u)))]) hD hS hA [0, 1] rfl
  refine va_calli (mu_runU (As := [.int 1, .int (nI en)]) (rest := []) ⟨hx, hb, hml, hown, hts⟩ (cL_open l dC dI sb h res t ki x.1 x.2.1 n x.2.2 pa ma ex ie cB u 1 en s.heap.size hu hn ((hi).w hn) he (hi).1 (by decide)) (cu_of (n := 2) hts tbin q3_130 q9_192 q3_112 q9_194 q1_15 q3_113 rfl (by decide +kernel) ⟨rfl, rfl⟩ ⟨Nat.le_of_ble_eq_true rfl, Nat.le_of_ble_eq_true rfl⟩) rfl ⟨Nat.le_of_ble_eq_true rfl, Nat.le_of_ble_eq_true rfl⟩ hN (hT0.keep hS hAs) hAs (Nat.le_trans hB0 hS.1) hK hP hD [0, 1] (by decide) rfl [0] rfl 0 5 rfl rfl rfl hl.1 rfl (Nat.le_of_ble_eq_true rfl) d_Reader_flag_3) hS (fun q _ h => hFc q h) hFc (fun r3 u3 tS H3 locs ht hvm hw3 hB hz1 hk1 hS => ?_)
  obtain ⟨x3, rfl⟩ : ∃ z, z = u3 := ⟨_, rfl⟩
  obtain ⟨hP1, hK1, hD1⟩ := hB
  rw [ht] at hP1
  obtain ⟨hP, hD⟩ := va_join (wr := []) (w1 := [(h, .inr (5, [.ref res, .int ie, .ref t, .int (nI x3.1), .int (nI x3.2.1), .int (wI x3.2.2), .int pa, .int ma, .int ex, .ref ki])), (t, .inl (cB, n, .inl (tx u)))]) hP hD [0, 1] [] rfl rfl (by decide) (by decide) hk1 hFc hP1 hD1
  have hP : va_P (dC, dI) classes [(h, .inr (5, [.ref res, .int ie, .ref t, .int (nI x3.1), .int (nI x3.2.1), .int (wI x3.2.2), .int pa, .int ma, .int ex, .ref ki])), (t, .inl (cB, n, .inl (tx u)))] H3 := hP
  have hD : va_D A [(h, .inr (5, [.ref res, .int ie, .ref t, .int (nI x3.1), .int (nI x3.2.1), .int (wI x3.2.2), .int pa, .int ma, .int ex, .ref ki])), (t, .inl (cB, n, .inl (tx u)))] := hD
  have hw3 : x3 = (rd_opn u n x 1 en).1 ∧ r3 = nI (rd_opn u n x 1 en).2 := hw3
  have hi3 := opn_inv (u := u) (tg := 1) hi he
  obtain ⟨o3, ho3⟩ : ∃ o, o = rd_opn u n x 1 en := ⟨_, rfl⟩
  rw [← ho3] at hw3 hi3
  obtain ⟨rfl, rfl⟩ := hw3
  have hP : va_P (dC, dI) classes [(h, .inr (5, [.ref res, .int ie, .ref t, .int (nI o3.1.1), .int (nI o3.1.2.1), .int (wI o3.1.2.2), .int pa, .int ma, .int ex, .ref ki])), (t, .inl (cB, n, .inl (tx u)))] H3 := hP
  have hD : va_D A [(h, .inr (5, [.ref res, .int ie, .ref t, .int (nI o3.1.1), .int (nI o3.1.2.1), .int (wI o3.1.2.2), .int pa, .int ma, .int ex, .ref ki])), (t, .inl (cB, n, .inl (tx u)))] := hD
  refine lv_istore_n (lv' := [(2, .int (nI o3.2)), (0, .ref h), (1, .int (nI en))]) hx hb d_Reader_flag_6 rfl hl (by decide) rfl (fun ls hl => ?_)
  refine lv_aload_n hx hb d_Reader_flag_7 rfl (lv_at hl 1 rfl) ?_
  refine lv_iload_n hx hb d_Reader_flag_8 rfl (lv_at hl 0 rfl) ?_
  have hb1 := hi3.1.1
  have hb2 := hi3.2.1
  have hb3 := hi3.2.2.1
  refine w_join (J := fun v => bz v (o3.2 - o3.1.1 = 1 ∧ oc u n o3.1.1 = 255)) (pc := 38) (ls := ls) (rest := [.int (nI o3.2), .ref h]) (fun v hv => ?_) (fun k38 => ?_)
  · skip
    have hFc := va_free (wc := [(h, .inr (5, [.ref res, .int ie, .ref t, .int (nI o3.1.1), .int (nI o3.1.2.1), .int (wI o3.1.2.2), .int pa, .int ma, .int ex, .ref ki]))]) hD hS hA [0] rfl
    refine va_callv (mu_runU (As := [.int (nI o3.2), .int v]) (rest := []) ⟨hx, hb, hml, hown, hts⟩ (cL_leave l dC dI sb h res t ki o3.1.1 o3.1.2.1 n o3.1.2.2 pa ma ex ie cB u o3.2 v H3.size ((hi3.1).w hn)) (cu_of (n := 2) hts tbin q3_131 q3_133 q3_132 q3_135 q1_15 q3_136 rfl (by decide +kernel) ⟨rfl, rfl⟩ ⟨Nat.le_of_ble_eq_true rfl, Nat.le_of_ble_eq_true rfl⟩) rfl ⟨Nat.le_of_ble_eq_true rfl, Nat.le_of_ble_eq_true rfl⟩ hN (hT0.keep hS hAs) hAs (Nat.le_trans hB0 hS.1) hK hP hD [0] (by decide) rfl [] rfl 0 5 rfl rfl rfl hl.1 rfl (Nat.le_of_ble_eq_true rfl) d_Reader_flag_38) hS (fun q _ h => hFc q h) hFc (fun u38 tS H38 locs ht hvm hw38 hB hz1 hk1 hS => ?_)
    obtain ⟨x38, rfl⟩ : ∃ z, z = u38 := ⟨_, rfl⟩
    obtain ⟨hP1, hK1, hD1⟩ := hB
    rw [ht] at hP1
    obtain ⟨hP, hD⟩ := va_join (wr := [(t, .inl (cB, n, .inl (tx u)))]) (w1 := [(h, .inr (5, [.ref res, .int ie, .ref t, .int (nI x38.1), .int (nI x38.2.1), .int (wI x38.2.2), .int pa, .int ma, .int ex, .ref ki]))]) hP hD [0] [1] rfl rfl (by decide) (by decide) hk1 hFc hP1 hD1
    have hP : va_P (dC, dI) classes [(t, .inl (cB, n, .inl (tx u))), (h, .inr (5, [.ref res, .int ie, .ref t, .int (nI x38.1), .int (nI x38.2.1), .int (wI x38.2.2), .int pa, .int ma, .int ex, .ref ki]))] H38 := hP
    have hD : va_D A [(t, .inl (cB, n, .inl (tx u))), (h, .inr (5, [.ref res, .int ie, .ref t, .int (nI x38.1), .int (nI x38.2.1), .int (wI x38.2.2), .int pa, .int ma, .int ex, .ref ki]))] := hD
    have hw38 : x38 = rd_lea o3.1 o3.2 v := hw38
    have hi38 : rdInv n x38 := by rw [hw38]; exact lea_inv hi3.1 hi3.2.2.1
    exact W.vret hx hb hr (fun t ht hW => ⟨⟨x38, rfl, hw38.trans (by rw [bz_zI hv, ho3]; rfl), by rw [ht]; exact hP.sub [1, 0] rfl, va_K.moved hW.alike hK, hD.sub [1, 0] (by decide) rfl⟩, hS.F ht⟩) hS.2.2 d_Reader_flag_41
  · skip
    have hb1 := hi3.1.1
    have hb2 := hi3.2.1
    have hb3 := hi3.2.2.1
    refine lv_iload_n hx hb d_Reader_flag_9 rfl (lv_at hl 0 rfl) ?_
    refine lv_aload_n hx hb d_Reader_flag_10 rfl (lv_at hl 1 rfl) ?_
    refine va_get (v := .int (nI o3.1.1)) hx hb htb i_ListReader hown hK hP 0 rfl rfl 3 (by decide) (htb _ q3_62) (fun _ h9 => h9) rfl d_Reader_flag_11 ?_
    refine lv_isub hx hb d_Reader_flag_14 ?_
    refine lv_iconst (v := 1) hx hb d_Reader_flag_15 (by decide) ?_
    refine lv_icmp_ne (tgt := 37) hx hb d_Reader_flag_16 (by decide) (fun c16 => ?_) (fun c16 => ?_)
    · refine lv_iconst (v := 0) hx hb d_Reader_flag_37 (by decide) ?_
      exact k38 _ (bz_f (fun q => c16 (by rw [pk_sub hi3.2.1, q.1]; rfl)))
    · refine lv_aload_n hx hb d_Reader_flag_19 rfl (lv_at hl 1 rfl) ?_
      refine lv_aload_n hx hb d_Reader_flag_20 rfl (lv_at hl 1 rfl) ?_
      refine va_get (v := .int (nI o3.1.1)) hx hb htb i_ListReader hown hK hP 0 rfl rfl 3 (by decide) (htb _ q3_62) (fun _ h9 => h9) rfl d_Reader_flag_21 ?_
      refine vp_callSi (pu_callU (As := [.int (nI o3.1.1)]) (rest := [.int (nI o3.2), .ref h]) ⟨hx, hb, hml, hown, hts⟩ (cL_octet l dC dI sb h res t ki o3.1.1 o3.1.2.1 n o3.1.2.2 pa ma ex ie cB u (nI o3.1.1) hu hn) (cu_of (n := 1) hts tbin q3_114 q3_116 q3_115 q3_118 q1_15 q3_119 rfl (by decide +kernel) ⟨rfl, rfl⟩ ⟨Nat.le_of_ble_eq_true rfl, Nat.le_of_ble_eq_true rfl⟩) rfl ⟨Nat.le_of_ble_eq_true rfl, Nat.le_of_ble_eq_true rfl⟩ hN (hT0.keep hS hAs) hK hP [0, 1] rfl [0] rfl 0 5 rfl rfl rfl hl.1 rfl (Nat.le_of_ble_eq_true rfl) d_Reader_flag_24) (fun r24 hr24 => ?_)
      refine lv_sipush (v := 255) hx hb d_Reader_flag_27 (by decide) ?_
      refine lv_icmp_ne (tgt := 37) hx hb d_Reader_flag_30 (by decide) (fun c30 => ?_) (fun c30 => ?_)
      · refine lv_iconst (v := 0) hx hb d_Reader_flag_37 (by decide) ?_
        exact k38 _ (bz_f (fun q => c30 (by rw [hr24, oc_eq (by have := hi3.1.1; omega)]; exact q.2)))
      · refine lv_iconst (v := 1) hx hb d_Reader_flag_33 (by decide) ?_
        refine lv_goto (tgt := 38) hx hb d_Reader_flag_34 (by decide) ?_
        exact k38 _ (bz_t ⟨by rw [pk_sub hi3.2.1, show (1 : Int32) = nI 1 from rfl, nI_eq (by omega) (by omega)] at c16; exact c16, by rw [← oc_eq (by have := hi3.1.1; omega), ← hr24]; exact c30⟩)
set_option maxHeartbeats 4000000 in
set_option maxRecDepth 100000 in
theorem cL_openBits (l : Launch) (dC : Nat → ClassId) (dI : Nat → Nat → Nat) (sb : sB) (h res t ki n : Nat) (x : rS) (pa ma ex ie : Int32) (cB : ClassId) (u : Nat → Nat) (en : Nat) (sz : Nat) (hu : ∀ j, u j < 256) (hn : n < 2 ^ 30) (hi : rdInv n x) (he : en ≤ n) : Met l y_Reader_openBits w_Reader_openBits ({ frames := 2, cells := 0, slots := 0, locals := 46 }) (mu_P [.ref h, .int (nI en)] (dC, dI) sb [(h, .inr (5, [.ref res, .int ie, .ref t, .int (nI x.1), .int (nI x.2.1), .int (wI x.2.2), .int pa, .int ma, .int ex, .ref ki])), (t, .inl (cB, n, .inl (tx u)))] [(cB, .byte)] sz) (va_Qi (fun r (u' : rS) => u' = (rd_bits u n x en).1 ∧ r = nI (rd_bits u n x en).2) (mu_B (dC, dI) [(cB, .byte)] (va_A [(h, .inr (5, [.ref res, .int ie, .ref t, .int (nI x.1), .int (nI x.2.1), .int (wI x.2.2), .int pa, .int ma, .int ex, .ref ki])), (t, .inl (cB, n, .inl (tx u)))] sz) (fun u' : rS => [(h, .inr (5, [.ref res, .int ie, .ref t, .int (nI u'.1), .int (nI u'.2.1), .int (wI u'.2.2), .int pa, .int ma, .int ex, .ref ki])), (t, .inl (cB, n, .inl (tx u)))])) (va_A [(h, .inr (5, [.ref res, .int ie, .ref t, .int (nI x.1), .int (nI x.2.1), .int (wI x.2.2), .int pa, .int ma, .int ex, .ref ki])), (t, .inl (cB, n, .inl (tx u)))] sz)) 0 0 (va_A [(h, .inr (5, [.ref res, .int ie, .ref t, .int (nI x.1), .int (nI x.2.1), .int (wI x.2.2), .int pa, .int ma, .int ex, .ref ki])), (t, .inl (cB, n, .inl (tx u)))] sz) := by
  refine Met.ofW (cc := b_Reader_openBits) (maxL := 3) (ret := (some FieldType.int)) (by decide) rfl ?_
  intro p e s m args below meth c s₁ B hml hv
  obtain ⟨rfl, hsz, hB0, hP, hK, hD0, hN, hT0⟩ := hv
  have hx := B.exec
  have hb := B.bytes
  have hr := B.returns
  have hts := atoms_spec (ws := w_Reader_openBits) B.pre
  have tbin : ∀ w ∈ tb, w ∈ w_Reader_openBits := fun w h => List.mem_cons_of_mem _ h
  have htb : ∀ w ∈ tb, w.before _ s = true := fun w h => hts w (tbin w h)
  have hown : s.vm.findClass "TrustChain$Reader" = some m.cls := findClass_of_methodNamed B.named
  have hlocks := B.notSynchronized
  subst hsz
  have hD := hD0.self (sz := s.heap.size)
  generalize hAe : va_A [(h, .inr (5, [.ref res, .int ie, .ref t, .int (nI x.1), .int (nI x.2.1), .int (wI x.2.2), .int pa, .int ma, .int ex, .ref ki])), (t, .inl (cB, n, .inl (tx u)))] s.heap.size = A at hD ⊢
  have hA : ∀ q : Nat, s.heap.size ≤ q → A q := fun q h => by rw [← hAe]; exact Or.inr h
  have hAs : ∀ q : Nat, A q → sb.1 ≤ q := fun q h => by
    rw [← hAe] at h
    rcases h with ⟨k, e, h⟩ | h
    · exact hD0.2 k _ h
    · exact Nat.le_trans hB0 h
  have hS : va_S A s.heap s.heap [] := va_S.rf
  have hcs : 0 ≤ (headSpec w_Reader_openBits ({ frames := 2, cells := 0, slots := 0, locals := 46 })).room.cells ∧ 0 ≤ (headSpec w_Reader_openBits ({ frames := 2, cells := 0, slots := 0, locals := 46 })).room.slots := ⟨Nat.le_refl _, Nat.le_refl _⟩
  have hP : va_P (dC, dI) classes [(h, .inr (5, [.ref res, .int ie, .ref t, .int (nI x.1), .int (nI x.2.1), .int (wI x.2.2), .int pa, .int ma, .int ex, .ref ki])), (t, .inl (cB, n, .inl (tx u)))] s.heap := hP
  have hl := lv_entry ([.ref h, .int (nI en)]) (n := 3) (Nat.le_of_ble_eq_true rfl)
  rw [lg_entry_eq]
  generalize (lg_sl ([.ref h, .int (nI en)]) ++ List.replicate (3 - (lg_sl ([.ref h, .int (nI en)])).length) Slot.unset).toArray = ls at hl ⊢
  have hl : lv_has ls 3 [(0, .ref h), (1, .int (nI en))] := hl
  refine lv_aload_n hx hb d_Reader_openBits_0 rfl (lv_at hl 0 rfl) ?_
  refine lv_iconst (v := 3) hx hb d_Reader_openBits_1 (by decide) ?_
  refine lv_iload_n hx hb d_Reader_openBits_2 rfl (lv_at hl 1 rfl) ?_
  have hFc := va_free (wc := [(h, .inr (5, [.ref res, .int ie, .ref t, .int (nI x.1), .int (nI x.2.1), .int (wI x.2.2), .int pa, .int ma, .int ex, .ref ki])), (t, .inl (cB, n, .inl (tx u)))]) hD hS hA [0, 1] rfl
  refine va_calli (mu_runU (As := [.int 3, .int (nI en)]) (rest := []) ⟨hx, hb, hml, hown, hts⟩ (cL_open l dC dI sb h res t ki x.1 x.2.1 n x.2.2 pa ma ex ie cB u 3 en s.heap.size hu hn ((hi).w hn) he (hi).1 (by decide)) (cu_of (n := 2) hts tbin q3_130 q9_192 q3_112 q9_194 q1_15 q3_113 rfl (by decide +kernel) ⟨rfl, rfl⟩ ⟨Nat.le_of_ble_eq_true rfl, Nat.le_of_ble_eq_true rfl⟩) rfl ⟨Nat.le_of_ble_eq_true rfl, Nat.le_of_ble_eq_true rfl⟩ hN (hT0.keep hS hAs) hAs (Nat.le_trans hB0 hS.1) hK hP hD [0, 1] (by decide) rfl [0] rfl 0 5 rfl rfl rfl hl.1 rfl (Nat.le_of_ble_eq_true rfl) d_Reader_openBits_3) hS (fun q _ h => hFc q h) hFc (fun r3 u3 tS H3 locs ht hvm hw3 hB hz1 hk1 hS => ?_)
  obtain ⟨x3, rfl⟩ : ∃ z, z = u3 := ⟨_, rfl⟩
  obtain ⟨hP1, hK1, hD1⟩ := hB
  rw [ht] at hP1
  obtain ⟨hP, hD⟩ := va_join (wr := []) (w1 := [(h, .inr (5, [.ref res, .int ie, .ref t, .int (nI x3.1), .int (nI x3.2.1), .int (wI x3.2.2), .int pa, .int ma, .int ex, .ref ki])), (t, .inl (cB, n, .inl (tx u)))]) hP hD [0, 1] [] rfl rfl (by decide) (by decide) hk1 hFc hP1 hD1
  have hP : va_P (dC, dI) classes [(h, .inr (5, [.ref res, .int ie, .ref t, .int (nI x3.1), .int (nI x3.2.1), .int (wI x3.2.2), .int pa, .int ma, .int ex, .ref ki])), (t, .inl (cB, n, .inl (tx u)))] H3 := hP
  have hD : va_D A [(h, .inr (5, [.ref res, .int ie, .ref t, .int (nI x3.1), .int (nI x3.2.1), .int (wI x3.2.2), .int pa, .int ma, .int ex, .ref ki])), (t, .inl (cB, n, .inl (tx u)))] := hD
  have hw3 : x3 = (rd_opn u n x 3 en).1 ∧ r3 = nI (rd_opn u n x 3 en).2 := hw3
  have hi3 := opn_inv (u := u) (tg := 3) hi he
  obtain ⟨o3, ho3⟩ : ∃ o, o = rd_opn u n x 3 en := ⟨_, rfl⟩
  rw [← ho3] at hw3 hi3
  obtain ⟨rfl, rfl⟩ := hw3
  have hP : va_P (dC, dI) classes [(h, .inr (5, [.ref res, .int ie, .ref t, .int (nI o3.1.1), .int (nI o3.1.2.1), .int (wI o3.1.2.2), .int pa, .int ma, .int ex, .ref ki])), (t, .inl (cB, n, .inl (tx u)))] H3 := hP
  have hD : va_D A [(h, .inr (5, [.ref res, .int ie, .ref t, .int (nI o3.1.1), .int (nI o3.1.2.1), .int (wI o3.1.2.2), .int pa, .int ma, .int ex, .ref ki])), (t, .inl (cB, n, .inl (tx u)))] := hD
  refine lv_istore_n (lv' := [(2, .int (nI o3.2)), (0, .ref h), (1, .int (nI en))]) hx hb d_Reader_openBits_6 rfl hl (by decide) rfl (fun ls hl => ?_)
  refine lv_aload_n hx hb d_Reader_openBits_7 rfl (lv_at hl 1 rfl) ?_
  refine lv_aload_n hx hb d_Reader_openBits_8 rfl (lv_at hl 1 rfl) ?_
  refine va_get (v := .int (nI o3.1.1)) hx hb htb i_ListReader hown hK hP 0 rfl rfl 3 (by decide) (htb _ q3_62) (fun _ h9 => h9) rfl d_Reader_openBits_9 ?_
  refine lv_iconst (v := 1) hx hb d_Reader_openBits_12 (by decide) ?_
  refine lv_iadd hx hb d_Reader_openBits_13 ?_
  have hb1 := hi3.1.1
  have hb2 := hi3.2.1
  have hb3 := hi3.2.2.1
  rw [show ((nI o3.1.1) + 1 : Int32) = nI (o3.1.1 + 1) from nI_add o3.1.1 1]
  refine w_join (J := fun v => bz v (o3.1.1 < o3.2 ∧ oc u n o3.1.1 = 0)) (pc := 38) (ls := ls) (rest := [.int (nI (o3.1.1 + 1)), .ref h]) (fun v hv => ?_) (fun k38 => ?_)
  · skip
    have hFc := va_free (wc := [(h, .inr (5, [.ref res, .int ie, .ref t, .int (nI o3.1.1), .int (nI o3.1.2.1), .int (wI o3.1.2.2), .int pa, .int ma, .int ex, .ref ki]))]) hD hS hA [0] rfl
    refine va_callv (mu_runU (As := [.int (nI (o3.1.1 + 1)), .int v]) (rest := []) ⟨hx, hb, hml, hown, hts⟩ (cL_leave l dC dI sb h res t ki o3.1.1 o3.1.2.1 n o3.1.2.2 pa ma ex ie cB u (o3.1.1 + 1) v H3.size ((hi3.1).w hn)) (cu_of (n := 2) hts tbin q3_131 q3_133 q3_132 q3_135 q1_15 q3_136 rfl (by decide +kernel) ⟨rfl, rfl⟩ ⟨Nat.le_of_ble_eq_true rfl, Nat.le_of_ble_eq_true rfl⟩) rfl ⟨Nat.le_of_ble_eq_true rfl, Nat.le_of_ble_eq_true rfl⟩ hN (hT0.keep hS hAs) hAs (Nat.le_trans hB0 hS.1) hK hP hD [0] (by decide) rfl [] rfl 0 5 rfl rfl rfl hl.1 rfl (Nat.le_of_ble_eq_true rfl) d_Reader_openBits_38) hS (fun q _ h => hFc q h) hFc (fun u38 tS H38 locs ht hvm hw38 hB hz1 hk1 hS => ?_)
    obtain ⟨x38, rfl⟩ : ∃ z, z = u38 := ⟨_, rfl⟩
    obtain ⟨hP1, hK1, hD1⟩ := hB
    rw [ht] at hP1
    obtain ⟨hP, hD⟩ := va_join (wr := [(t, .inl (cB, n, .inl (tx u)))]) (w1 := [(h, .inr (5, [.ref res, .int ie, .ref t, .int (nI x38.1), .int (nI x38.2.1), .int (wI x38.2.2), .int pa, .int ma, .int ex, .ref ki]))]) hP hD [0] [1] rfl rfl (by decide) (by decide) hk1 hFc hP1 hD1
    have hP : va_P (dC, dI) classes [(t, .inl (cB, n, .inl (tx u))), (h, .inr (5, [.ref res, .int ie, .ref t, .int (nI x38.1), .int (nI x38.2.1), .int (wI x38.2.2), .int pa, .int ma, .int ex, .ref ki]))] H38 := hP
    have hD : va_D A [(t, .inl (cB, n, .inl (tx u))), (h, .inr (5, [.ref res, .int ie, .ref t, .int (nI x38.1), .int (nI x38.2.1), .int (wI x38.2.2), .int pa, .int ma, .int ex, .ref ki]))] := hD
    have hw38 : x38 = rd_lea o3.1 (o3.1.1 + 1) v := hw38
    refine lv_iload_n hx hb d_Reader_openBits_41 rfl (lv_at hl 0 rfl) ?_
    exact W.iret (v := nI o3.2) hx hb hr (fun t ht hW => ⟨⟨_, x38, rfl, ⟨hw38.trans (by rw [bz_zI hv, ho3]; rfl), by rw [ho3]; rfl⟩, by rw [ht]; exact hP.sub [1, 0] rfl, va_K.moved hW.alike hK, hD.sub [1, 0] (by decide) rfl⟩, hS.F ht⟩) hS.2.2 d_Reader_openBits_42
  · skip
    have hb1 := hi3.1.1
    have hb2 := hi3.2.1
    have hb3 := hi3.2.2.1
    refine lv_aload_n hx hb d_Reader_openBits_14 rfl (lv_at hl 1 rfl) ?_
    refine va_get (v := .int (nI o3.1.1)) hx hb htb i_ListReader hown hK hP 0 rfl rfl 3 (by decide) (htb _ q3_62) (fun _ h9 => h9) rfl d_Reader_openBits_15 ?_
    refine lv_iload_n hx hb d_Reader_openBits_18 rfl (lv_at hl 0 rfl) ?_
    refine lv_icmp_ge (tgt := 37) hx hb d_Reader_openBits_19 (by decide) (fun c19 => ?_) (fun c19 => ?_)
    · refine lv_iconst (v := 0) hx hb d_Reader_openBits_37 (by decide) ?_
      exact k38 _ (bz_f (fun q => absurd q.1 (by rw [nI_leI (by omega) (by omega)] at c19; omega)))
    · refine lv_aload_n hx hb d_Reader_openBits_22 rfl (lv_at hl 1 rfl) ?_
      refine lv_aload_n hx hb d_Reader_openBits_23 rfl (lv_at hl 1 rfl) ?_
      refine va_get (v := .int (nI o3.1.1)) hx hb htb i_ListReader hown hK hP 0 rfl rfl 3 (by decide) (htb _ q3_62) (fun _ h9 => h9) rfl d_Reader_openBits_24 ?_
      refine vp_callSi (pu_callU (As := [.int (nI o3.1.1)]) (rest := [.int (nI (o3.1.1 + 1)), .ref h]) ⟨hx, hb, hml, hown, hts⟩ (cL_octet l dC dI sb h res t ki o3.1.1 o3.1.2.1 n o3.1.2.2 pa ma ex ie cB u (nI o3.1.1) hu hn) (cu_of (n := 1) hts tbin q3_114 q3_116 q3_115 q3_118 q1_15 q3_119 rfl (by decide +kernel) ⟨rfl, rfl⟩ ⟨Nat.le_of_ble_eq_true rfl, Nat.le_of_ble_eq_true rfl⟩) rfl ⟨Nat.le_of_ble_eq_true rfl, Nat.le_of_ble_eq_true rfl⟩ hN (hT0.keep hS hAs) hK hP [0, 1] rfl [0] rfl 0 5 rfl rfl rfl hl.1 rfl (Nat.le_of_ble_eq_true rfl) d_Reader_openBits_27) (fun r27 hr27 => ?_)
      refine lv_if_ne (tgt := 37) hx hb d_Reader_openBits_30 (by decide) (fun c30 => ?_) (fun c30 => ?_)
      · refine lv_iconst (v := 0) hx hb d_Reader_openBits_37 (by decide) ?_
        exact k38 _ (bz_f (fun q => c30 (by rw [hr27, oc_eq (by omega)]; exact q.2)))
      · refine lv_iconst (v := 1) hx hb d_Reader_openBits_33 (by decide) ?_
        refine lv_goto (tgt := 38) hx hb d_Reader_openBits_34 (by decide) ?_
        exact k38 _ (bz_t ⟨by rw [nI_leI (by omega) (by omega)] at c19; omega, by rw [← oc_eq (by omega), ← hr27]; exact c30⟩)
