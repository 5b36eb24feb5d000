/-! TrustChain.Reader: its place, the start of the latest element, where it was wrong. -/
/-- place, start, wrong -/
abbrev rS : Type := Nat × Nat × Option Nat
def wI : Option Nat → Int32
  | none => -1
  | some k => nI k
def rd_ref (x : rS) (k : Nat) : rS := match x with | (p, s, none) => (p, s, some k) | (p, s, some j) => (p, s, some j)
def rd_req (x : rS) (bv : Int32) : rS := match x with | (p, s, none) => if bv = 0 then (p, s, some s) else (p, s, none) | (p, s, some j) => (p, s, some j)
def rd_fin (x : rS) (e : Nat) : rS := match x with | (p, s, none) => if p < e then (p, s, some p) else (p, s, none) | (p, s, some j) => (p, s, some j)
def rd_lea (x : rS) (e : Nat) (bv : Int32) : rS := match x with | (p, s, none) => if bv = 0 then (p, s, some s) else (e, s, none) | (p, s, some j) => (p, s, some j)
theorem oc_in {n : Nat} {i : Int32} (hn : n < 2 ^ 30) (h1 : ¬ i < 0) (h2 : ¬ nI n ≤ i) : vp_in i n := by
  obtain ⟨k, hk, rfl⟩ := nI_of h1
  rw [nI_leI (by omega) hk] at h2
  exact vp_in_nI (by omega) (by omega)
theorem oc_at {u : Nat → Nat} {n : Nat} {i : Int32} (hu : ∀ j, u j < 256) (hn : n < 2 ^ 30) (h1 : ¬ i < 0) (h2 : ¬ nI n ≤ i) : tx u i.toNatClampNeg &&& 255 = sl_at u 0 n i := by
  obtain ⟨k, hk, rfl⟩ := nI_of h1
  rw [nI_leI (by omega) hk] at h2
  rw [sl_at_nI hk, if_pos (by omega), nI_clamp hk, tx_at hu, Nat.zero_add]
theorem oc_out {u : Nat → Nat} {n : Nat} {i : Int32} (hn : n < 2 ^ 30) (h : i < 0 ∨ nI n ≤ i) : -1 = sl_at u 0 n i := by
  rcases h with h | h
  · exact sl_at_1 h
  · by_cases h1 : i < 0
    · exact sl_at_1 h1
    · obtain ⟨k, hk, rfl⟩ := nI_of h1
      rw [nI_leI (by omega) hk] at h
      rw [sl_at_nI hk, if_neg (by omega)]
theorem wI_n {w : Option Nat} (hw : ∀ k, w = some k → k < 2 ^ 31) (h : ¬ 0 ≤ wI w) : w = none := by
  cases w with
  | none => rfl
  | some k => exact absurd (nI_pos' (hw k rfl)) h
theorem wI_s {w : Option Nat} (h : 0 ≤ wI w) : ¬ w = none := fun q => absurd (q ▸ h) (by decide)
theorem wI_n' {w : Option Nat} (hw : ∀ k, w = some k → k < 2 ^ 31) (h : wI w < 0) : w = none := wI_n hw (Int32.not_le.mpr h)
theorem wI_s' {w : Option Nat} (h : ¬ wI w < 0) : ¬ w = none := wI_s (Int32.not_lt.mp h)
section RDX
variable {p s e k : Nat} {w : Option Nat} {bv : Int32}
theorem rd_ref_1 (h : ¬ w = none) : (p, s, w) = rd_ref (p, s, w) k := by cases w with | none => exact absurd rfl h | some j => rfl
theorem rd_ref_2 (h : w = none) : (p, s, some k) = rd_ref (p, s, w) k := by rw [h]; rfl
theorem rd_req_1 (h : ¬ bv = 0) : (p, s, w) = rd_req (p, s, w) bv := by cases w with | none => simp [rd_req, h] | some j => rfl
theorem rd_req_2 (h : ¬ w = none) : (p, s, w) = rd_req (p, s, w) bv := by cases w with | none => exact absurd rfl h | some j => rfl
theorem rd_req_3 (h : w = none) (hb : bv = 0) : (p, s, some s) = rd_req (p, s, w) bv := by rw [h, hb]; rfl
theorem rd_fin_1 (h : ¬ w = none) : (p, s, w) = rd_fin (p, s, w) e := by cases w with | none => exact absurd rfl h | some j => rfl
theorem rd_fin_2 (h : ¬ p < e) : (p, s, w) = rd_fin (p, s, w) e := by cases w with | none => simp [rd_fin, h] | some j => rfl
theorem rd_fin_3 (h : w = none) (hb : p < e) : (p, s, some p) = rd_fin (p, s, w) e := by rw [h]; simp [rd_fin, hb]
theorem rd_lea_1 (h : ¬ w = none) : (p, s, w) = rd_lea (p, s, w) e bv := by cases w with | none => exact absurd rfl h | some j => rfl
theorem rd_lea_2 (h : w = none) (hb : bv = 0) : (p, s, some s) = rd_lea (p, s, w) e bv := by rw [h, hb]; rfl
theorem rd_lea_3 (h : w = none) (hb : ¬ bv = 0) : (e, s, w) = rd_lea (p, s, w) e bv := by rw [h]; simp [rd_lea, hb]
end RDX

def y_Reader_octet : MethodName := ⟨"TrustChain$Reader", "octet", "(I)I"⟩
abbrev b_Reader_octet : ByteArray := prog_8_method_3_code
def w_Reader_octet : List Cond := Cond.code y_Reader_octet b_Reader_octet 2 ((some FieldType.int)) :: tb
theorem d_Reader_octet_0 : decode b_Reader_octet 0 = .ok (.iload_n 1, 1) := by decide +kernel
theorem d_Reader_octet_1 : decode b_Reader_octet 1 = .ok (.ifCond .lt 25, 3) := by decide +kernel
theorem d_Reader_octet_4 : decode b_Reader_octet 4 = .ok (.iload_n 1, 1) := by decide +kernel
theorem d_Reader_octet_5 : decode b_Reader_octet 5 = .ok (.aload_n 0, 1) := by decide +kernel
theorem d_Reader_octet_6 : decode b_Reader_octet 6 = .ok (.getfield 37, 3) := by decide +kernel
theorem d_Reader_octet_9 : decode b_Reader_octet 9 = .ok (.arraylength, 1) := by decide +kernel
theorem d_Reader_octet_10 : decode b_Reader_octet 10 = .ok (.if_icmp .ge 16, 3) := by decide +kernel
theorem d_Reader_octet_13 : decode b_Reader_octet 13 = .ok (.aload_n 0, 1) := by decide +kernel
theorem d_Reader_octet_14 : decode b_Reader_octet 14 = .ok (.getfield 37, 3) := by decide +kernel
theorem d_Reader_octet_17 : decode b_Reader_octet 17 = .ok (.iload_n 1, 1) := by decide +kernel
theorem d_Reader_octet_18 : decode b_Reader_octet 18 = .ok (.baload, 1) := by decide +kernel
theorem d_Reader_octet_19 : decode b_Reader_octet 19 = .ok (.sipush 255, 3) := by decide +kernel
theorem d_Reader_octet_22 : decode b_Reader_octet 22 = .ok (.iand, 1) := by decide +kernel
theorem d_Reader_octet_23 : decode b_Reader_octet 23 = .ok (.goto 4, 3) := by decide +kernel
theorem d_Reader_octet_26 : decode b_Reader_octet 26 = .ok (.iconst (-1), 1) := by decide +kernel
theorem d_Reader_octet_27 : decode b_Reader_octet 27 = .ok (.ireturn, 1) := by decide +kernel
def y_Reader_more : MethodName := ⟨"TrustChain$Reader", "more", "(I)Z"⟩
abbrev b_Reader_more : ByteArray := prog_8_method_4_code
def w_Reader_more : List Cond := Cond.code y_Reader_more b_Reader_more 2 ((some FieldType.boolean)) :: tb
theorem d_Reader_more_0 : decode b_Reader_more 0 = .ok (.aload_n 0, 1) := by decide +kernel
theorem d_Reader_more_1 : decode b_Reader_more 1 = .ok (.getfield 18, 3) := by decide +kernel
theorem d_Reader_more_4 : decode b_Reader_more 4 = .ok (.ifCond .ge 15, 3) := by decide +kernel
theorem d_Reader_more_7 : decode b_Reader_more 7 = .ok (.aload_n 0, 1) := by decide +kernel
theorem d_Reader_more_8 : decode b_Reader_more 8 = .ok (.getfield 9, 3) := by decide +kernel
theorem d_Reader_more_11 : decode b_Reader_more 11 = .ok (.iload_n 1, 1) := by decide +kernel
theorem d_Reader_more_12 : decode b_Reader_more 12 = .ok (.if_icmp .ge 7, 3) := by decide +kernel
theorem d_Reader_more_15 : decode b_Reader_more 15 = .ok (.iconst 1, 1) := by decide +kernel
theorem d_Reader_more_16 : decode b_Reader_more 16 = .ok (.goto 4, 3) := by decide +kernel
theorem d_Reader_more_19 : decode b_Reader_more 19 = .ok (.iconst 0, 1) := by decide +kernel
theorem d_Reader_more_20 : decode b_Reader_more 20 = .ok (.ireturn, 1) := by decide +kernel
def y_Reader_nextIs : MethodName := ⟨"TrustChain$Reader", "nextIs", "(II)Z"⟩
abbrev b_Reader_nextIs : ByteArray := prog_8_method_5_code
def w_Reader_nextIs : List Cond := Cond.code y_Reader_nextIs b_Reader_nextIs 3 ((some FieldType.boolean)) :: tb
theorem d_Reader_nextIs_0 : decode b_Reader_nextIs 0 = .ok (.aload_n 0, 1) := by decide +kernel
theorem d_Reader_nextIs_1 : decode b_Reader_nextIs 1 = .ok (.iload_n 2, 1) := by decide +kernel
theorem d_Reader_nextIs_2 : decode b_Reader_nextIs 2 = .ok (.invokevirtual 41, 3) := by decide +kernel
theorem d_Reader_nextIs_5 : decode b_Reader_nextIs 5 = .ok (.ifCond .eq 19, 3) := by decide +kernel
theorem d_Reader_nextIs_8 : decode b_Reader_nextIs 8 = .ok (.aload_n 0, 1) := by decide +kernel
theorem d_Reader_nextIs_9 : decode b_Reader_nextIs 9 = .ok (.aload_n 0, 1) := by decide +kernel
theorem d_Reader_nextIs_10 : decode b_Reader_nextIs 10 = .ok (.getfield 9, 3) := by decide +kernel
theorem d_Reader_nextIs_13 : decode b_Reader_nextIs 13 = .ok (.invokevirtual 45, 3) := by decide +kernel
theorem d_Reader_nextIs_16 : decode b_Reader_nextIs 16 = .ok (.iload_n 1, 1) := by decide +kernel
theorem d_Reader_nextIs_17 : decode b_Reader_nextIs 17 = .ok (.if_icmp .ne 7, 3) := by decide +kernel
theorem d_Reader_nextIs_20 : decode b_Reader_nextIs 20 = .ok (.iconst 1, 1) := by decide +kernel
theorem d_Reader_nextIs_21 : decode b_Reader_nextIs 21 = .ok (.goto 4, 3) := by decide +kernel
theorem d_Reader_nextIs_24 : decode b_Reader_nextIs 24 = .ok (.iconst 0, 1) := by decide +kernel
theorem d_Reader_nextIs_25 : decode b_Reader_nextIs 25 = .ok (.ireturn, 1) := by decide +kernel
def y_Reader_refuse : MethodName := ⟨"TrustChain$Reader", "refuse", "(I)V"⟩
abbrev b_Reader_refuse : ByteArray := prog_8_method_6_code
def w_Reader_refuse : List Cond := Cond.code y_Reader_refuse b_Reader_refuse 2 (none) :: tb
theorem d_Reader_refuse_0 : decode b_Reader_refuse 0 = .ok (.aload_n 0, 1) := by decide +kernel
theorem d_Reader_refuse_1 : decode b_Reader_refuse 1 = .ok (.getfield 18, 3) := by decide +kernel
theorem d_Reader_refuse_4 : decode b_Reader_refuse 4 = .ok (.ifCond .ge 8, 3) := by decide +kernel
theorem d_Reader_refuse_7 : decode b_Reader_refuse 7 = .ok (.aload_n 0, 1) := by decide +kernel
theorem d_Reader_refuse_8 : decode b_Reader_refuse 8 = .ok (.iload_n 1, 1) := by decide +kernel
theorem d_Reader_refuse_9 : decode b_Reader_refuse 9 = .ok (.putfield 18, 3) := by decide +kernel
theorem d_Reader_refuse_12 : decode b_Reader_refuse 12 = .ok (.return_, 1) := by decide +kernel
def y_Reader_require : MethodName := ⟨"TrustChain$Reader", "require", "(Z)V"⟩
abbrev b_Reader_require : ByteArray := prog_8_method_7_code
def w_Reader_require : List Cond := Cond.code y_Reader_require b_Reader_require 2 (none) :: tb
theorem d_Reader_require_0 : decode b_Reader_require 0 = .ok (.iload_n 1, 1) := by decide +kernel
theorem d_Reader_require_1 : decode b_Reader_require 1 = .ok (.ifCond .ne 18, 3) := by decide +kernel
theorem d_Reader_require_4 : decode b_Reader_require 4 = .ok (.aload_n 0, 1) := by decide +kernel
theorem d_Reader_require_5 : decode b_Reader_require 5 = .ok (.getfield 18, 3) := by decide +kernel
theorem d_Reader_require_8 : decode b_Reader_require 8 = .ok (.ifCond .ge 11, 3) := by decide +kernel
theorem d_Reader_require_11 : decode b_Reader_require 11 = .ok (.aload_n 0, 1) := by decide +kernel
theorem d_Reader_require_12 : decode b_Reader_require 12 = .ok (.aload_n 0, 1) := by decide +kernel
theorem d_Reader_require_13 : decode b_Reader_require 13 = .ok (.getfield 15, 3) := by decide +kernel
theorem d_Reader_require_16 : decode b_Reader_require 16 = .ok (.putfield 18, 3) := by decide +kernel
theorem d_Reader_require_19 : decode b_Reader_require 19 = .ok (.return_, 1) := by decide +kernel
def y_Reader_finish : MethodName := ⟨"TrustChain$Reader", "finish", "(I)V"⟩
abbrev b_Reader_finish : ByteArray := prog_8_method_9_code
def w_Reader_finish : List Cond := Cond.code y_Reader_finish b_Reader_finish 2 (none) :: tb
theorem d_Reader_finish_0 : decode b_Reader_finish 0 = .ok (.aload_n 0, 1) := by decide +kernel
theorem d_Reader_finish_1 : decode b_Reader_finish 1 = .ok (.getfield 18, 3) := by decide +kernel
theorem d_Reader_finish_4 : decode b_Reader_finish 4 = .ok (.ifCond .ge 19, 3) := by decide +kernel
theorem d_Reader_finish_7 : decode b_Reader_finish 7 = .ok (.aload_n 0, 1) := by decide +kernel
theorem d_Reader_finish_8 : decode b_Reader_finish 8 = .ok (.getfield 9, 3) := by decide +kernel
theorem d_Reader_finish_11 : decode b_Reader_finish 11 = .ok (.iload_n 1, 1) := by decide +kernel
theorem d_Reader_finish_12 : decode b_Reader_finish 12 = .ok (.if_icmp .ge 11, 3) := by decide +kernel
theorem d_Reader_finish_15 : decode b_Reader_finish 15 = .ok (.aload_n 0, 1) := by decide +kernel
theorem d_Reader_finish_16 : decode b_Reader_finish 16 = .ok (.aload_n 0, 1) := by decide +kernel
theorem d_Reader_finish_17 : decode b_Reader_finish 17 = .ok (.getfield 9, 3) := by decide +kernel
theorem d_Reader_finish_20 : decode b_Reader_finish 20 = .ok (.putfield 18, 3) := by decide +kernel
theorem d_Reader_finish_23 : decode b_Reader_finish 23 = .ok (.return_, 1) := by decide +kernel
def y_Reader_leave : MethodName := ⟨"TrustChain$Reader", "leave", "(IZ)V"⟩
abbrev b_Reader_leave : ByteArray := prog_8_method_10_code
def w_Reader_leave : List Cond := Cond.code y_Reader_leave b_Reader_leave 3 (none) :: tb
theorem d_Reader_leave_0 : decode b_Reader_leave 0 = .ok (.aload_n 0, 1) := by decide +kernel
theorem d_Reader_leave_1 : decode b_Reader_leave 1 = .ok (.getfield 18, 3) := by decide +kernel
theorem d_Reader_leave_4 : decode b_Reader_leave 4 = .ok (.ifCond .lt 4, 3) := by decide +kernel
theorem d_Reader_leave_7 : decode b_Reader_leave 7 = .ok (.return_, 1) := by decide +kernel
theorem d_Reader_leave_8 : decode b_Reader_leave 8 = .ok (.iload_n 2, 1) := by decide +kernel
theorem d_Reader_leave_9 : decode b_Reader_leave 9 = .ok (.ifCond .eq 11, 3) := by decide +kernel
theorem d_Reader_leave_12 : decode b_Reader_leave 12 = .ok (.aload_n 0, 1) := by decide +kernel
theorem d_Reader_leave_13 : decode b_Reader_leave 13 = .ok (.iload_n 1, 1) := by decide +kernel
theorem d_Reader_leave_14 : decode b_Reader_leave 14 = .ok (.putfield 9, 3) := by decide +kernel
theorem d_Reader_leave_17 : decode b_Reader_leave 17 = .ok (.goto 11, 3) := by decide +kernel
theorem d_Reader_leave_20 : decode b_Reader_leave 20 = .ok (.aload_n 0, 1) := by decide +kernel
theorem d_Reader_leave_21 : decode b_Reader_leave 21 = .ok (.aload_n 0, 1) := by decide +kernel
theorem d_Reader_leave_22 : decode b_Reader_leave 22 = .ok (.getfield 15, 3) := by decide +kernel
theorem d_Reader_leave_25 : decode b_Reader_leave 25 = .ok (.putfield 18, 3) := by decide +kernel
theorem d_Reader_leave_28 : decode b_Reader_leave 28 = .ok (.return_, 1) := by decide +kernel
set_option maxHeartbeats 4000000 in
set_option maxRecDepth 100000 in
theorem cC_octet (l : Launch) (dC : Nat → ClassId) (dI : Nat → Nat → Nat) (sb : sB) (h res t ki : Nat) (pp s0 n : Nat) (w : Option Nat) (pa ma ex ie : Int32) (cB : ClassId) (u : Nat → Nat) (i : Int32) (hu : ∀ j, u j < 256) (hn : n < 2 ^ 30) : Met l y_Reader_octet w_Reader_octet ({ frames := 0, cells := 0, slots := 0, locals := 0 }) (pu_P [.ref h, .int i] (dC, dI) sb [(h, .inr (4, [.ref res, .ref t, .int (nI pp), .int (nI s0), .int (wI w), .int pa, .int ma, .int ex, .ref ki])), (t, .inl (cB, n, .inl (tx u)))] [(cB, .byte)]) (vp_Si (fun r => r = sl_at u 0 n i)) 0 0 (fun _ => False) := by
  refine Met.ofW (cc := b_Reader_octet) (maxL := 2) (ret := (some FieldType.int)) (by decide) rfl ?_
  intro p e s m args below meth c s₁ B hml hv
  obtain ⟨rfl, hP, hK, hN, hT0⟩ := hv
  have hx := B.exec
  have hb := B.bytes
  have hr := B.returns
  have hts := atoms_spec (ws := w_Reader_octet) B.pre
  have tbin : ∀ w ∈ tb, w ∈ w_Reader_octet := fun w h => List.mem_cons_of_mem _ h
  have htb : ∀ w ∈ tb, w.before _ s = true := fun w h => hts w (tbin w h)
  have hown : s.vm.findClass "TrustChain$Reader" = some m.cls := findClass_of_methodNamed B.named
  have hlocks := B.notSynchronized
  have hcs : 0 ≤ (headSpec w_Reader_octet ({ frames := 0, cells := 0, slots := 0, locals := 0 })).room.cells ∧ 0 ≤ (headSpec w_Reader_octet ({ frames := 0, cells := 0, slots := 0, locals := 0 })).room.slots := ⟨Nat.zero_le _, Nat.zero_le _⟩
  have hP : va_P (dC, dI) classes [(h, .inr (4, [.ref res, .ref t, .int (nI pp), .int (nI s0), .int (wI w), .int pa, .int ma, .int ex, .ref ki])), (t, .inl (cB, n, .inl (tx u)))] s.heap := hP
  have hl := lv_entry ([.ref h, .int i]) (n := 2) (Nat.le_of_ble_eq_true rfl)
  rw [lg_entry_eq]
  generalize (lg_sl ([.ref h, .int i]) ++ List.replicate (2 - (lg_sl ([.ref h, .int i])).length) Slot.unset).toArray = ls at hl ⊢
  have hl : lv_has ls 2 [(0, .ref h), (1, .int i)] := hl
  refine w_join (J := fun v => v = sl_at u 0 n i) (pc := 27) (ls := ls) (rest := []) (fun v hv => ?_) (fun k27 => ?_)
  · skip
    exact W.iret (v := v) hx hb hr (fun t ht hW => ⟨_, rfl, hv, ht⟩) (fun q h => by cases h) d_Reader_octet_27
  · skip
    refine lv_iload_n hx hb d_Reader_octet_0 rfl (lv_at hl 1 rfl) ?_
    refine lv_if_lt (tgt := 26) hx hb d_Reader_octet_1 (by decide) (fun c1 => ?_) (fun c1 => ?_)
    · refine lv_iconst (v := -1) hx hb d_Reader_octet_26 (by decide) ?_
      exact k27 _ (oc_out hn (Or.inl c1))
    · refine lv_iload_n hx hb d_Reader_octet_4 rfl (lv_at hl 1 rfl) ?_
      refine lv_aload_n hx hb d_Reader_octet_5 rfl (lv_at hl 0 rfl) ?_
      refine va_get (v := .ref t) hx hb htb i_CertificateReader hown hK hP 0 rfl rfl 1 (by decide) (htb _ q3_57) (fun _ h9 => h9) rfl d_Reader_octet_6 ?_
      refine va_alen (v := nI n) hx hb hK hP 1 0 rfl rfl rfl d_Reader_octet_9 ?_
      refine lv_icmp_ge (tgt := 26) hx hb d_Reader_octet_10 (by decide) (fun c10 => ?_) (fun c10 => ?_)
      · refine lv_iconst (v := -1) hx hb d_Reader_octet_26 (by decide) ?_
        exact k27 _ (oc_out hn (Or.inr c10))
      · refine lv_aload_n hx hb d_Reader_octet_13 rfl (lv_at hl 0 rfl) ?_
        refine va_get (v := .ref t) hx hb htb i_CertificateReader hown hK hP 0 rfl rfl 1 (by decide) (htb _ q3_57) (fun _ h9 => h9) rfl d_Reader_octet_14 ?_
        refine lv_iload_n hx hb d_Reader_octet_17 rfl (lv_at hl 1 rfl) ?_
        have h18 : vp_in i n := oc_in hn c1 c10
        refine va_bald hx hb hK hP 1 0 rfl rfl h18 d_Reader_octet_18 ?_
        refine lv_sipush (v := 255) hx hb d_Reader_octet_19 (by decide) ?_
        refine lv_iand hx hb d_Reader_octet_22 ?_
        refine lv_goto (tgt := 27) hx hb d_Reader_octet_23 (by decide) ?_
        exact k27 _ (oc_at hu hn c1 c10)
set_option maxHeartbeats 4000000 in
set_option maxRecDepth 100000 in
theorem cC_more (l : Launch) (dC : Nat → ClassId) (dI : Nat → Nat → Nat) (sb : sB) (h res t ki : Nat) (pp s0 n : Nat) (w : Option Nat) (pa ma ex ie : Int32) (cB : ClassId) (u : Nat → Nat) (en : Nat) (hw : ∀ k, w = some k → k < 2 ^ 31) (hp : pp < 2 ^ 31) (he : en < 2 ^ 31) : Met l y_Reader_more w_Reader_more ({ frames := 0, cells := 0, slots := 0, locals := 0 }) (pu_P [.ref h, .int (nI en)] (dC, dI) sb [(h, .inr (4, [.ref res, .ref t, .int (nI pp), .int (nI s0), .int (wI w), .int pa, .int ma, .int ex, .ref ki]))] []) (vp_Si (fun r => bz r (w = none ∧ pp < en))) 0 0 (fun _ => False) := by
  refine Met.ofW (cc := b_Reader_more) (maxL := 2) (ret := (some FieldType.boolean)) (by decide) rfl ?_
  intro p e s m args below meth c s₁ B hml hv
  obtain ⟨rfl, hP, hK, hN, hT0⟩ := hv
  have hx := B.exec
  have hb := B.bytes
  have hr := B.returns
  have hts := atoms_spec (ws := w_Reader_more) B.pre
  have tbin : ∀ w ∈ tb, w ∈ w_Reader_more := fun w h => List.mem_cons_of_mem _ h
  have htb : ∀ w ∈ tb, w.before _ s = true := fun w h => hts w (tbin w h)
  have hown : s.vm.findClass "TrustChain$Reader" = some m.cls := findClass_of_methodNamed B.named
  have hlocks := B.notSynchronized
  have hcs : 0 ≤ (headSpec w_Reader_more ({ frames := 0, cells := 0, slots := 0, locals := 0 })).room.cells ∧ 0 ≤ (headSpec w_Reader_more ({ frames := 0, cells := 0, slots := 0, locals := 0 })).room.slots := ⟨Nat.zero_le _, Nat.zero_le _⟩
  have hP : va_P (dC, dI) classes [(h, .inr (4, [.ref res, .ref t, .int (nI pp), .int (nI s0), .int (wI w), .int pa, .int ma, .int ex, .ref ki]))] s.heap := hP
  have hl := lv_entry ([.ref h, .int (nI en)]) (n := 2) (Nat.le_of_ble_eq_true rfl)
  rw [lg_entry_eq]
  generalize (lg_sl ([.ref h, .int (nI en)]) ++ List.replicate (2 - (lg_sl ([.ref h, .int (nI en)])).length) Slot.unset).toArray = ls at hl ⊢
  have hl : lv_has ls 2 [(0, .ref h), (1, .int (nI en))] := hl
  refine w_join (J := fun v => bz v (w = none ∧ pp < en)) (pc := 20) (ls := ls) (rest := []) (fun v hv => ?_) (fun k20 => ?_)
  · skip
    exact W.zret (v := v) hx hb hr (bz_n hv) (fun t ht hW => ⟨_, rfl, hv, ht⟩) (fun q h => by cases h) d_Reader_more_20
  · skip
    refine lv_aload_n hx hb d_Reader_more_0 rfl (lv_at hl 0 rfl) ?_
    refine va_get (v := .int (wI w)) hx hb htb i_CertificateReader hown hK hP 0 rfl rfl 4 (by decide) (htb _ q3_68) (fun _ h9 => h9) rfl d_Reader_more_1 ?_
    refine lv_if_ge (tgt := 19) hx hb d_Reader_more_4 (by decide) (fun c4 => ?_) (fun c4 => ?_)
    · refine lv_iconst (v := 0) hx hb d_Reader_more_19 (by decide) ?_
      exact k20 _ (bz_f (fun q => wI_s c4 q.1))
    · refine lv_aload_n hx hb d_Reader_more_7 rfl (lv_at hl 0 rfl) ?_
      refine va_get (v := .int (nI pp)) hx hb htb i_CertificateReader hown hK hP 0 rfl rfl 2 (by decide) (htb _ q3_62) (fun _ h9 => h9) rfl d_Reader_more_8 ?_
      refine lv_iload_n hx hb d_Reader_more_11 rfl (lv_at hl 1 rfl) ?_
      refine lv_icmp_ge (tgt := 19) hx hb d_Reader_more_12 (by decide) (fun c12 => ?_) (fun c12 => ?_)
      · refine lv_iconst (v := 0) hx hb d_Reader_more_19 (by decide) ?_
        exact k20 _ (bz_f (fun q => absurd q.2 (by rw [nI_leI (by omega) (by omega)] at c12; omega)))
      · refine lv_iconst (v := 1) hx hb d_Reader_more_15 (by decide) ?_
        refine lv_goto (tgt := 20) hx hb d_Reader_more_16 (by decide) ?_
        exact k20 _ (bz_t ⟨wI_n hw c4, (nI_ltI (by omega) (by omega)).mp (Int32.not_le.mp c12)⟩)
set_option maxHeartbeats 4000000 in
set_option maxRecDepth 100000 in
theorem cC_nextIs (l : Launch) (dC : Nat → ClassId) (dI : Nat → Nat → Nat) (sb : sB) (h res t ki : Nat) (pp s0 n : Nat) (w : Option Nat) (pa ma ex ie : Int32) (cB : ClassId) (u : Nat → Nat) (tg en : Nat) (hu : ∀ j, u j < 256) (hn : n < 2 ^ 30) (hw : ∀ k, w = some k → k < 2 ^ 31) (he : en ≤ n) (hp : pp ≤ n) (hg : tg < 256) : Met l y_Reader_nextIs w_Reader_nextIs ({ frames := 1, cells := 0, slots := 0, locals := 21 }) (pu_P [.ref h, .int (nI tg), .int (nI en)] (dC, dI) sb [(h, .inr (4, [.ref res, .ref t, .int (nI pp), .int (nI s0), .int (wI w), .int pa, .int ma, .int ex, .ref ki])), (t, .inl (cB, n, .inl (tx u)))] [(cB, .byte)]) (vp_Si (fun r => bz r (w = none ∧ pp < en ∧ u pp = tg))) 0 0 (fun _ => False) := by
  refine Met.ofW (cc := b_Reader_nextIs) (maxL := 3) (ret := (some FieldType.boolean)) (by decide) rfl ?_
  intro p e s m args below meth c s₁ B hml hv
  obtain ⟨rfl, hP, hK, hN, hT0⟩ := hv
  have hx := B.exec
  have hb := B.bytes
  have hr := B.returns
  have hts := atoms_spec (ws := w_Reader_nextIs) B.pre
  have tbin : ∀ w ∈ tb, w ∈ w_Reader_nextIs := fun w h => List.mem_cons_of_mem _ h
  have htb : ∀ w ∈ tb, w.before _ s = true := fun w h => hts w (tbin w h)
  have hown : s.vm.findClass "TrustChain$Reader" = some m.cls := findClass_of_methodNamed B.named
  have hlocks := B.notSynchronized
  have hcs : 0 ≤ (headSpec w_Reader_nextIs ({ frames := 1, cells := 0, slots := 0, locals := 21 })).room.cells ∧ 0 ≤ (headSpec w_Reader_nextIs ({ frames := 1, cells := 0, slots := 0, locals := 21 })).room.slots := ⟨Nat.zero_le _, Nat.zero_le _⟩
  have hP : va_P (dC, dI) classes [(h, .inr (4, [.ref res, .ref t, .int (nI pp), .int (nI s0), .int (wI w), .int pa, .int ma, .int ex, .ref ki])), (t, .inl (cB, n, .inl (tx u)))] s.heap := hP
  have hl := lv_entry ([.ref h, .int (nI tg), .int (nI en)]) (n := 3) (Nat.le_of_ble_eq_true rfl)
  rw [lg_entry_eq]
  generalize (lg_sl ([.ref h, .int (nI tg), .int (nI en)]) ++ List.replicate (3 - (lg_sl ([.ref h, .int (nI tg), .int (nI en)])).length) Slot.unset).toArray = ls at hl ⊢
  have hl : lv_has ls 3 [(0, .ref h), (1, .int (nI tg)), (2, .int (nI en))] := hl
  refine w_join (J := fun v => bz v (w = none ∧ pp < en ∧ u pp = tg)) (pc := 25) (ls := ls) (rest := []) (fun v hv => ?_) (fun k25 => ?_)
  · skip
    exact W.zret (v := v) hx hb hr (bz_n hv) (fun t ht hW => ⟨_, rfl, hv, ht⟩) (fun q h => by cases h) d_Reader_nextIs_25
  · skip
    refine lv_aload_n hx hb d_Reader_nextIs_0 rfl (lv_at hl 0 rfl) ?_
    refine lv_iload_n hx hb d_Reader_nextIs_1 rfl (lv_at hl 2 rfl) ?_
    refine vp_callSi (pu_callU (As := [.int (nI en)]) (rest := []) ⟨hx, hb, hml, hown, hts⟩ (cC_more l dC dI sb h res t ki pp s0 n w pa ma ex ie cB u en hw (by omega) (by omega)) (cu_of (n := 1) hts tbin q3_196 q3_198 q3_197 q3_199 q1_15 q3_201 rfl (by decide +kernel) ⟨rfl, rfl⟩ ⟨Nat.le_of_ble_eq_true rfl, Nat.le_of_ble_eq_true rfl⟩) rfl ⟨Nat.le_of_ble_eq_true rfl, Nat.le_of_ble_eq_true rfl⟩ hN hT0 hK hP [0] rfl [] rfl 0 4 rfl rfl rfl hl.1 rfl (Nat.le_of_ble_eq_true rfl) d_Reader_nextIs_2) (fun r2 hr2 => ?_)
    refine lv_if_eq (tgt := 24) hx hb d_Reader_nextIs_5 (by decide) (fun c5 => ?_) (fun c5 => ?_)
    · refine lv_iconst (v := 0) hx hb d_Reader_nextIs_24 (by decide) ?_
      exact k25 _ (bz_f (fun q => bz_0 hr2 c5 ⟨q.1, q.2.1⟩))
    · refine lv_aload_n hx hb d_Reader_nextIs_8 rfl (lv_at hl 0 rfl) ?_
      refine lv_aload_n hx hb d_Reader_nextIs_9 rfl (lv_at hl 0 rfl) ?_
      refine va_get (v := .int (nI pp)) hx hb htb i_CertificateReader hown hK hP 0 rfl rfl 2 (by decide) (htb _ q3_62) (fun _ h9 => h9) rfl d_Reader_nextIs_10 ?_
      refine vp_callSi (pu_callU (As := [.int (nI pp)]) (rest := []) ⟨hx, hb, hml, hown, hts⟩ (cC_octet l dC dI sb h res t ki pp s0 n w pa ma ex ie cB u (nI pp) hu hn) (cu_of (n := 1) hts tbin q3_114 q3_116 q3_115 q3_117 q1_15 q3_119 rfl (by decide +kernel) ⟨rfl, rfl⟩ ⟨Nat.le_of_ble_eq_true rfl, Nat.le_of_ble_eq_true rfl⟩) rfl ⟨Nat.le_of_ble_eq_true rfl, Nat.le_of_ble_eq_true rfl⟩ hN hT0 hK hP [0, 1] rfl [0] rfl 0 4 rfl rfl rfl hl.1 rfl (Nat.le_of_ble_eq_true rfl) d_Reader_nextIs_13) (fun r13 hr13 => ?_)
      refine lv_iload_n hx hb d_Reader_nextIs_16 rfl (lv_at hl 1 rfl) ?_
      refine lv_icmp_ne (tgt := 24) hx hb d_Reader_nextIs_17 (by decide) (fun c17 => ?_) (fun c17 => ?_)
      · refine lv_iconst (v := 0) hx hb d_Reader_nextIs_24 (by decide) ?_
        exact k25 _ (bz_f (fun q => c17 (by rw [hr13, sl_oct (by omega) (by have := q.2.1; omega), Nat.zero_add, q.2.2])))
      · refine lv_iconst (v := 1) hx hb d_Reader_nextIs_20 (by decide) ?_
        refine lv_goto (tgt := 25) hx hb d_Reader_nextIs_21 (by decide) ?_
        exact k25 _ (bz_t ⟨(bz_1 hr2 c5).1, (bz_1 hr2 c5).2, (by rw [hr13, sl_oct (by omega) (by have := (bz_1 hr2 c5).2; omega), nI_eq (by have := hu (0 + pp); omega) (by omega)] at c17; rw [Nat.zero_add] at c17; exact c17)⟩)
set_option maxHeartbeats 4000000 in
set_option maxRecDepth 100000 in
theorem cC_refuse (l : Launch) (dC : Nat → ClassId) (dI : Nat → Nat → Nat) (sb : sB) (h res t ki : Nat) (pp s0 n : Nat) (w : Option Nat) (pa ma ex ie : Int32) (cB : ClassId) (u : Nat → Nat) (k0 : Nat) (sz : Nat) (hw : ∀ k, w = some k → k < 2 ^ 31) : Met l y_Reader_refuse w_Reader_refuse ({ frames := 0, cells := 0, slots := 0, locals := 0 }) (mu_P [.ref h, .int (nI k0)] (dC, dI) sb [(h, .inr (4, [.ref res, .ref t, .int (nI pp), .int (nI s0), .int (wI w), .int pa, .int ma, .int ex, .ref ki]))] [] sz) (va_Qv (fun (u : rS) => u = rd_ref (pp, s0, w) k0) (mu_B (dC, dI) [] (va_A [(h, .inr (4, [.ref res, .ref t, .int (nI pp), .int (nI s0), .int (wI w), .int pa, .int ma, .int ex, .ref ki]))] sz) (fun u' : rS => [(h, .inr (4, [.ref res, .ref t, .int (nI u'.1), .int (nI u'.2.1), .int (wI u'.2.2), .int pa, .int ma, .int ex, .ref ki]))])) (va_A [(h, .inr (4, [.ref res, .ref t, .int (nI pp), .int (nI s0), .int (wI w), .int pa, .int ma, .int ex, .ref ki]))] sz)) 0 0 (va_A [(h, .inr (4, [.ref res, .ref t, .int (nI pp), .int (nI s0), .int (wI w), .int pa, .int ma, .int ex, .ref ki]))] sz) := by
  refine Met.ofW (cc := b_Reader_refuse) (maxL := 2) (ret := none) (by decide) rfl ?_
  intro p e s m args below meth c s₁ B hml hv
  obtain ⟨rfl, hsz, hB0, hP, hK, hD0, hN, hT0⟩ := hv
  have hx := B.exec
  have hb := B.bytes
  have hr := B.returns
  have hts := atoms_spec (ws := w_Reader_refuse) B.pre
  have tbin : ∀ w ∈ tb, w ∈ w_Reader_refuse := fun w h => List.mem_cons_of_mem _ h
  have htb : ∀ w ∈ tb, w.before _ s = true := fun w h => hts w (tbin w h)
  have hown : s.vm.findClass "TrustChain$Reader" = some m.cls := findClass_of_methodNamed B.named
  have hlocks := B.notSynchronized
  subst hsz
  have hD := hD0.self (sz := s.heap.size)
  generalize hAe : va_A [(h, .inr (4, [.ref res, .ref t, .int (nI pp), .int (nI s0), .int (wI w), .int pa, .int ma, .int ex, .ref ki]))] s.heap.size = A at hD ⊢
  have hA : ∀ q : Nat, s.heap.size ≤ q → A q := fun q h => by rw [← hAe]; exact Or.inr h
  have hAs : ∀ q : Nat, A q → sb.1 ≤ q := fun q h => by
    rw [← hAe] at h
    rcases h with ⟨k, e, h⟩ | h
    · exact hD0.2 k _ h
    · exact Nat.le_trans hB0 h
  have hS : va_S A s.heap s.heap [] := va_S.rf
  have hcs : 0 ≤ (headSpec w_Reader_refuse ({ frames := 0, cells := 0, slots := 0, locals := 0 })).room.cells ∧ 0 ≤ (headSpec w_Reader_refuse ({ frames := 0, cells := 0, slots := 0, locals := 0 })).room.slots := ⟨Nat.le_refl _, Nat.le_refl _⟩
  have hP : va_P (dC, dI) classes [(h, .inr (4, [.ref res, .ref t, .int (nI pp), .int (nI s0), .int (wI w), .int pa, .int ma, .int ex, .ref ki]))] s.heap := hP
  have hl := lv_entry ([.ref h, .int (nI k0)]) (n := 2) (Nat.le_of_ble_eq_true rfl)
  rw [lg_entry_eq]
  generalize (lg_sl ([.ref h, .int (nI k0)]) ++ List.replicate (2 - (lg_sl ([.ref h, .int (nI k0)])).length) Slot.unset).toArray = ls at hl ⊢
  have hl : lv_has ls 2 [(0, .ref h), (1, .int (nI k0))] := hl
  refine lv_aload_n hx hb d_Reader_refuse_0 rfl (lv_at hl 0 rfl) ?_
  refine va_get (v := .int (wI w)) hx hb htb i_CertificateReader hown hK hP 0 rfl rfl 4 (by decide) (htb _ q3_68) (fun _ h9 => h9) rfl d_Reader_refuse_1 ?_
  refine lv_if_ge (tgt := 12) hx hb d_Reader_refuse_4 (by decide) (fun c4 => ?_) (fun c4 => ?_)
  · exact W.vret hx hb hr (fun t ht hW => ⟨⟨(pp, s0, w), rfl, rd_ref_1 (wI_s c4), by rw [ht]; exact hP, va_K.moved hW.alike hK, hD⟩, hS.F ht⟩) hS.2.2 d_Reader_refuse_12
  · refine lv_aload_n hx hb d_Reader_refuse_7 rfl (lv_at hl 0 rfl) ?_
    refine lv_iload_n hx hb d_Reader_refuse_8 rfl (lv_at hl 1 rfl) ?_
    refine va_put (v := .int (nI k0)) (ty := .int) hx hb htb i_CertificateReader t_CertificateReader t_CertificateReader_ok n_CertificateReader hown hK hP hD hS 0 rfl rfl 4 (by decide) (htb _ q3_68) (fun _ h9 => h9) rfl (by decide +kernel) rfl rfl (Nat.le_of_ble_eq_true rfl) d_Reader_refuse_9 (fun H9 locs hP hD hS => ?_)
    have hP : va_P (dC, dI) classes [(h, .inr (4, [.ref res, .ref t, .int (nI pp), .int (nI s0), .int (nI k0), .int pa, .int ma, .int ex, .ref ki]))] H9 := hP
    have hD : va_D A [(h, .inr (4, [.ref res, .ref t, .int (nI pp), .int (nI s0), .int (nI k0), .int pa, .int ma, .int ex, .ref ki]))] := hD
    exact W.vret hx hb hr (fun t ht hW => ⟨⟨(pp, s0, some k0), rfl, rd_ref_2 (wI_n hw c4), by rw [ht]; exact hP, va_K.moved hW.alike hK, hD⟩, hS.F ht⟩) hS.2.2 d_Reader_refuse_12
set_option maxHeartbeats 4000000 in
set_option maxRecDepth 100000 in
theorem cC_require (l : Launch) (dC : Nat → ClassId) (dI : Nat → Nat → Nat) (sb : sB) (h res t ki : Nat) (pp s0 n : Nat) (w : Option Nat) (pa ma ex ie : Int32) (cB : ClassId) (u : Nat → Nat) (bv : Int32) (sz : Nat) (hw : ∀ k, w = some k → k < 2 ^ 31) : Met l y_Reader_require w_Reader_require ({ frames := 0, cells := 0, slots := 0, locals := 0 }) (mu_P [.ref h, .int bv] (dC, dI) sb [(h, .inr (4, [.ref res, .ref t, .int (nI pp), .int (nI s0), .int (wI w), .int pa, .int ma, .int ex, .ref ki]))] [] sz) (va_Qv (fun (u : rS) => u = rd_req (pp, s0, w) bv) (mu_B (dC, dI) [] (va_A [(h, .inr (4, [.ref res, .ref t, .int (nI pp), .int (nI s0), .int (wI w), .int pa, .int ma, .int ex, .ref ki]))] sz) (fun u' : rS => [(h, .inr (4, [.ref res, .ref t, .int (nI u'.1), .int (nI u'.2.1), .int (wI u'.2.2), .int pa, .int ma, .int ex, .ref ki]))])) (va_A [(h, .inr (4, [.ref res, .ref t, .int (nI pp), .int (nI s0), .int (wI w), .int pa, .int ma, .int ex, .ref ki]))] sz)) 0 0 (va_A [(h, .inr (4, [.ref res, .ref t, .int (nI pp), .int (nI s0), .int (wI w), .int pa, .int ma, .int ex, .ref ki]))] sz) := by
  refine Met.ofW (cc := b_Reader_require) (maxL := 2) (ret := none) (by decide) rfl ?_
  intro p e s m args below meth c s₁ B hml hv
  obtain ⟨rfl, hsz, hB0, hP, hK, hD0, hN, hT0⟩ := hv
  have hx := B.exec
  have hb := B.bytes
  have hr := B.returns
  have hts := atoms_spec (ws := w_Reader_require) B.pre
  have tbin : ∀ w ∈ tb, w ∈ w_Reader_require := fun w h => List.mem_cons_of_mem _ h
  have htb : ∀ w ∈ tb, w.before _ s = true := fun w h => hts w (tbin w h)
  have hown : s.vm.findClass "TrustChain$Reader" = some m.cls := findClass_of_methodNamed B.named
  have hlocks := B.notSynchronized
  subst hsz
  have hD := hD0.self (sz := s.heap.size)
  generalize hAe : va_A [(h, .inr (4, [.ref res, .ref t, .int (nI pp), .int (nI s0), .int (wI w), .int pa, .int ma, .int ex, .ref ki]))] s.heap.size = A at hD ⊢
  have hA : ∀ q : Nat, s.heap.size ≤ q → A q := fun q h => by rw [← hAe]; exact Or.inr h
  have hAs : ∀ q : Nat, A q → sb.1 ≤ q := fun q h => by
    rw [← hAe] at h
    rcases h with ⟨k, e, h⟩ | h
    · exact hD0.2 k _ h
    · exact Nat.le_trans hB0 h
  have hS : va_S A s.heap s.heap [] := va_S.rf
  have hcs : 0 ≤ (headSpec w_Reader_require ({ frames := 0, cells := 0, slots := 0, locals := 0 })).room.cells ∧ 0 ≤ (headSpec w_Reader_require ({ frames := 0, cells := 0, slots := 0, locals := 0 })).room.slots := ⟨Nat.le_refl _, Nat.le_refl _⟩
  have hP : va_P (dC, dI) classes [(h, .inr (4, [.ref res, .ref t, .int (nI pp), .int (nI s0), .int (wI w), .int pa, .int ma, .int ex, .ref ki]))] s.heap := hP
  have hl := lv_entry ([.ref h, .int bv]) (n := 2) (Nat.le_of_ble_eq_true rfl)
  rw [lg_entry_eq]
  generalize (lg_sl ([.ref h, .int bv]) ++ List.replicate (2 - (lg_sl ([.ref h, .int bv])).length) Slot.unset).toArray = ls at hl ⊢
  have hl : lv_has ls 2 [(0, .ref h), (1, .int bv)] := hl
  refine lv_iload_n hx hb d_Reader_require_0 rfl (lv_at hl 1 rfl) ?_
  refine lv_if_ne (tgt := 19) hx hb d_Reader_require_1 (by decide) (fun c1 => ?_) (fun c1 => ?_)
  · exact W.vret hx hb hr (fun t ht hW => ⟨⟨(pp, s0, w), rfl, rd_req_1 c1, by rw [ht]; exact hP, va_K.moved hW.alike hK, hD⟩, hS.F ht⟩) hS.2.2 d_Reader_require_19
  · refine lv_aload_n hx hb d_Reader_require_4 rfl (lv_at hl 0 rfl) ?_
    refine va_get (v := .int (wI w)) hx hb htb i_CertificateReader hown hK hP 0 rfl rfl 4 (by decide) (htb _ q3_68) (fun _ h9 => h9) rfl d_Reader_require_5 ?_
    refine lv_if_ge (tgt := 19) hx hb d_Reader_require_8 (by decide) (fun c8 => ?_) (fun c8 => ?_)
    · exact W.vret hx hb hr (fun t ht hW => ⟨⟨(pp, s0, w), rfl, rd_req_2 (wI_s c8), by rw [ht]; exact hP, va_K.moved hW.alike hK, hD⟩, hS.F ht⟩) hS.2.2 d_Reader_require_19
    · refine lv_aload_n hx hb d_Reader_require_11 rfl (lv_at hl 0 rfl) ?_
      refine lv_aload_n hx hb d_Reader_require_12 rfl (lv_at hl 0 rfl) ?_
      refine va_get (v := .int (nI s0)) hx hb htb i_CertificateReader hown hK hP 0 rfl rfl 3 (by decide) (htb _ q3_67) (fun _ h9 => h9) rfl d_Reader_require_13 ?_
      refine va_put (v := .int (nI s0)) (ty := .int) hx hb htb i_CertificateReader t_CertificateReader t_CertificateReader_ok n_CertificateReader hown hK hP hD hS 0 rfl rfl 4 (by decide) (htb _ q3_68) (fun _ h9 => h9) rfl (by decide +kernel) rfl rfl (Nat.le_of_ble_eq_true rfl) d_Reader_require_16 (fun H16 locs hP hD hS => ?_)
      have hP : va_P (dC, dI) classes [(h, .inr (4, [.ref res, .ref t, .int (nI pp), .int (nI s0), .int (nI s0), .int pa, .int ma, .int ex, .ref ki]))] H16 := hP
      have hD : va_D A [(h, .inr (4, [.ref res, .ref t, .int (nI pp), .int (nI s0), .int (nI s0), .int pa, .int ma, .int ex, .ref ki]))] := hD
      exact W.vret hx hb hr (fun t ht hW => ⟨⟨(pp, s0, some s0), rfl, rd_req_3 (wI_n hw c8) (by simpa using c1), by rw [ht]; exact hP, va_K.moved hW.alike hK, hD⟩, hS.F ht⟩) hS.2.2 d_Reader_require_19
set_option maxHeartbeats 4000000 in
set_option maxRecDepth 100000 in
theorem cC_finish (l : Launch) (dC : Nat → ClassId) (dI : Nat → Nat → Nat) (sb : sB) (h res t ki : Nat) (pp s0 n : Nat) (w : Option Nat) (pa ma ex ie : Int32) (cB : ClassId) (u : Nat → Nat) (en : Nat) (sz : Nat) (hw : ∀ k, w = some k → k < 2 ^ 31) (hp : pp < 2 ^ 31) (he : en < 2 ^ 31) : Met l y_Reader_finish w_Reader_finish ({ frames := 0, cells := 0, slots := 0, locals := 0 }) (mu_P [.ref h, .int (nI en)] (dC, dI) sb [(h, .inr (4, [.ref res, .ref t, .int (nI pp), .int (nI s0), .int (wI w), .int pa, .int ma, .int ex, .ref ki]))] [] sz) (va_Qv (fun (u : rS) => u = rd_fin (pp, s0, w) en) (mu_B (dC, dI) [] (va_A [(h, .inr (4, [.ref res, .ref t, .int (nI pp), .int (nI s0), .int (wI w), .int pa, .int ma, .int ex, .ref ki]))] sz) (fun u' : rS => [(h, .inr (4, [.ref res, .ref t, .int (nI u'.1), .int (nI u'.2.1), .int (wI u'.2.2), .int pa, .int ma, .int ex, .ref ki]))])) (va_A [(h, .inr (4, [.ref res, .ref t, .int (nI pp), .int (nI s0), .int (wI w), .int pa, .int ma, .int ex, .ref ki]))] sz)) 0 0 (va_A [(h, .inr (4, [.ref res, .ref t, .int (nI pp), .int (nI s0), .int (wI w), .int pa, .int ma, .int ex, .ref ki]))] sz) := by
  refine Met.ofW (cc := b_Reader_finish) (maxL := 2) (ret := none) (by decide) rfl ?_
  intro p e s m args below meth c s₁ B hml hv
  obtain ⟨rfl, hsz, hB0, hP, hK, hD0, hN, hT0⟩ := hv
  have hx := B.exec
  have hb := B.bytes
  have hr := B.returns
  have hts := atoms_spec (ws := w_Reader_finish) B.pre
  have tbin : ∀ w ∈ tb, w ∈ w_Reader_finish := fun w h => List.mem_cons_of_mem _ h
  have htb : ∀ w ∈ tb, w.before _ s = true := fun w h => hts w (tbin w h)
  have hown : s.vm.findClass "TrustChain$Reader" = some m.cls := findClass_of_methodNamed B.named
  have hlocks := B.notSynchronized
  subst hsz
  have hD := hD0.self (sz := s.heap.size)
  generalize hAe : va_A [(h, .inr (4, [.ref res, .ref t, .int (nI pp), .int (nI s0), .int (wI w), .int pa, .int ma, .int ex, .ref ki]))] s.heap.size = A at hD ⊢
  have hA : ∀ q : Nat, s.heap.size ≤ q → A q := fun q h => by rw [← hAe]; exact Or.inr h
  have hAs : ∀ q : Nat, A q → sb.1 ≤ q := fun q h => by
    rw [← hAe] at h
    rcases h with ⟨k, e, h⟩ | h
    · exact hD0.2 k _ h
    · exact Nat.le_trans hB0 h
  have hS : va_S A s.heap s.heap [] := va_S.rf
  have hcs : 0 ≤ (headSpec w_Reader_finish ({ frames := 0, cells := 0, slots := 0, locals := 0 })).room.cells ∧ 0 ≤ (headSpec w_Reader_finish ({ frames := 0, cells := 0, slots := 0, locals := 0 })).room.slots := ⟨Nat.le_refl _, Nat.le_refl _⟩
  have hP : va_P (dC, dI) classes [(h, .inr (4, [.ref res, .ref t, .int (nI pp), .int (nI s0), .int (wI w), .int pa, .int ma, .int ex, .ref ki]))] s.heap := hP
  have hl := lv_entry ([.ref h, .int (nI en)]) (n := 2) (Nat.le_of_ble_eq_true rfl)
  rw [lg_entry_eq]
  generalize (lg_sl ([.ref h, .int (nI en)]) ++ List.replicate (2 - (lg_sl ([.ref h, .int (nI en)])).length) Slot.unset).toArray = ls at hl ⊢
  have hl : lv_has ls 2 [(0, .ref h), (1, .int (nI en))] := hl
  refine lv_aload_n hx hb d_Reader_finish_0 rfl (lv_at hl 0 rfl) ?_
  refine va_get (v := .int (wI w)) hx hb htb i_CertificateReader hown hK hP 0 rfl rfl 4 (by decide) (htb _ q3_68) (fun _ h9 => h9) rfl d_Reader_finish_1 ?_
  refine lv_if_ge (tgt := 23) hx hb d_Reader_finish_4 (by decide) (fun c4 => ?_) (fun c4 => ?_)
  · exact W.vret hx hb hr (fun t ht hW => ⟨⟨(pp, s0, w), rfl, rd_fin_1 (wI_s c4), by rw [ht]; exact hP, va_K.moved hW.alike hK, hD⟩, hS.F ht⟩) hS.2.2 d_Reader_finish_23
  · refine lv_aload_n hx hb d_Reader_finish_7 rfl (lv_at hl 0 rfl) ?_
    refine va_get (v := .int (nI pp)) hx hb htb i_CertificateReader hown hK hP 0 rfl rfl 2 (by decide) (htb _ q3_62) (fun _ h9 => h9) rfl d_Reader_finish_8 ?_
    refine lv_iload_n hx hb d_Reader_finish_11 rfl (lv_at hl 1 rfl) ?_
    refine lv_icmp_ge (tgt := 23) hx hb d_Reader_finish_12 (by decide) (fun c12 => ?_) (fun c12 => ?_)
    · exact W.vret hx hb hr (fun t ht hW => ⟨⟨(pp, s0, w), rfl, rd_fin_2 (by rw [nI_leI (by omega) (by omega)] at c12; omega), by rw [ht]; exact hP, va_K.moved hW.alike hK, hD⟩, hS.F ht⟩) hS.2.2 d_Reader_finish_23
    · refine lv_aload_n hx hb d_Reader_finish_15 rfl (lv_at hl 0 rfl) ?_
      refine lv_aload_n hx hb d_Reader_finish_16 rfl (lv_at hl 0 rfl) ?_
      refine va_get (v := .int (nI pp)) hx hb htb i_CertificateReader hown hK hP 0 rfl rfl 2 (by decide) (htb _ q3_62) (fun _ h9 => h9) rfl d_Reader_finish_17 ?_
      refine va_put (v := .int (nI pp)) (ty := .int) hx hb htb i_CertificateReader t_CertificateReader t_CertificateReader_ok n_CertificateReader hown hK hP hD hS 0 rfl rfl 4 (by decide) (htb _ q3_68) (fun _ h9 => h9) rfl (by decide +kernel) rfl rfl (Nat.le_of_ble_eq_true rfl) d_Reader_finish_20 (fun H20 locs hP hD hS => ?_)
      have hP : va_P (dC, dI) classes [(h, .inr (4, [.ref res, .ref t, .int (nI pp), .int (nI s0), .int (nI pp), .int pa, .int ma, .int ex, .ref ki]))] H20 := hP
      have hD : va_D A [(h, .inr (4, [.ref res, .ref t, .int (nI pp), .int (nI s0), .int (nI pp), .int pa, .int ma, .int ex, .ref ki]))] := hD
      exact W.vret hx hb hr (fun t ht hW => ⟨⟨(pp, s0, some pp), rfl, rd_fin_3 (wI_n hw c4) (by rw [nI_leI (by omega) (by omega)] at c12; omega), by rw [ht]; exact hP, va_K.moved hW.alike hK, hD⟩, hS.F ht⟩) hS.2.2 d_Reader_finish_23
set_option maxHeartbeats 4000000 in
set_option maxRecDepth 100000 in
theorem cC_leave (l : Launch) (dC : Nat → ClassId) (dI : Nat → Nat → Nat) (sb : sB) (h res t ki : Nat) (pp s0 n : Nat) (w : Option Nat) (pa ma ex ie : Int32) (cB : ClassId) (u : Nat → Nat) (en : Nat) (bv : Int32) (sz : Nat) (hw : ∀ k, w = some k → k < 2 ^ 31) : Met l y_Reader_leave w_Reader_leave ({ frames := 0, cells := 0, slots := 0, locals := 0 }) (mu_P [.ref h, .int (nI en), .int bv] (dC, dI) sb [(h, .inr (4, [.ref res, .ref t, .int (nI pp), .int (nI s0), .int (wI w), .int pa, .int ma, .int ex, .ref ki]))] [] sz) (va_Qv (fun (u : rS) => u = rd_lea (pp, s0, w) en bv) (mu_B (dC, dI) [] (va_A [(h, .inr (4, [.ref res, .ref t, .int (nI pp), .int (nI s0), .int (wI w), .int pa, .int ma, .int ex, .ref ki]))] sz) (fun u' : rS => [(h, .inr (4, [.ref res, .ref t, .int (nI u'.1), .int (nI u'.2.1), .int (wI u'.2.2), .int pa, .int ma, .int ex, .ref ki]))])) (va_A [(h, .inr (4, [.ref res, .ref t, .int (nI pp), .int (nI s0), .int (wI w), .int pa, .int ma, .int ex, .ref ki]))] sz)) 0 0 (va_A [(h, .inr (4, [.ref res, .ref t, .int (nI pp), .int (nI s0), .int (wI w), .int pa, .int ma, .int ex, .ref ki]))] sz) := by
  refine Met.ofW (cc := b_Reader_leave) (maxL := 3) (ret := none) (by decide) rfl ?_
  intro p e s m args below meth c s₁ B hml hv
  obtain ⟨rfl, hsz, hB0, hP, hK, hD0, hN, hT0⟩ := hv
  have hx := B.exec
  have hb := B.bytes
  have hr := B.returns
  have hts := atoms_spec (ws := w_Reader_leave) B.pre
  have tbin : ∀ w ∈ tb, w ∈ w_Reader_leave := fun w h => List.mem_cons_of_mem _ h
  have htb : ∀ w ∈ tb, w.before _ s = true := fun w h => hts w (tbin w h)
  have hown : s.vm.findClass "TrustChain$Reader" = some m.cls := findClass_of_methodNamed B.named
  have hlocks := B.notSynchronized
  subst hsz
  have hD := hD0.self (sz := s.heap.size)
  generalize hAe : va_A [(h, .inr (4, [.ref res, .ref t, .int (nI pp), .int (nI s0), .int (wI w), .int pa, .int ma, .int ex, .ref ki]))] s.heap.size = A at hD ⊢
  have hA : ∀ q : Nat, s.heap.size ≤ q → A q := fun q h => by rw [← hAe]; exact Or.inr h
  have hAs : ∀ q : Nat, A q → sb.1 ≤ q := fun q h => by
    rw [← hAe] at h
    rcases h with ⟨k, e, h⟩ | h
    · exact hD0.2 k _ h
    · exact Nat.le_trans hB0 h
  have hS : va_S A s.heap s.heap [] := va_S.rf
  have hcs : 0 ≤ (headSpec w_Reader_leave ({ frames := 0, cells := 0, slots := 0, locals := 0 })).room.cells ∧ 0 ≤ (headSpec w_Reader_leave ({ frames := 0, cells := 0, slots := 0, locals := 0 })).room.slots := ⟨Nat.le_refl _, Nat.le_refl _⟩
  have hP : va_P (dC, dI) classes [(h, .inr (4, [.ref res, .ref t, .int (nI pp), .int (nI s0), .int (wI w), .int pa, .int ma, .int ex, .ref ki]))] s.heap := hP
  have hl := lv_entry ([.ref h, .int (nI en), .int bv]) (n := 3) (Nat.le_of_ble_eq_true rfl)
  rw [lg_entry_eq]
  generalize (lg_sl ([.ref h, .int (nI en), .int bv]) ++ List.replicate (3 - (lg_sl ([.ref h, .int (nI en), .int bv])).length) Slot.unset).toArray = ls at hl ⊢
  have hl : lv_has ls 3 [(0, .ref h), (1, .int (nI en)), (2, .int bv)] := hl
  refine lv_aload_n hx hb d_Reader_leave_0 rfl (lv_at hl 0 rfl) ?_
  refine va_get (v := .int (wI w)) hx hb htb i_CertificateReader hown hK hP 0 rfl rfl 4 (by decide) (htb _ q3_68) (fun _ h9 => h9) rfl d_Reader_leave_1 ?_
  refine lv_if_lt (tgt := 8) hx hb d_Reader_leave_4 (by decide) (fun c4 => ?_) (fun c4 => ?_)
  · refine lv_iload_n hx hb d_Reader_leave_8 rfl (lv_at hl 2 rfl) ?_
    refine lv_if_eq (tgt := 20) hx hb d_Reader_leave_9 (by decide) (fun c9 => ?_) (fun c9 => ?_)
    · refine lv_aload_n hx hb d_Reader_leave_20 rfl (lv_at hl 0 rfl) ?_
      refine lv_aload_n hx hb d_Reader_leave_21 rfl (lv_at hl 0 rfl) ?_
      refine va_get (v := .int (nI s0)) hx hb htb i_CertificateReader hown hK hP 0 rfl rfl 3 (by decide) (htb _ q3_67) (fun _ h9 => h9) rfl d_Reader_leave_22 ?_
      refine va_put (v := .int (nI s0)) (ty := .int) hx hb htb i_CertificateReader t_CertificateReader t_CertificateReader_ok n_CertificateReader hown hK hP hD hS 0 rfl rfl 4 (by decide) (htb _ q3_68) (fun _ h9 => h9) rfl (by decide +kernel) rfl rfl (Nat.le_of_ble_eq_true rfl) d_Reader_leave_25 (fun H25 locs hP hD hS => ?_)
      have hP : va_P (dC, dI) classes [(h, .inr (4, [.ref res, .ref t, .int (nI pp), .int (nI s0), .int (nI s0), .int pa, .int ma, .int ex, .ref ki]))] H25 := hP
      have hD : va_D A [(h, .inr (4, [.ref res, .ref t, .int (nI pp), .int (nI s0), .int (nI s0), .int pa, .int ma, .int ex, .ref ki]))] := hD
      exact W.vret hx hb hr (fun t ht hW => ⟨⟨(pp, s0, some s0), rfl, rd_lea_2 (wI_n' hw c4) c9, by rw [ht]; exact hP, va_K.moved hW.alike hK, hD⟩, hS.F ht⟩) hS.2.2 d_Reader_leave_28
    · refine lv_aload_n hx hb d_Reader_leave_12 rfl (lv_at hl 0 rfl) ?_
      refine lv_iload_n hx hb d_Reader_leave_13 rfl (lv_at hl 1 rfl) ?_
      refine va_put (v := .int (nI en)) (ty := .int) hx hb htb i_CertificateReader t_CertificateReader t_CertificateReader_ok n_CertificateReader hown hK hP hD hS 0 rfl rfl 2 (by decide) (htb _ q3_62) (fun _ h9 => h9) rfl (by decide +kernel) rfl rfl (Nat.le_of_ble_eq_true rfl) d_Reader_leave_14 (fun H14 locs hP hD hS => ?_)
      have hP : va_P (dC, dI) classes [(h, .inr (4, [.ref res, .ref t, .int (nI en), .int (nI s0), .int (wI w), .int pa, .int ma, .int ex, .ref ki]))] H14 := hP
      have hD : va_D A [(h, .inr (4, [.ref res, .ref t, .int (nI en), .int (nI s0), .int (wI w), .int pa, .int ma, .int ex, .ref ki]))] := hD
      refine lv_goto (tgt := 28) hx hb d_Reader_leave_17 (by decide) ?_
      exact W.vret hx hb hr (fun t ht hW => ⟨⟨(en, s0, w), rfl, rd_lea_3 (wI_n' hw c4) c9, by rw [ht]; exact hP, va_K.moved hW.alike hK, hD⟩, hS.F ht⟩) hS.2.2 d_Reader_leave_28
  · exact W.vret hx hb hr (fun t ht hW => ⟨⟨(pp, s0, w), rfl, rd_lea_1 (wI_s' c4), by rw [ht]; exact hP, va_K.moved hW.alike hK, hD⟩, hS.F ht⟩) hS.2.2 d_Reader_leave_7
set_option maxHeartbeats 4000000 in
set_option maxRecDepth 100000 in
theorem cL_octet (l : Launch) (dC : Nat → ClassId) (dI : Nat → Nat → Nat) (sb : sB) (h res t ki : Nat) (pp s0 n : Nat) (w : Option Nat) (pa ma ex ie : Int32) (cB : ClassId) (u : Nat → Nat) (i : Int32) (hu : ∀ j, u j < 256) (hn : n < 2 ^ 30) : Met l y_Reader_octet w_Reader_octet ({ frames := 0, cells := 0, slots := 0, locals := 0 }) (pu_P [.ref h, .int i] (dC, dI) sb [(h, .inr (5, [.ref res, .int ie, .ref t, .int (nI pp), .int (nI s0), .int (wI w), .int pa, .int ma, .int ex, .ref ki])), (t, .inl (cB, n, .inl (tx u)))] [(cB, .byte)]) (vp_Si (fun r => r = sl_at u 0 n i)) 0 0 (fun _ => False) := by
  refine Met.ofW (cc := b_Reader_octet) (maxL := 2) (ret := (some FieldType.int)) (by decide) rfl ?_
  intro p e s m args below meth c s₁ B hml hv
  obtain ⟨rfl, hP, hK, hN, hT0⟩ := hv
  have hx := B.exec
  have hb := B.bytes
  have hr := B.returns
  have hts := atoms_spec (ws := w_Reader_octet) B.pre
  have tbin : ∀ w ∈ tb, w ∈ w_Reader_octet := fun w h => List.mem_cons_of_mem _ h
  have htb : ∀ w ∈ tb, w.before _ s = true := fun w h => hts w (tbin w h)
  have hown : s.vm.findClass "TrustChain$Reader" = some m.cls := findClass_of_methodNamed B.named
  have hlocks := B.notSynchronized
  have hcs : 0 ≤ (headSpec w_Reader_octet ({ frames := 0, cells := 0, slots := 0, locals := 0 })).room.cells ∧ 0 ≤ (headSpec w_Reader_octet ({ frames := 0, cells := 0, slots := 0, locals := 0 })).room.slots := ⟨Nat.zero_le _, Nat.zero_le _⟩
  have hP : va_P (dC, dI) classes [(h, .inr (5, [.ref res, .int ie, .ref t, .int (nI pp), .int (nI s0), .int (wI w), .int pa, .int ma, .int ex, .ref ki])), (t, .inl (cB, n, .inl (tx u)))] s.heap := hP
  have hl := lv_entry ([.ref h, .int i]) (n := 2) (Nat.le_of_ble_eq_true rfl)
  rw [lg_entry_eq]
  generalize (lg_sl ([.ref h, .int i]) ++ List.replicate (2 - (lg_sl ([.ref h, .int i])).length) Slot.unset).toArray = ls at hl ⊢
  have hl : lv_has ls 2 [(0, .ref h), (1, .int i)] := hl
  refine w_join (J := fun v => v = sl_at u 0 n i) (pc := 27) (ls := ls) (rest := []) (fun v hv => ?_) (fun k27 => ?_)
  · skip
    exact W.iret (v := v) hx hb hr (fun t ht hW => ⟨_, rfl, hv, ht⟩) (fun q h => by cases h) d_Reader_octet_27
  · skip
    refine lv_iload_n hx hb d_Reader_octet_0 rfl (lv_at hl 1 rfl) ?_
    refine lv_if_lt (tgt := 26) hx hb d_Reader_octet_1 (by decide) (fun c1 => ?_) (fun c1 => ?_)
    · refine lv_iconst (v := -1) hx hb d_Reader_octet_26 (by decide) ?_
      exact k27 _ (oc_out hn (Or.inl c1))
    · refine lv_iload_n hx hb d_Reader_octet_4 rfl (lv_at hl 1 rfl) ?_
      refine lv_aload_n hx hb d_Reader_octet_5 rfl (lv_at hl 0 rfl) ?_
      refine va_get (v := .ref t) hx hb htb i_ListReader hown hK hP 0 rfl rfl 2 (by decide) (htb _ q3_57) (fun _ h9 => h9) rfl d_Reader_octet_6 ?_
      refine va_alen (v := nI n) hx hb hK hP 1 0 rfl rfl rfl d_Reader_octet_9 ?_
      refine lv_icmp_ge (tgt := 26) hx hb d_Reader_octet_10 (by decide) (fun c10 => ?_) (fun c10 => ?_)
      · refine lv_iconst (v := -1) hx hb d_Reader_octet_26 (by decide) ?_
        exact k27 _ (oc_out hn (Or.inr c10))
      · refine lv_aload_n hx hb d_Reader_octet_13 rfl (lv_at hl 0 rfl) ?_
        refine va_get (v := .ref t) hx hb htb i_ListReader hown hK hP 0 rfl rfl 2 (by decide) (htb _ q3_57) (fun _ h9 => h9) rfl d_Reader_octet_14 ?_
        refine lv_iload_n hx hb d_Reader_octet_17 rfl (lv_at hl 1 rfl) ?_
        have h18 : vp_in i n := oc_in hn c1 c10
        refine va_bald hx hb hK hP 1 0 rfl rfl h18 d_Reader_octet_18 ?_
        refine lv_sipush (v := 255) hx hb d_Reader_octet_19 (by decide) ?_
        refine lv_iand hx hb d_Reader_octet_22 ?_
        refine lv_goto (tgt := 27) hx hb d_Reader_octet_23 (by decide) ?_
        exact k27 _ (oc_at hu hn c1 c10)
set_option maxHeartbeats 4000000 in
set_option maxRecDepth 100000 in
theorem cL_more (l : Launch) (dC : Nat → ClassId) (dI : Nat → Nat → Nat) (sb : sB) (h res t ki : Nat) (pp s0 n : Nat) (w : Option Nat) (pa ma ex ie : Int32) (cB : ClassId) (u : Nat → Nat) (en : Nat) (hw : ∀ k, w = some k → k < 2 ^ 31) (hp : pp < 2 ^ 31) (he : en < 2 ^ 31) : Met l y_Reader_more w_Reader_more ({ frames := 0, cells := 0, slots := 0, locals := 0 }) (pu_P [.ref h, .int (nI en)] (dC, dI) sb [(h, .inr (5, [.ref res, .int ie, .ref t, .int (nI pp), .int (nI s0), .int (wI w), .int pa, .int ma, .int ex, .ref ki]))] []) (vp_Si (fun r => bz r (w = none ∧ pp < en))) 0 0 (fun _ => False) := by
  refine Met.ofW (cc := b_Reader_more) (maxL := 2) (ret := (some FieldType.boolean)) (by decide) rfl ?_
  intro p e s m args below meth c s₁ B hml hv
  obtain ⟨rfl, hP, hK, hN, hT0⟩ := hv
  have hx := B.exec
  have hb := B.bytes
  have hr := B.returns
  have hts := atoms_spec (ws := w_Reader_more) B.pre
  have tbin : ∀ w ∈ tb, w ∈ w_Reader_more := fun w h => List.mem_cons_of_mem _ h
  have htb : ∀ w ∈ tb, w.before _ s = true := fun w h => hts w (tbin w h)
  have hown : s.vm.findClass "TrustChain$Reader" = some m.cls := findClass_of_methodNamed B.named
  have hlocks := B.notSynchronized
  have hcs : 0 ≤ (headSpec w_Reader_more ({ frames := 0, cells := 0, slots := 0, locals := 0 })).room.cells ∧ 0 ≤ (headSpec w_Reader_more ({ frames := 0, cells := 0, slots := 0, locals := 0 })).room.slots := ⟨Nat.zero_le _, Nat.zero_le _⟩
  have hP : va_P (dC, dI) classes [(h, .inr (5, [.ref res, .int ie, .ref t, .int (nI pp), .int (nI s0), .int (wI w), .int pa, .int ma, .int ex, .ref ki]))] s.heap := hP
  have hl := lv_entry ([.ref h, .int (nI en)]) (n := 2) (Nat.le_of_ble_eq_true rfl)
  rw [lg_entry_eq]
  generalize (lg_sl ([.ref h, .int (nI en)]) ++ List.replicate (2 - (lg_sl ([.ref h, .int (nI en)])).length) Slot.unset).toArray = ls at hl ⊢
  have hl : lv_has ls 2 [(0, .ref h), (1, .int (nI en))] := hl
  refine w_join (J := fun v => bz v (w = none ∧ pp < en)) (pc := 20) (ls := ls) (rest := []) (fun v hv => ?_) (fun k20 => ?_)
  · skip
    exact W.zret (v := v) hx hb hr (bz_n hv) (fun t ht hW => ⟨_, rfl, hv, ht⟩) (fun q h => by cases h) d_Reader_more_20
  · skip
    refine lv_aload_n hx hb d_Reader_more_0 rfl (lv_at hl 0 rfl) ?_
    refine va_get (v := .int (wI w)) hx hb htb i_ListReader hown hK hP 0 rfl rfl 5 (by decide) (htb _ q3_68) (fun _ h9 => h9) rfl d_Reader_more_1 ?_
    refine lv_if_ge (tgt := 19) hx hb d_Reader_more_4 (by decide) (fun c4 => ?_) (fun c4 => ?_)
    · refine lv_iconst (v := 0) hx hb d_Reader_more_19 (by decide) ?_
      exact k20 _ (bz_f (fun q => wI_s c4 q.1))
    · refine lv_aload_n hx hb d_Reader_more_7 rfl (lv_at hl 0 rfl) ?_
      refine va_get (v := .int (nI pp)) hx hb htb i_ListReader hown hK hP 0 rfl rfl 3 (by decide) (htb _ q3_62) (fun _ h9 => h9) rfl d_Reader_more_8 ?_
      refine lv_iload_n hx hb d_Reader_more_11 rfl (lv_at hl 1 rfl) ?_
      refine lv_icmp_ge (tgt := 19) hx hb d_Reader_more_12 (by decide) (fun c12 => ?_) (fun c12 => ?_)
      · refine lv_iconst (v := 0) hx hb d_Reader_more_19 (by decide) ?_
        exact k20 _ (bz_f (fun q => absurd q.2 (by rw [nI_leI (by omega) (by omega)] at c12; omega)))
      · refine lv_iconst (v := 1) hx hb d_Reader_more_15 (by decide) ?_
        refine lv_goto (tgt := 20) hx hb d_Reader_more_16 (by decide) ?_
        exact k20 _ (bz_t ⟨wI_n hw c4, (nI_ltI (by omega) (by omega)).mp (Int32.not_le.mp c12)⟩)
set_option maxHeartbeats 4000000 in
set_option maxRecDepth 100000 in
theorem cL_nextIs (l : Launch) (dC : Nat → ClassId) (dI : Nat → Nat → Nat) (sb : sB) (h res t ki : Nat) (pp s0 n : Nat) (w : Option Nat) (pa ma ex ie : Int32) (cB : ClassId) (u : Nat → Nat) (tg en : Nat) (hu : ∀ j, u j < 256) (hn : n < 2 ^ 30) (hw : ∀ k, w = some k → k < 2 ^ 31) (he : en ≤ n) (hp : pp ≤ n) (hg : tg < 256) : Met l y_Reader_nextIs w_Reader_nextIs ({ frames := 1, cells := 0, slots := 0, locals := 21 }) (pu_P [.ref h, .int (nI tg), .int (nI en)] (dC, dI) sb [(h, .inr (5, [.ref res, .int ie, .ref t, .int (nI pp), .int (nI s0), .int (wI w), .int pa, .int ma, .int ex, .ref ki])), (t, .inl (cB, n, .inl (tx u)))] [(cB, .byte)]) (vp_Si (fun r => bz r (w = none ∧ pp < en ∧ u pp = tg))) 0 0 (fun _ => False) := by
  refine Met.ofW (cc := b_Reader_nextIs) (maxL := 3) (ret := (some FieldType.boolean)) (by decide) rfl ?_
  intro p e s m args below meth c s₁ B hml hv
  obtain ⟨rfl, hP, hK, hN, hT0⟩ := hv
  have hx := B.exec
  have hb := B.bytes
  have hr := B.returns
  have hts := atoms_spec (ws := w_Reader_nextIs) B.pre
  have tbin : ∀ w ∈ tb, w ∈ w_Reader_nextIs := fun w h => List.mem_cons_of_mem _ h
  have htb : ∀ w ∈ tb, w.before _ s = true := fun w h => hts w (tbin w h)
  have hown : s.vm.findClass "TrustChain$Reader" = some m.cls := findClass_of_methodNamed B.named
  have hlocks := B.notSynchronized
  have hcs : 0 ≤ (headSpec w_Reader_nextIs ({ frames := 1, cells := 0, slots := 0, locals := 21 })).room.cells ∧ 0 ≤ (headSpec w_Reader_nextIs ({ frames := 1, cells := 0, slots := 0, locals := 21 })).room.slots := ⟨Nat.zero_le _, Nat.zero_le _⟩
  have hP : va_P (dC, dI) classes [(h, .inr (5, [.ref res, .int ie, .ref t, .int (nI pp), .int (nI s0), .int (wI w), .int pa, .int ma, .int ex, .ref ki])), (t, .inl (cB, n, .inl (tx u)))] s.heap := hP
  have hl := lv_entry ([.ref h, .int (nI tg), .int (nI en)]) (n := 3) (Nat.le_of_ble_eq_true rfl)
  rw [lg_entry_eq]
  generalize (lg_sl ([.ref h, .int (nI tg), .int (nI en)]) ++ List.replicate (3 - (lg_sl ([.ref h, .int (nI tg), .int (nI en)])).length) Slot.unset).toArray = ls at hl ⊢
  have hl : lv_has ls 3 [(0, .ref h), (1, .int (nI tg)), (2, .int (nI en))] := hl
  refine w_join (J := fun v => bz v (w = none ∧ pp < en ∧ u pp = tg)) (pc := 25) (ls := ls) (rest := []) (fun v hv => ?_) (fun k25 => ?_)
  · skip
    exact W.zret (v := v) hx hb hr (bz_n hv) (fun t ht hW => ⟨_, rfl, hv, ht⟩) (fun q h => by cases h) d_Reader_nextIs_25
  · skip
    refine lv_aload_n hx hb d_Reader_nextIs_0 rfl (lv_at hl 0 rfl) ?_
    refine lv_iload_n hx hb d_Reader_nextIs_1 rfl (lv_at hl 2 rfl) ?_
    refine vp_callSi (pu_callU (As := [.int (nI en)]) (rest := []) ⟨hx, hb, hml, hown, hts⟩ (cL_more l dC dI sb h res t ki pp s0 n w pa ma ex ie cB u en hw (by omega) (by omega)) (cu_of (n := 1) hts tbin q3_196 q3_198 q3_197 q3_200 q1_15 q3_201 rfl (by decide +kernel) ⟨rfl, rfl⟩ ⟨Nat.le_of_ble_eq_true rfl, Nat.le_of_ble_eq_true rfl⟩) rfl ⟨Nat.le_of_ble_eq_true rfl, Nat.le_of_ble_eq_true rfl⟩ hN hT0 hK hP [0] rfl [] rfl 0 5 rfl rfl rfl hl.1 rfl (Nat.le_of_ble_eq_true rfl) d_Reader_nextIs_2) (fun r2 hr2 => ?_)
    refine lv_if_eq (tgt := 24) hx hb d_Reader_nextIs_5 (by decide) (fun c5 => ?_) (fun c5 => ?_)
    · refine lv_iconst (v := 0) hx hb d_Reader_nextIs_24 (by decide) ?_
      exact k25 _ (bz_f (fun q => bz_0 hr2 c5 ⟨q.1, q.2.1⟩))
    · refine lv_aload_n hx hb d_Reader_nextIs_8 rfl (lv_at hl 0 rfl) ?_
      refine lv_aload_n hx hb d_Reader_nextIs_9 rfl (lv_at hl 0 rfl) ?_
      refine va_get (v := .int (nI pp)) hx hb htb i_ListReader hown hK hP 0 rfl rfl 3 (by decide) (htb _ q3_62) (fun _ h9 => h9) rfl d_Reader_nextIs_10 ?_
      refine vp_callSi (pu_callU (As := [.int (nI pp)]) (rest := []) ⟨hx, hb, hml, hown, hts⟩ (cL_octet l dC dI sb h res t ki pp s0 n w pa ma ex ie cB u (nI pp) hu hn) (cu_of (n := 1) hts tbin q3_114 q3_116 q3_115 q3_118 q1_15 q3_119 rfl (by decide +kernel) ⟨rfl, rfl⟩ ⟨Nat.le_of_ble_eq_true rfl, Nat.le_of_ble_eq_true rfl⟩) rfl ⟨Nat.le_of_ble_eq_true rfl, Nat.le_of_ble_eq_true rfl⟩ hN hT0 hK hP [0, 1] rfl [0] rfl 0 5 rfl rfl rfl hl.1 rfl (Nat.le_of_ble_eq_true rfl) d_Reader_nextIs_13) (fun r13 hr13 => ?_)
      refine lv_iload_n hx hb d_Reader_nextIs_16 rfl (lv_at hl 1 rfl) ?_
      refine lv_icmp_ne (tgt := 24) hx hb d_Reader_nextIs_17 (by decide) (fun c17 => ?_) (fun c17 => ?_)
      · refine lv_iconst (v := 0) hx hb d_Reader_nextIs_24 (by decide) ?_
        exact k25 _ (bz_f (fun q => c17 (by rw [hr13, sl_oct (by omega) (by have := q.2.1; omega), Nat.zero_add, q.2.2])))
      · refine lv_iconst (v := 1) hx hb d_Reader_nextIs_20 (by decide) ?_
        refine lv_goto (tgt := 25) hx hb d_Reader_nextIs_21 (by decide) ?_
        exact k25 _ (bz_t ⟨(bz_1 hr2 c5).1, (bz_1 hr2 c5).2, (by rw [hr13, sl_oct (by omega) (by have := (bz_1 hr2 c5).2; omega), nI_eq (by have := hu (0 + pp); omega) (by omega)] at c17; rw [Nat.zero_add] at c17; exact c17)⟩)
set_option maxHeartbeats 4000000 in
set_option maxRecDepth 100000 in
theorem cL_refuse (l : Launch) (dC : Nat → ClassId) (dI : Nat → Nat → Nat) (sb : sB) (h res t ki : Nat) (pp s0 n : Nat) (w : Option Nat) (pa ma ex ie : Int32) (cB : ClassId) (u : Nat → Nat) (k0 : Nat) (sz : Nat) (hw : ∀ k, w = some k → k < 2 ^ 31) : Met l y_Reader_refuse w_Reader_refuse ({ frames := 0, cells := 0, slots := 0, locals := 0 }) (mu_P [.ref h, .int (nI k0)] (dC, dI) sb [(h, .inr (5, [.ref res, .int ie, .ref t, .int (nI pp), .int (nI s0), .int (wI w), .int pa, .int ma, .int ex, .ref ki]))] [] sz) (va_Qv (fun (u : rS) => u = rd_ref (pp, s0, w) k0) (mu_B (dC, dI) [] (va_A [(h, .inr (5, [.ref res, .int ie, .ref t, .int (nI pp), .int (nI s0), .int (wI w), .int pa, .int ma, .int ex, .ref ki]))] sz) (fun u' : rS => [(h, .inr (5, [.ref res, .int ie, .ref t, .int (nI u'.1), .int (nI u'.2.1), .int (wI u'.2.2), .int pa, .int ma, .int ex, .ref ki]))])) (va_A [(h, .inr (5, [.ref res, .int ie, .ref t, .int (nI pp), .int (nI s0), .int (wI w), .int pa, .int ma, .int ex, .ref ki]))] sz)) 0 0 (va_A [(h, .inr (5, [.ref res, .int ie, .ref t, .int (nI pp), .int (nI s0), .int (wI w), .int pa, .int ma, .int ex, .ref ki]))] sz) := by
  refine Met.ofW (cc := b_Reader_refuse) (maxL := 2) (ret := none) (by decide) rfl ?_
  intro p e s m args below meth c s₁ B hml hv
  obtain ⟨rfl, hsz, hB0, hP, hK, hD0, hN, hT0⟩ := hv
  have hx := B.exec
  have hb := B.bytes
  have hr := B.returns
  have hts := atoms_spec (ws := w_Reader_refuse) B.pre
  have tbin : ∀ w ∈ tb, w ∈ w_Reader_refuse := fun w h => List.mem_cons_of_mem _ h
  have htb : ∀ w ∈ tb, w.before _ s = true := fun w h => hts w (tbin w h)
  have hown : s.vm.findClass "TrustChain$Reader" = some m.cls := findClass_of_methodNamed B.named
  have hlocks := B.notSynchronized
  subst hsz
  have hD := hD0.self (sz := s.heap.size)
  generalize hAe : va_A [(h, .inr (5, [.ref res, .int ie, .ref t, .int (nI pp), .int (nI s0), .int (wI w), .int pa, .int ma, .int ex, .ref ki]))] s.heap.size = A at hD ⊢
  have hA : ∀ q : Nat, s.heap.size ≤ q → A q := fun q h => by rw [← hAe]; exact Or.inr h
  have hAs : ∀ q : Nat, A q → sb.1 ≤ q := fun q h => by
    rw [← hAe] at h
    rcases h with ⟨k, e, h⟩ | h
    · exact hD0.2 k _ h
    · exact Nat.le_trans hB0 h
  have hS : va_S A s.heap s.heap [] := va_S.rf
  have hcs : 0 ≤ (headSpec w_Reader_refuse ({ frames := 0, cells := 0, slots := 0, locals := 0 })).room.cells ∧ 0 ≤ (headSpec w_Reader_refuse ({ frames := 0, cells := 0, slots := 0, locals := 0 })).room.slots := ⟨Nat.le_refl _, Nat.le_refl _⟩
  have hP : va_P (dC, dI) classes [(h, .inr (5, [.ref res, .int ie, .ref t, .int (nI pp), .int (nI s0), .int (wI w), .int pa, .int ma, .int ex, .ref ki]))] s.heap := hP
  have hl := lv_entry ([.ref h, .int (nI k0)]) (n := 2) (Nat.le_of_ble_eq_true rfl)
  rw [lg_entry_eq]
  generalize (lg_sl ([.ref h, .int (nI k0)]) ++ List.replicate (2 - (lg_sl ([.ref h, .int (nI k0)])).length) Slot.unset).toArray = ls at hl ⊢
  have hl : lv_has ls 2 [(0, .ref h), (1, .int (nI k0))] := hl
  refine lv_aload_n hx hb d_Reader_refuse_0 rfl (lv_at hl 0 rfl) ?_
  refine va_get (v := .int (wI w)) hx hb htb i_ListReader hown hK hP 0 rfl rfl 5 (by decide) (htb _ q3_68) (fun _ h9 => h9) rfl d_Reader_refuse_1 ?_
  refine lv_if_ge (tgt := 12) hx hb d_Reader_refuse_4 (by decide) (fun c4 => ?_) (fun c4 => ?_)
  · exact W.vret hx hb hr (fun t ht hW => ⟨⟨(pp, s0, w), rfl, rd_ref_1 (wI_s c4), by rw [ht]; exact hP, va_K.moved hW.alike hK, hD⟩, hS.F ht⟩) hS.2.2 d_Reader_refuse_12
  · refine lv_aload_n hx hb d_Reader_refuse_7 rfl (lv_at hl 0 rfl) ?_
    refine lv_iload_n hx hb d_Reader_refuse_8 rfl (lv_at hl 1 rfl) ?_
    refine va_put (v := .int (nI k0)) (ty := .int) hx hb htb i_ListReader t_ListReader t_ListReader_ok n_ListReader hown hK hP hD hS 0 rfl rfl 5 (by decide) (htb _ q3_68) (fun _ h9 => h9) rfl (by decide +kernel) rfl rfl (Nat.le_of_ble_eq_true rfl) d_Reader_refuse_9 (fun H9 locs hP hD hS => ?_)
    have hP : va_P (dC, dI) classes [(h, .inr (5, [.ref res, .int ie, .ref t, .int (nI pp), .int (nI s0), .int (nI k0), .int pa, .int ma, .int ex, .ref ki]))] H9 := hP
    have hD : va_D A [(h, .inr (5, [.ref res, .int ie, .ref t, .int (nI pp), .int (nI s0), .int (nI k0), .int pa, .int ma, .int ex, .ref ki]))] := hD
    exact W.vret hx hb hr (fun t ht hW => ⟨⟨(pp, s0, some k0), rfl, rd_ref_2 (wI_n hw c4), by rw [ht]; exact hP, va_K.moved hW.alike hK, hD⟩, hS.F ht⟩) hS.2.2 d_Reader_refuse_12
set_option maxHeartbeats 4000000 in
set_option maxRecDepth 100000 in
theorem cL_require (l : Launch) (dC : Nat → ClassId) (dI : Nat → Nat → Nat) (sb : sB) (h res t ki : Nat) (pp s0 n : Nat) (w : Option Nat) (pa ma ex ie : Int32) (cB : ClassId) (u : Nat → Nat) (bv : Int32) (sz : Nat) (hw : ∀ k, w = some k → k < 2 ^ 31) : Met l y_Reader_require w_Reader_require ({ frames := 0, cells := 0, slots := 0, locals := 0 }) (mu_P [.ref h, .int bv] (dC, dI) sb [(h, .inr (5, [.ref res, .int ie, .ref t, .int (nI pp), .int (nI s0), .int (wI w), .int pa, .int ma, .int ex, .ref ki]))] [] sz) (va_Qv (fun (u : rS) => u = rd_req (pp, s0, w) bv) (mu_B (dC, dI) [] (va_A [(h, .inr (5, [.ref res, .int ie, .ref t, .int (nI pp), .int (nI s0), .int (wI w), .int pa, .int ma, .int ex, .ref ki]))] sz) (fun u' : rS => [(h, .inr (5, [.ref res, .int ie, .ref t, .int (nI u'.1), .int (nI u'.2.1), .int (wI u'.2.2), .int pa, .int ma, .int ex, .ref ki]))])) (va_A [(h, .inr (5, [.ref res, .int ie, .ref t, .int (nI pp), .int (nI s0), .int (wI w), .int pa, .int ma, .int ex, .ref ki]))] sz)) 0 0 (va_A [(h, .inr (5, [.ref res, .int ie, .ref t, .int (nI pp), .int (nI s0), .int (wI w), .int pa, .int ma, .int ex, .ref ki]))] sz) := by
  refine Met.ofW (cc := b_Reader_require) (maxL := 2) (ret := none) (by decide) rfl ?_
  intro p e s m args below meth c s₁ B hml hv
  obtain ⟨rfl, hsz, hB0, hP, hK, hD0, hN, hT0⟩ := hv
  have hx := B.exec
  have hb := B.bytes
  have hr := B.returns
  have hts := atoms_spec (ws := w_Reader_require) B.pre
  have tbin : ∀ w ∈ tb, w ∈ w_Reader_require := fun w h => List.mem_cons_of_mem _ h
  have htb : ∀ w ∈ tb, w.before _ s = true := fun w h => hts w (tbin w h)
  have hown : s.vm.findClass "TrustChain$Reader" = some m.cls := findClass_of_methodNamed B.named
  have hlocks := B.notSynchronized
  subst hsz
  have hD := hD0.self (sz := s.heap.size)
  generalize hAe : va_A [(h, .inr (5, [.ref res, .int ie, .ref t, .int (nI pp), .int (nI s0), .int (wI w), .int pa, .int ma, .int ex, .ref ki]))] s.heap.size = A at hD ⊢
  have hA : ∀ q : Nat, s.heap.size ≤ q → A q := fun q h => by rw [← hAe]; exact Or.inr h
  have hAs : ∀ q : Nat, A q → sb.1 ≤ q := fun q h => by
    rw [← hAe] at h
    rcases h with ⟨k, e, h⟩ | h
    · exact hD0.2 k _ h
    · exact Nat.le_trans hB0 h
  have hS : va_S A s.heap s.heap [] := va_S.rf
  have hcs : 0 ≤ (headSpec w_Reader_require ({ frames := 0, cells := 0, slots := 0, locals := 0 })).room.cells ∧ 0 ≤ (headSpec w_Reader_require ({ frames := 0, cells := 0, slots := 0, locals := 0 })).room.slots := ⟨Nat.le_refl _, Nat.le_refl _⟩
  have hP : va_P (dC, dI) classes [(h, .inr (5, [.ref res, .int ie, .ref t, .int (nI pp), .int (nI s0), .int (wI w), .int pa, .int ma, .int ex, .ref ki]))] s.heap := hP
  have hl := lv_entry ([.ref h, .int bv]) (n := 2) (Nat.le_of_ble_eq_true rfl)
  rw [lg_entry_eq]
  generalize (lg_sl ([.ref h, .int bv]) ++ List.replicate (2 - (lg_sl ([.ref h, .int bv])).length) Slot.unset).toArray = ls at hl ⊢
  have hl : lv_has ls 2 [(0, .ref h), (1, .int bv)] := hl
  refine lv_iload_n hx hb d_Reader_require_0 rfl (lv_at hl 1 rfl) ?_
  refine lv_if_ne (tgt := 19) hx hb d_Reader_require_1 (by decide) (fun c1 => ?_) (fun c1 => ?_)
  · exact W.vret hx hb hr (fun t ht hW => ⟨⟨(pp, s0, w), rfl, rd_req_1 c1, by rw [ht]; exact hP, va_K.moved hW.alike hK, hD⟩, hS.F ht⟩) hS.2.2 d_Reader_require_19
  · refine lv_aload_n hx hb d_Reader_require_4 rfl (lv_at hl 0 rfl) ?_
    refine va_get (v := .int (wI w)) hx hb htb i_ListReader hown hK hP 0 rfl rfl 5 (by decide) (htb _ q3_68) (fun _ h9 => h9) rfl d_Reader_require_5 ?_
    refine lv_if_ge (tgt := 19) hx hb d_Reader_require_8 (by decide) (fun c8 => ?_) (fun c8 => ?_)
    · exact W.vret hx hb hr (fun t ht hW => ⟨⟨(pp, s0, w), rfl, rd_req_2 (wI_s c8), by rw [ht]; exact hP, va_K.moved hW.alike hK, hD⟩, hS.F ht⟩) hS.2.2 d_Reader_require_19
    · refine lv_aload_n hx hb d_Reader_require_11 rfl (lv_at hl 0 rfl) ?_
      refine lv_aload_n hx hb d_Reader_require_12 rfl (lv_at hl 0 rfl) ?_
      refine va_get (v := .int (nI s0)) hx hb htb i_ListReader hown hK hP 0 rfl rfl 4 (by decide) (htb _ q3_67) (fun _ h9 => h9) rfl d_Reader_require_13 ?_
      refine va_put (v := .int (nI s0)) (ty := .int) hx hb htb i_ListReader t_ListReader t_ListReader_ok n_ListReader hown hK hP hD hS 0 rfl rfl 5 (by decide) (htb _ q3_68) (fun _ h9 => h9) rfl (by decide +kernel) rfl rfl (Nat.le_of_ble_eq_true rfl) d_Reader_require_16 (fun H16 locs hP hD hS => ?_)
      have hP : va_P (dC, dI) classes [(h, .inr (5, [.ref res, .int ie, .ref t, .int (nI pp), .int (nI s0), .int (nI s0), .int pa, .int ma, .int ex, .ref ki]))] H16 := hP
      have hD : va_D A [(h, .inr (5, [.ref res, .int ie, .ref t, .int (nI pp), .int (nI s0), .int (nI s0), .int pa, .int ma, .int ex, .ref ki]))] := hD
      exact W.vret hx hb hr (fun t ht hW => ⟨⟨(pp, s0, some s0), rfl, rd_req_3 (wI_n hw c8) (by simpa using c1), by rw [ht]; exact hP, va_K.moved hW.alike hK, hD⟩, hS.F ht⟩) hS.2.2 d_Reader_require_19
set_option maxHeartbeats 4000000 in
set_option maxRecDepth 100000 in
theorem cL_finish (l : Launch) (dC : Nat → ClassId) (dI : Nat → Nat → Nat) (sb : sB) (h res t ki : Nat) (pp s0 n : Nat) (w : Option Nat) (pa ma ex ie : Int32) (cB : ClassId) (u : Nat → Nat) (en : Nat) (sz : Nat) (hw : ∀ k, w = some k → k < 2 ^ 31) (hp : pp < 2 ^ 31) (he : en < 2 ^ 31) : Met l y_Reader_finish w_Reader_finish ({ frames := 0, cells := 0, slots := 0, locals := 0 }) (mu_P [.ref h, .int (nI en)] (dC, dI) sb [(h, .inr (5, [.ref res, .int ie, .ref t, .int (nI pp), .int (nI s0), .int (wI w), .int pa, .int ma, .int ex, .ref ki]))] [] sz) (va_Qv (fun (u : rS) => u = rd_fin (pp, s0, w) en) (mu_B (dC, dI) [] (va_A [(h, .inr (5, [.ref res, .int ie, .ref t, .int (nI pp), .int (nI s0), .int (wI w), .int pa, .int ma, .int ex, .ref ki]))] sz) (fun u' : rS => [(h, .inr (5, [.ref res, .int ie, .ref t, .int (nI u'.1), .int (nI u'.2.1), .int (wI u'.2.2), .int pa, .int ma, .int ex, .ref ki]))])) (va_A [(h, .inr (5, [.ref res, .int ie, .ref t, .int (nI pp), .int (nI s0), .int (wI w), .int pa, .int ma, .int ex, .ref ki]))] sz)) 0 0 (va_A [(h, .inr (5, [.ref res, .int ie, .ref t, .int (nI pp), .int (nI s0), .int (wI w), .int pa, .int ma, .int ex, .ref ki]))] sz) := by
  refine Met.ofW (cc := b_Reader_finish) (maxL := 2) (ret := none) (by decide) rfl ?_
  intro p e s m args below meth c s₁ B hml hv
  obtain ⟨rfl, hsz, hB0, hP, hK, hD0, hN, hT0⟩ := hv
  have hx := B.exec
  have hb := B.bytes
  have hr := B.returns
  have hts := atoms_spec (ws := w_Reader_finish) B.pre
  have tbin : ∀ w ∈ tb, w ∈ w_Reader_finish := fun w h => List.mem_cons_of_mem _ h
  have htb : ∀ w ∈ tb, w.before _ s = true := fun w h => hts w (tbin w h)
  have hown : s.vm.findClass "TrustChain$Reader" = some m.cls := findClass_of_methodNamed B.named
  have hlocks := B.notSynchronized
  subst hsz
  have hD := hD0.self (sz := s.heap.size)
  generalize hAe : va_A [(h, .inr (5, [.ref res, .int ie, .ref t, .int (nI pp), .int (nI s0), .int (wI w), .int pa, .int ma, .int ex, .ref ki]))] s.heap.size = A at hD ⊢
  have hA : ∀ q : Nat, s.heap.size ≤ q → A q := fun q h => by rw [← hAe]; exact Or.inr h
  have hAs : ∀ q : Nat, A q → sb.1 ≤ q := fun q h => by
    rw [← hAe] at h
    rcases h with ⟨k, e, h⟩ | h
    · exact hD0.2 k _ h
    · exact Nat.le_trans hB0 h
  have hS : va_S A s.heap s.heap [] := va_S.rf
  have hcs : 0 ≤ (headSpec w_Reader_finish ({ frames := 0, cells := 0, slots := 0, locals := 0 })).room.cells ∧ 0 ≤ (headSpec w_Reader_finish ({ frames := 0, cells := 0, slots := 0, locals := 0 })).room.slots := ⟨Nat.le_refl _, Nat.le_refl _⟩
  have hP : va_P (dC, dI) classes [(h, .inr (5, [.ref res, .int ie, .ref t, .int (nI pp), .int (nI s0), .int (wI w), .int pa, .int ma, .int ex, .ref ki]))] s.heap := hP
  have hl := lv_entry ([.ref h, .int (nI en)]) (n := 2) (Nat.le_of_ble_eq_true rfl)
  rw [lg_entry_eq]
  generalize (lg_sl ([.ref h, .int (nI en)]) ++ List.replicate (2 - (lg_sl ([.ref h, .int (nI en)])).length) Slot.unset).toArray = ls at hl ⊢
  have hl : lv_has ls 2 [(0, .ref h), (1, .int (nI en))] := hl
  refine lv_aload_n hx hb d_Reader_finish_0 rfl (lv_at hl 0 rfl) ?_
  refine va_get (v := .int (wI w)) hx hb htb i_ListReader hown hK hP 0 rfl rfl 5 (by decide) (htb _ q3_68) (fun _ h9 => h9) rfl d_Reader_finish_1 ?_
  refine lv_if_ge (tgt := 23) hx hb d_Reader_finish_4 (by decide) (fun c4 => ?_) (fun c4 => ?_)
  · exact W.vret hx hb hr (fun t ht hW => ⟨⟨(pp, s0, w), rfl, rd_fin_1 (wI_s c4), by rw [ht]; exact hP, va_K.moved hW.alike hK, hD⟩, hS.F ht⟩) hS.2.2 d_Reader_finish_23
  · refine lv_aload_n hx hb d_Reader_finish_7 rfl (lv_at hl 0 rfl) ?_
    refine va_get (v := .int (nI pp)) hx hb htb i_ListReader hown hK hP 0 rfl rfl 3 (by decide) (htb _ q3_62) (fun _ h9 => h9) rfl d_Reader_finish_8 ?_
    refine lv_iload_n hx hb d_Reader_finish_11 rfl (lv_at hl 1 rfl) ?_
    refine lv_icmp_ge (tgt := 23) hx hb d_Reader_finish_12 (by decide) (fun c12 => ?_) (fun c12 => ?_)
    · exact W.vret hx hb hr (fun t ht hW => ⟨⟨(pp, s0, w), rfl, rd_fin_2 (by rw [nI_leI (by omega) (by omega)] at c12; omega), by rw [ht]; exact hP, va_K.moved hW.alike hK, hD⟩, hS.F ht⟩) hS.2.2 d_Reader_finish_23
    · refine lv_aload_n hx hb d_Reader_finish_15 rfl (lv_at hl 0 rfl) ?_
      refine lv_aload_n hx hb d_Reader_finish_16 rfl (lv_at hl 0 rfl) ?_
      refine va_get (v := .int (nI pp)) hx hb htb i_ListReader hown hK hP 0 rfl rfl 3 (by decide) (htb _ q3_62) (fun _ h9 => h9) rfl d_Reader_finish_17 ?_
      refine va_put (v := .int (nI pp)) (ty := .int) hx hb htb i_ListReader t_ListReader t_ListReader_ok n_ListReader hown hK hP hD hS 0 rfl rfl 5 (by decide) (htb _ q3_68) (fun _ h9 => h9) rfl (by decide +kernel) rfl rfl (Nat.le_of_ble_eq_true rfl) d_Reader_finish_20 (fun H20 locs hP hD hS => ?_)
      have hP : va_P (dC, dI) classes [(h, .inr (5, [.ref res, .int ie, .ref t, .int (nI pp), .int (nI s0), .int (nI pp), .int pa, .int ma, .int ex, .ref ki]))] H20 := hP
      have hD : va_D A [(h, .inr (5, [.ref res, .int ie, .ref t, .int (nI pp), .int (nI s0), .int (nI pp), .int pa, .int ma, .int ex, .ref ki]))] := hD
      exact W.vret hx hb hr (fun t ht hW => ⟨⟨(pp, s0, some pp), rfl, rd_fin_3 (wI_n hw c4) (by rw [nI_leI (by omega) (by omega)] at c12; omega), by rw [ht]; exact hP, va_K.moved hW.alike hK, hD⟩, hS.F ht⟩) hS.2.2 d_Reader_finish_23
set_option maxHeartbeats 4000000 in
set_option maxRecDepth 100000 in
theorem cL_leave (l : Launch) (dC : Nat → ClassId) (dI : Nat → Nat → Nat) (sb : sB) (h res t ki : Nat) (pp s0 n : Nat) (w : Option Nat) (pa ma ex ie : Int32) (cB : ClassId) (u : Nat → Nat) (en : Nat) (bv : Int32) (sz : Nat) (hw : ∀ k, w = some k → k < 2 ^ 31) : Met l y_Reader_leave w_Reader_leave ({ frames := 0, cells := 0, slots := 0, locals := 0 }) (mu_P [.ref h, .int (nI en), .int bv] (dC, dI) sb [(h, .inr (5, [.ref res, .int ie, .ref t, .int (nI pp), .int (nI s0), .int (wI w), .int pa, .int ma, .int ex, .ref ki]))] [] sz) (va_Qv (fun (u : rS) => u = rd_lea (pp, s0, w) en bv) (mu_B (dC, dI) [] (va_A [(h, .inr (5, [.ref res, .int ie, .ref t, .int (nI pp), .int (nI s0), .int (wI w), .int pa, .int ma, .int ex, .ref ki]))] sz) (fun u' : rS => [(h, .inr (5, [.ref res, .int ie, .ref t, .int (nI u'.1), .int (nI u'.2.1), .int (wI u'.2.2), .int pa, .int ma, .int ex, .ref ki]))])) (va_A [(h, .inr (5, [.ref res, .int ie, .ref t, .int (nI pp), .int (nI s0), .int (wI w), .int pa, .int ma, .int ex, .ref ki]))] sz)) 0 0 (va_A [(h, .inr (5, [.ref res, .int ie, .ref t, .int (nI pp), .int (nI s0), .int (wI w), .int pa, .int ma, .int ex, .ref ki]))] sz) := by
  refine Met.ofW (cc := b_Reader_leave) (maxL := 3) (ret := none) (by decide) rfl ?_
  intro p e s m args below meth c s₁ B hml hv
  obtain ⟨rfl, hsz, hB0, hP, hK, hD0, hN, hT0⟩ := hv
  have hx := B.exec
  have hb := B.bytes
  have hr := B.returns
  have hts := atoms_spec (ws := w_Reader_leave) B.pre
  have tbin : ∀ w ∈ tb, w ∈ w_Reader_leave := fun w h => List.mem_cons_of_mem _ h
  have htb : ∀ w ∈ tb, w.before _ s = true := fun w h => hts w (tbin w h)
  have hown : s.vm.findClass "TrustChain$Reader" = some m.cls := findClass_of_methodNamed B.named
  have hlocks := B.notSynchronized
  subst hsz
  have hD := hD0.self (sz := s.heap.size)
  generalize hAe : va_A [(h, .inr (5, [.ref res, .int ie, .ref t, .int (nI pp), .int (nI s0), .int (wI w), .int pa, .int ma, .int ex, .ref ki]))] s.heap.size = A at hD ⊢
  have hA : ∀ q : Nat, s.heap.size ≤ q → A q := fun q h => by rw [← hAe]; exact Or.inr h
  have hAs : ∀ q : Nat, A q → sb.1 ≤ q := fun q h => by
    rw [← hAe] at h
    rcases h with ⟨k, e, h⟩ | h
    · exact hD0.2 k _ h
    · exact Nat.le_trans hB0 h
  have hS : va_S A s.heap s.heap [] := va_S.rf
  have hcs : 0 ≤ (headSpec w_Reader_leave ({ frames := 0, cells := 0, slots := 0, locals := 0 })).room.cells ∧ 0 ≤ (headSpec w_Reader_leave ({ frames := 0, cells := 0, slots := 0, locals := 0 })).room.slots := ⟨Nat.le_refl _, Nat.le_refl _⟩
  have hP : va_P (dC, dI) classes [(h, .inr (5, [.ref res, .int ie, .ref t, .int (nI pp), .int (nI s0), .int (wI w), .int pa, .int ma, .int ex, .ref ki]))] s.heap := hP
  have hl := lv_entry ([.ref h, .int (nI en), .int bv]) (n := 3) (Nat.le_of_ble_eq_true rfl)
  rw [lg_entry_eq]
  generalize (lg_sl ([.ref h, .int (nI en), .int bv]) ++ List.replicate (3 - (lg_sl ([.ref h, .int (nI en), .int bv])).length) Slot.unset).toArray = ls at hl ⊢
  have hl : lv_has ls 3 [(0, .ref h), (1, .int (nI en)), (2, .int bv)] := hl
  refine lv_aload_n hx hb d_Reader_leave_0 rfl (lv_at hl 0 rfl) ?_
  refine va_get (v := .int (wI w)) hx hb htb i_ListReader hown hK hP 0 rfl rfl 5 (by decide) (htb _ q3_68) (fun _ h9 => h9) rfl d_Reader_leave_1 ?_
  refine lv_if_lt (tgt := 8) hx hb d_Reader_leave_4 (by decide) (fun c4 => ?_) (fun c4 => ?_)
  · refine lv_iload_n hx hb d_Reader_leave_8 rfl (lv_at hl 2 rfl) ?_
    refine lv_if_eq (tgt := 20) hx hb d_Reader_leave_9 (by decide) (fun c9 => ?_) (fun c9 => ?_)
    · refine lv_aload_n hx hb d_Reader_leave_20 rfl (lv_at hl 0 rfl) ?_
      refine lv_aload_n hx hb d_Reader_leave_21 rfl (lv_at hl 0 rfl) ?_
      refine va_get (v := .int (nI s0)) hx hb htb i_ListReader hown hK hP 0 rfl rfl 4 (by decide) (htb _ q3_67) (fun _ h9 => h9) rfl d_Reader_leave_22 ?_
      refine va_put (v := .int (nI s0)) (ty := .int) hx hb htb i_ListReader t_ListReader t_ListReader_ok n_ListReader hown hK hP hD hS 0 rfl rfl 5 (by decide) (htb _ q3_68) (fun _ h9 => h9) rfl (by decide +kernel) rfl rfl (Nat.le_of_ble_eq_true rfl) d_Reader_leave_25 (fun H25 locs hP hD hS => ?_)
      have hP : va_P (dC, dI) classes [(h, .inr (5, [.ref res, .int ie, .ref t, .int (nI pp), .int (nI s0), .int (nI s0), .int pa, .int ma, .int ex, .ref ki]))] H25 := hP
      have hD : va_D A [(h, .inr (5, [.ref res, .int ie, .ref t, .int (nI pp), .int (nI s0), .int (nI s0), .int pa, .int ma, .int ex, .ref ki]))] := hD
      exact W.vret hx hb hr (fun t ht hW => ⟨⟨(pp, s0, some s0), rfl, rd_lea_2 (wI_n' hw c4) c9, by rw [ht]; exact hP, va_K.moved hW.alike hK, hD⟩, hS.F ht⟩) hS.2.2 d_Reader_leave_28
    · refine lv_aload_n hx hb d_Reader_leave_12 rfl (lv_at hl 0 rfl) ?_
      refine lv_iload_n hx hb d_Reader_leave_13 rfl (lv_at hl 1 rfl) ?_
      refine va_put (v := .int (nI en)) (ty := .int) hx hb htb i_ListReader t_ListReader t_ListReader_ok n_ListReader hown hK hP hD hS 0 rfl rfl 3 (by decide) (htb _ q3_62) (fun _ h9 => h9) rfl (by decide +kernel) rfl rfl (Nat.le_of_ble_eq_true rfl) d_Reader_leave_14 (fun H14 locs hP hD hS => ?_)
      have hP : va_P (dC, dI) classes [(h, .inr (5, [.ref res, .int ie, .ref t, .int (nI en), .int (nI s0), .int (wI w), .int pa, .int ma, .int ex, .ref ki]))] H14 := hP
      have hD : va_D A [(h, .inr (5, [.ref res, .int ie, .ref t, .int (nI en), .int (nI s0), .int (wI w), .int pa, .int ma, .int ex, .ref ki]))] := hD
      refine lv_goto (tgt := 28) hx hb d_Reader_leave_17 (by decide) ?_
      exact W.vret hx hb hr (fun t ht hW => ⟨⟨(en, s0, w), rfl, rd_lea_3 (wI_n' hw c4) c9, by rw [ht]; exact hP, va_K.moved hW.alike hK, hD⟩, hS.F ht⟩) hS.2.2 d_Reader_leave_28
  · exact W.vret hx hb hr (fun t ht hW => ⟨⟨(pp, s0, w), rfl, rd_lea_1 (wI_s' c4), by rw [ht]; exact hP, va_K.moved hW.alike hK, hD⟩, hS.F ht⟩) hS.2.2 d_Reader_leave_7
