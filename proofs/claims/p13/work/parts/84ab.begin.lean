/-! Search.begin. -/
def y_Search_begin : MethodName := ⟨"TrustChain$Search", "begin", "(Ljava/util/ArrayList;LTrustChain$Certificate;I)Z"⟩
abbrev b_Search_begin : ByteArray := prog_10_method_2_code
def w_Search_begin : List Cond := Cond.code y_Search_begin b_Search_begin 4 ((some FieldType.boolean)) :: tb
theorem d_Search_begin_0 : decode b_Search_begin 0 = .ok (.aload_n 0, 1) := by decide +kernel
theorem d_Search_begin_1 : decode b_Search_begin 1 = .ok (.getfield 12, 3) := by decide +kernel
theorem d_Search_begin_4 : decode b_Search_begin 4 = .ok (.invokevirtual 32, 3) := by decide +kernel
theorem d_Search_begin_7 : decode b_Search_begin 7 = .ok (.aload_n 0, 1) := by decide +kernel
theorem d_Search_begin_8 : decode b_Search_begin 8 = .ok (.iconst 0, 1) := by decide +kernel
theorem d_Search_begin_9 : decode b_Search_begin 9 = .ok (.putfield 29, 3) := by decide +kernel
theorem d_Search_begin_12 : decode b_Search_begin 12 = .ok (.aload_n 0, 1) := by decide +kernel
theorem d_Search_begin_13 : decode b_Search_begin 13 = .ok (.iload_n 3, 1) := by decide +kernel
theorem d_Search_begin_14 : decode b_Search_begin 14 = .ok (.bipush 16, 2) := by decide +kernel
theorem d_Search_begin_16 : decode b_Search_begin 16 = .ok (.invokestatic 35, 3) := by decide +kernel
theorem d_Search_begin_19 : decode b_Search_begin 19 = .ok (.putfield 22, 3) := by decide +kernel
theorem d_Search_begin_22 : decode b_Search_begin 22 = .ok (.aload_n 0, 1) := by decide +kernel
theorem d_Search_begin_23 : decode b_Search_begin 23 = .ok (.iconst 0, 1) := by decide +kernel
theorem d_Search_begin_24 : decode b_Search_begin 24 = .ok (.putfield 26, 3) := by decide +kernel
theorem d_Search_begin_27 : decode b_Search_begin 27 = .ok (.aload_n 0, 1) := by decide +kernel
theorem d_Search_begin_28 : decode b_Search_begin 28 = .ok (.aload_n 2, 1) := by decide +kernel
theorem d_Search_begin_29 : decode b_Search_begin 29 = .ok (.invokevirtual 41, 3) := by decide +kernel
theorem d_Search_begin_32 : decode b_Search_begin 32 = .ok (.aload_n 2, 1) := by decide +kernel
theorem d_Search_begin_33 : decode b_Search_begin 33 = .ok (.getfield 45, 3) := by decide +kernel
theorem d_Search_begin_36 : decode b_Search_begin 36 = .ok (.ifCond .ne 11, 3) := by decide +kernel
theorem d_Search_begin_39 : decode b_Search_begin 39 = .ok (.aload_n 0, 1) := by decide +kernel
theorem d_Search_begin_40 : decode b_Search_begin 40 = .ok (.aload_n 1, 1) := by decide +kernel
theorem d_Search_begin_41 : decode b_Search_begin 41 = .ok (.invokevirtual 51, 3) := by decide +kernel
theorem d_Search_begin_44 : decode b_Search_begin 44 = .ok (.ifCond .eq 7, 3) := by decide +kernel
theorem d_Search_begin_47 : decode b_Search_begin 47 = .ok (.iconst 1, 1) := by decide +kernel
theorem d_Search_begin_48 : decode b_Search_begin 48 = .ok (.goto 4, 3) := by decide +kernel
theorem d_Search_begin_51 : decode b_Search_begin 51 = .ok (.iconst 0, 1) := by decide +kernel
theorem d_Search_begin_52 : decode b_Search_begin 52 = .ok (.ireturn, 1) := by decide +kernel
set_option maxHeartbeats 4000000 in
set_option maxRecDepth 100000 in
theorem m_Search_begin (l : Launch) (dC : Nat → ClassId) (dI : Nat → Nat → Nat) (sb : sB) (γ : cG) (κ : kE) (Ad : List Nat) (ν : Nat → cN) (ω : Nat → List Nat) (L : Nat) (G : va_W) (h cs c9 pl : Nat) (nx : Nat) (p1 p2 : Nat) (νb : Nat → cN) (ωb : Nat → List Nat) (fo : Nat → Nat → Prop) (tr : Nat → Prop) (D t0 : Nat) (o : alD) (as : List Nat) (sz : Nat) (sl : Nat) (hTy : TY γ κ Ad ν ω L G) (kh : tK κ Ad h (13, pl, 0)) (kcs : tK κ Ad cs (15, (sb.2 5), 0)) (kc9 : tK κ Ad c9 (8, p1, p2)) (kpl : PLx γ sb κ Ad 8 pl o as G) (hnx : nx = (ω h).getD 0 0) (hNL : ∀ a, (κ a).1 = 6 → ∀ b, b ∈ Ad → (κ b).1 = 14 ∨ (κ b).1 = 16 → (κ b).2.2 ≠ a) (hcs9 : (ωb cs).length ≤ 16) (htr : ∀ k9, k9 < (ωb cs).length → (tr k9 ↔ ¬ (νb ((ωb cs).getD k9 0)).2.2.2.2.2.2.2.2.1 = 0)) (hnb : ∀ k9, k9 < (ωb cs).length → (νb ((ωb cs).getD k9 0)).2.2.2.2.2.2.2.2.2.2.2.2 = nI k9) (hbi : ∀ d9, d9 < (ωb cs).length → ∀ k9, k9 < 16 → (bJ (nI ((ωb ((ωb ((ωb cs).getD d9 0)).getD 12 0)).getD 1 0)) k9 = true ↔ k9 < (ωb cs).length ∧ fo d9 k9)) (hν0 : ∀ b, (κ b).1 = 8 → ν b = νb b) (hω0 : ∀ b, (κ b).1 ≠ 6 → ω b = ωb b) (hdp1 : 1 ≤ D) (hdp2 : D ≤ 16) (ht9 : t0 < (ωb cs).length) (hc9 : c9 = (ωb cs).getD t0 0) : Met l y_Search_begin w_Search_begin ({ frames := 11, cells := (fC o), slots := (fS o), locals := 340 }) (mz_P sl [.ref h, .ref cs, .ref c9, .int (nI D)] (dC, dI) sb G [(γ.1, .byte), (γ.2.1, .int), (γ.2.2.1, .long), (γ.2.2.2, .object "java/lang/Object")] sz) (va_Qi (fun r (u' : va_W × alD × List Nat) => ∃ (ν' : Nat → cN) (ω' : Nat → List Nat), (∀ b, b ≠ h → ν' b = ν b) ∧ (True) ∧ (∀ b, b ≠ nx → ω' b = ω b) ∧ (True) ∧ TY γ κ Ad ν' ω' L u'.1 ∧ PLx γ sb κ Ad 8 pl u'.2.1 u'.2.2 u'.1 ∧ FRs γ Ad pl G u'.1 ∧ (∃ (σ' : List (Nat × Nat)) (p' : Nat) (op' : Int32), ν' h = mkS (ν h) (nI D) (nI p') op' ∧ SX (fun k9 => (ωb cs).getD k9 0) (ωb cs).length D (fun j9 => (ω' nx).getD j9 0) op' u'.2.2 σ' p' ∧ ((r = 1 ∧ 1 ≤ p' ∧ 1 ≤ p' ∧ (∃ k9 τ, σ' = (k9, 0) :: τ) ∧ (∀ fl9 t9, gR (ωb cs).length fo tr fl9 (D - 1) [t0] (1, t9) = thn (sJ fl9 (σ'.map Prod.fst) (p', t9)) (ctR (ωb cs).length D fo tr fl9 σ'))) ∨ (r = 0 ∧ σ' = [] ∧ (∀ fl9 t9, gR (ωb cs).length fo tr fl9 (D - 1) [t0] (1, t9) = (false, (p', t9))))) ∧ fC u'.2.1 ≤ fC o ∧ fS u'.2.1 ≤ fS o)) (mz_B (dC, dI) [(γ.1, .byte), (γ.2.1, .int), (γ.2.2.1, .long), (γ.2.2.2, .object "java/lang/Object")] G sz sl o) (va_A G sz)) (fC o) (fS o) (va_A G sz) := by
  refine Met.ofW (cc := b_Search_begin) (maxL := 4) (ret := (some FieldType.boolean)) (by decide) rfl ?_
  intro p e s m args below meth c s₁ B hml hv
  obtain ⟨⟨rfl, hsz, hB0, hP, hK, hD0, hN, hT0⟩, hsl⟩ := hv
  have hx := B.exec
  have hb := B.bytes
  have hr := B.returns
  have hts := atoms_spec (ws := w_Search_begin) B.pre
  have tbin : ∀ w ∈ tb, w ∈ w_Search_begin := fun w h => List.mem_cons_of_mem _ h
  have htb : ∀ w ∈ tb, w.before _ s = true := fun w h => hts w (tbin w h)
  have hown : s.vm.findClass "TrustChain$Search" = some m.cls := findClass_of_methodNamed B.named
  have hlocks := B.notSynchronized
  subst hsz
  have hD := hD0.self (sz := s.heap.size)
  subst hsl
  unfold mz_B
  generalize hAe : va_A G s.heap.size = A at hD ⊢
  have hA : ∀ q : Nat, s.heap.size ≤ q → A q := fun q h => by rw [← hAe]; exact Or.inr h
  have hAs : ∀ q : Nat, A q → sb.1 ≤ q := fun q h => by
    rw [← hAe] at h
    rcases h with ⟨k, e, h⟩ | h
    · exact hD0.2 k _ h
    · exact Nat.le_trans hB0 h
  have hS : va_S A s.heap s.heap [] := va_S.rf
  have hFR := FRs.rf γ Ad pl G
  have hcs : (fC o) ≤ (headSpec w_Search_begin ({ frames := 11, cells := (fC o), slots := (fS o), locals := 340 })).room.cells ∧ (fS o) ≤ (headSpec w_Search_begin ({ frames := 11, cells := (fC o), slots := (fS o), locals := 340 })).room.slots := ⟨Nat.le_refl _, Nat.le_refl _⟩
  have hP : va_P (dC, dI) classes G s.heap := hP
  have hl := lv_entry ([.ref h, .ref cs, .ref c9, .int (nI D)]) (n := 4) (Nat.le_of_ble_eq_true rfl)
  rw [lg_entry_eq]
  generalize (lg_sl ([.ref h, .ref cs, .ref c9, .int (nI D)]) ++ List.replicate (4 - (lg_sl ([.ref h, .ref cs, .ref c9, .int (nI D)])).length) Slot.unset).toArray = ls at hl ⊢
  have hl : lv_has ls 4 [(0, .ref h), (1, .ref cs), (2, .ref c9), (3, .int (nI D))] := hl
  have hTy0 := hTy
  have hhn9 : h ≠ nx := sx_ne hTy kh hnx
  refine lv_aload_n hx hb d_Search_begin_0 rfl (lv_at hl 0 rfl) ?_
  obtain ⟨i_1, nx_1, ⟨knx_1, enx_1⟩, hg_1⟩ := ty_13 hTy kh
  have enk_1 : nx = (ω h).getD 0 0 := hnx
  obtain rfl : nx = nx_1 := enk_1.trans enx_1.symm
  have hg_1 : G[i_1]? = some (h, .inr (8, [.ref pl, .ref nx, .int ((ν h).1), .int ((ν h).2.1), .int ((ν h).2.2.1)])) := hg_1
  refine va_get (v := .ref pl) hx hb htb i_Search hown hK hP i_1 hg_1 rfl 0 (by decide) (htb _ q1_119) (fun _ h9 => h9) rfl d_Search_begin_1 ?_
  obtain ⟨m4, R4, hp4⟩ := pl_split kpl
  have hP := hP.perm hp4
  have hD := hD.perm hp4
  refine al_clear (own := "TrustChain$Search") pl as.length m4 γ.2.2.2 o ⟨hx, hb, hml, hown, hts⟩ tbin q6_7 hN (hT0.keep hS hAs) hAs (Nat.le_trans hB0 hS.1) hA hK 3 rfl hP hD hS kpl.2.2.2.1 (Nat.le_of_ble_eq_true rfl) (Nat.le_of_ble_eq_true rfl) (by omega) (by omega) hl.1 (Nat.le_of_ble_eq_true rfl) d_Search_begin_4 (fun o4 n4 H4 locs hi4 hk4 hP hD hS => ?_)
  obtain ⟨hTy, kpl, hF9⟩ := pl_new (as' := ([] : List Nat)) (z' := 0) hTy kpl hp4 rfl hD hi4 (by omega) (fun i h => absurd h (Nat.not_lt_zero i)) (fun i h => absurd h (Nat.not_lt_zero i))
  have hFR := hFR.tr hF9
  clear hF9
  have hD : va_D A ((pl, .inr (11, [.ref (alO sb o4), .int (nI 0), .int n4])) :: (alC γ.2.2.2 o4 ++ R4)) := hD
  have hP : va_P (dC, dI) classes ((pl, .inr (11, [.ref (alO sb o4), .int (nI 0), .int n4])) :: (alC γ.2.2.2 o4 ++ R4)) H4 := hP
  generalize ((pl, .inr (11, [.ref (alO sb o4), .int (nI 0), .int n4])) :: (alC γ.2.2.2 o4 ++ R4) : va_W) = G_2 at hP hD hTy hFR kpl
  obtain ⟨as4, ea4⟩ : ∃ z, z = ([] : List Nat) := ⟨_, rfl⟩
  rw [← ea4] at kpl
  have hla4 : as4.length = 0 := by rw [ea4]; rfl
  have hfk := fC_at hk4
  have hpl9 := pC_le kpl.2.2.2.1
  have kpl0 := kpl
  have hnk := sx_nk hTy0 kh hnx
  have hcn9 : cs ≠ nx := q_nek kcs hnk (by simp)
  refine lv_aload_n hx hb d_Search_begin_7 rfl (lv_at hl 0 rfl) ?_
  refine lv_iconst (v := 0) hx hb d_Search_begin_8 (by decide) ?_
  obtain ⟨i_3, nx_3, ⟨knx_3, enx_3⟩, hg_3⟩ := ty_13 hTy kh
  have enk_3 : nx = (ω h).getD 0 0 := hnx
  obtain rfl : nx = nx_3 := enk_3.trans enx_3.symm
  have hg_3 : G_2[i_3]? = some (h, .inr (8, [.ref pl, .ref nx, .int ((ν h).1), .int ((ν h).2.1), .int ((ν h).2.2.1)])) := hg_3
  refine va_put (v := .int 0) (ty := .int) hx hb htb i_Search t_Search t_Search_ok n_Search hown hK hP hD hS i_3 hg_3 rfl 4 (by decide) (htb _ q1_124) (fun _ h9 => h9) rfl (by decide +kernel) rfl rfl (Nat.le_of_ble_eq_true rfl) d_Search_begin_9 (fun H9 locs hP hD2 hS => ?_)
  have hP : va_P (dC, dI) classes (G_2.set i_3 (h, .inr (8, [.ref pl, .ref nx, .int ((ν h).1), .int ((ν h).2.1), .int 0]))) H9 := hP
  have hD3 : va_D A (G_2.set i_3 (h, .inr (8, [.ref pl, .ref nx, .int ((ν h).1), .int ((ν h).2.1), .int 0]))) := hD2
  obtain ⟨ν9_4, hν9_4, eν9_4⟩ : ∃ z : Nat → cN, (∀ b, b ≠ h → z b = ν b) ∧ z h = mkS (ν h) ((ν h).1) ((ν h).2.1) (0 : Int32) := ⟨nuR0 ν h (mkS (ν h) ((ν h).1) ((ν h).2.1) (0 : Int32)), fun b hb => if_neg hb, if_pos rfl⟩
  have hF1 := FR.set (c' := .inr (8, [.ref pl, .ref nx, .int ((ν h).1), .int ((ν h).2.1), .int 0])) hg_3 kh.1
  have kpl := kpl.fr hF1
  have hFR := hFR.tr hF1.s
  clear hF1
  have hTy := q_setnu (ν' := ν9_4) (c' := .inr (8, [.ref pl, .ref nx, .int ((ν h).1), .int ((ν h).2.1), .int 0])) hTy hD hg_3 hν9_4 (ok_13 kh knx_3 enk_3 (by rw [eν9_4]; rfl) (by rw [eν9_4]; rfl) (by rw [eν9_4]; rfl))
  have hD := hD3
  have hNν9_4 : ∀ b, b ≠ h → ν9_4 b = ν b := fun b hb => hν9_4 b hb
  clear hD3 hD2
  generalize G_2.set i_3 (h, .inr (8, [.ref pl, .ref nx, .int ((ν h).1), .int ((ν h).2.1), .int 0])) = G_4 at hP hD hTy hFR kpl 
  refine lv_aload_n hx hb d_Search_begin_12 rfl (lv_at hl 0 rfl) ?_
  refine lv_iload_n hx hb d_Search_begin_13 rfl (lv_at hl 3 rfl) ?_
  refine lv_bipush (v := 16) hx hb d_Search_begin_14 (by decide) ?_
  refine va_mmin hx hb (by rw [hml]; exact hl.1.symm) hown (htb _ q6_8) (htb _ q2_75) (htb _ q1_18) (htb _ q2_76) (Nat.le_of_ble_eq_true rfl) (Nat.le_of_ble_eq_true rfl) ((by omega)) ((by omega)) d_Search_begin_16 ?_
  refine lv_topi (fun r16 hr16 => ?_)
  rw [if_neg (by rw [show (16 : Int32) = nI 16 from rfl, nI_ltI (by omega) (by omega)]; omega)] at hr16
  subst hr16
  obtain ⟨i_5, nx_5, ⟨knx_5, enx_5⟩, hg_5⟩ := ty_13 hTy kh
  have enk_5 : nx = (ω h).getD 0 0 := hnx
  obtain rfl : nx = nx_5 := enk_5.trans enx_5.symm
  rw [eν9_4] at hg_5
  have hg_5 : G_4[i_5]? = some (h, .inr (8, [.ref pl, .ref nx, .int ((ν h).1), .int ((ν h).2.1), .int 0])) := hg_5
  refine va_put (v := .int (nI D)) (ty := .int) hx hb htb i_Search t_Search t_Search_ok n_Search hown hK hP hD hS i_5 hg_5 rfl 2 (by decide) (htb _ q1_122) (fun _ h9 => h9) rfl (by decide +kernel) rfl rfl (Nat.le_of_ble_eq_true rfl) d_Search_begin_19 (fun H19 locs hP hD2 hS => ?_)
  have hP : va_P (dC, dI) classes (G_4.set i_5 (h, .inr (8, [.ref pl, .ref nx, .int (nI D), .int ((ν h).2.1), .int 0]))) H19 := hP
  have hD3 : va_D A (G_4.set i_5 (h, .inr (8, [.ref pl, .ref nx, .int (nI D), .int ((ν h).2.1), .int 0]))) := hD2
  obtain ⟨ν19_6, hν19_6, eν19_6⟩ : ∃ z : Nat → cN, (∀ b, b ≠ h → z b = ν9_4 b) ∧ z h = mkS (ν h) (nI D) ((ν h).2.1) (0 : Int32) := ⟨nuR0 ν9_4 h (mkS (ν h) (nI D) ((ν h).2.1) (0 : Int32)), fun b hb => if_neg hb, if_pos rfl⟩
  have hF1 := FR.set (c' := .inr (8, [.ref pl, .ref nx, .int (nI D), .int ((ν h).2.1), .int 0])) hg_5 kh.1
  have kpl := kpl.fr hF1
  have hFR := hFR.tr hF1.s
  clear hF1
  have hTy := q_setnu (ν' := ν19_6) (c' := .inr (8, [.ref pl, .ref nx, .int (nI D), .int ((ν h).2.1), .int 0])) hTy hD hg_5 hν19_6 (ok_13 kh knx_5 enk_5 (by rw [eν19_6]; rfl) (by rw [eν19_6]; rfl) (by rw [eν19_6]; rfl))
  have hD := hD3
  have hNν19_6 : ∀ b, b ≠ h → ν19_6 b = ν b := fun b hb => (hν19_6 b hb).trans (hNν9_4 b hb)
  clear hD3 hD2
  generalize G_4.set i_5 (h, .inr (8, [.ref pl, .ref nx, .int (nI D), .int ((ν h).2.1), .int 0])) = G_6 at hP hD hTy hFR kpl 
  refine lv_aload_n hx hb d_Search_begin_22 rfl (lv_at hl 0 rfl) ?_
  refine lv_iconst (v := 0) hx hb d_Search_begin_23 (by decide) ?_
  obtain ⟨i_7, nx_7, ⟨knx_7, enx_7⟩, hg_7⟩ := ty_13 hTy kh
  have enk_7 : nx = (ω h).getD 0 0 := hnx
  obtain rfl : nx = nx_7 := enk_7.trans enx_7.symm
  rw [eν19_6] at hg_7
  have hg_7 : G_6[i_7]? = some (h, .inr (8, [.ref pl, .ref nx, .int (nI D), .int ((ν h).2.1), .int 0])) := hg_7
  refine va_put (v := .int 0) (ty := .int) hx hb htb i_Search t_Search t_Search_ok n_Search hown hK hP hD hS i_7 hg_7 rfl 3 (by decide) (htb _ q1_123) (fun _ h9 => h9) rfl (by decide +kernel) rfl rfl (Nat.le_of_ble_eq_true rfl) d_Search_begin_24 (fun H24 locs hP hD2 hS => ?_)
  have hP : va_P (dC, dI) classes (G_6.set i_7 (h, .inr (8, [.ref pl, .ref nx, .int (nI D), .int 0, .int 0]))) H24 := hP
  have hD3 : va_D A (G_6.set i_7 (h, .inr (8, [.ref pl, .ref nx, .int (nI D), .int 0, .int 0]))) := hD2
  obtain ⟨ν24_8, hν24_8, eν24_8⟩ : ∃ z : Nat → cN, (∀ b, b ≠ h → z b = ν19_6 b) ∧ z h = mkS (ν h) (nI D) (0 : Int32) (0 : Int32) := ⟨nuR0 ν19_6 h (mkS (ν h) (nI D) (0 : Int32) (0 : Int32)), fun b hb => if_neg hb, if_pos rfl⟩
  have hF1 := FR.set (c' := .inr (8, [.ref pl, .ref nx, .int (nI D), .int 0, .int 0])) hg_7 kh.1
  have kpl := kpl.fr hF1
  have hFR := hFR.tr hF1.s
  clear hF1
  have hTy := q_setnu (ν' := ν24_8) (c' := .inr (8, [.ref pl, .ref nx, .int (nI D), .int 0, .int 0])) hTy hD hg_7 hν24_8 (ok_13 kh knx_7 enk_7 (by rw [eν24_8]; rfl) (by rw [eν24_8]; rfl) (by rw [eν24_8]; rfl))
  have hD := hD3
  have hNν24_8 : ∀ b, b ≠ h → ν24_8 b = ν b := fun b hb => (hν24_8 b hb).trans (hNν19_6 b hb)
  clear hD3 hD2
  generalize G_6.set i_7 (h, .inr (8, [.ref pl, .ref nx, .int (nI D), .int 0, .int 0])) = G_8 at hP hD hTy hFR kpl 
  refine lv_aload_n hx hb d_Search_begin_27 rfl (lv_at hl 0 rfl) ?_
  refine lv_aload_n hx hb d_Search_begin_28 rfl (lv_at hl 2 rfl) ?_
  obtain ⟨i_10, nx_10, ⟨knx_10, enx_10⟩, hg_10⟩ := ty_13 hTy kh
  have enk_10 : nx = (ω h).getD 0 0 := hnx
  obtain rfl : nx = nx_10 := enk_10.trans enx_10.symm
  rw [eν24_8] at hg_10
  have hg_10 : G_8[i_10]? = some (h, .inr (8, [.ref pl, .ref nx, .int (nI D), .int 0, .int 0])) := hg_10
  have hFc := va_free (wc := G_8) hD hS hA (List.range G_8.length) (rg_is _)
  refine va_callv (mu_runV (As := [.ref c9]) (rest := []) ⟨hx, hb, hml, hown, hts⟩ tbin (m_Search_put l dC dI sb γ κ Ad ν24_8 ω L G_8 h c9 pl nx _ _ o4 as4 H24.size hTy kh kc9 kpl enk_10 hNL (by rw [hla4]; omega)) q6_9 q6_11 qp_27 q1_7 q6_12 (n := 1) (by decide +kernel) rfl ⟨rfl, rfl⟩ ⟨Nat.le_of_ble_eq_true rfl, Nat.le_of_ble_eq_true rfl⟩ ⟨(by omega), (by omega)⟩ hN (hT0.keep hS hAs) hAs (Nat.le_trans hB0 hS.1) hK hP hD (List.range G_8.length) (rg_nd _) (rg_is _) [0, 1, 2, 3] rfl i_10 8 hg_10 rfl rfl hl.1 rfl (Nat.le_of_ble_eq_true rfl) d_Search_begin_29) hS (fun q _ h => hFc q h) hFc (fun u29 tS H29 locs ht hvm hw29 hB hz1 hk1 hS => ?_)
  obtain ⟨G_9, o29, as29⟩ := u29
  obtain ⟨ν29_10, ω29_10, hν29_10, eν29_10, hω29_10, eω29_10, hTy, kpl, hF9, hr29⟩ := hw29
  dsimp only at hTy kpl hF9 hr29
  have hNν29_10 : ∀ b, b ≠ h → ν29_10 b = ν b := fun b hb => (hν29_10 b hb).trans (hNν24_8 b hb)
  have hWω29_10 : ∀ b, b ≠ nx → ω29_10 b = ω b := fun b hb => hω29_10 b hb
  have hFR := hFR.tr hF9
  obtain ⟨hP1, hK1, hD1⟩ := hB
  rw [ht] at hP1
  have hP : va_P (dC, dI) classes G_9 H29 := hP1
  have hD : va_D A G_9 := hD1.weaken (fun _ _ _ h => hFc _ h)
  obtain ⟨hk29, ea29⟩ := hr29
  rw [hla4] at hk29
  subst ea4
  subst ea29
  have hfc29 := pC_pay (z := 0) kpl0.2.2.2.1 hk29
  have hpc0 : pC o4 ([] : List Nat).length = pC o4 0 := rfl
  have hps0 : pS o4 ([] : List Nat).length = pS o4 0 := rfl
  have eq29 : ν29_10 h = mkS (ν h) (nI D) (nI 1) (0 ||| ((1 : Int32) <<< (nI t0 &&& 31))) := by rw [eν29_10, hNν24_8 _ (q_nek kc9 kh (by simp)), hν0 _ (by rw [kc9.2]), hc9, hnb t0 ht9, eν24_8]; rfl
  have hS3 : SX (fun k9 => (ωb cs).getD k9 0) (ωb cs).length D (fun j9 => (ω29_10 nx).getD j9 0) (0 ||| ((1 : Int32) <<< (nI t0 &&& 31))) ([] ++ [c9]) [(t0, 0)] 1 := by rw [hc9]; exact SX.one ht9 hcs9 (by rw [eω29_10, setL_at (by omega)]; rfl) hdp1 hdp2
  have hS3b : SX (fun k9 => (ωb cs).getD k9 0) (ωb cs).length D (fun j9 => (ω29_10 nx).getD j9 0) (ν29_10 h).2.2.1 ([] ++ [c9]) [(t0, 0)] 1 := by rw [eq29]; exact hS3
  refine lv_aload_n hx hb d_Search_begin_32 rfl (lv_at hl 2 rfl) ?_
  obtain ⟨i_11, bo_11, K_11, B_11, kbo_11, wl_11, hg_11⟩ := ty_8x hTy kc9
  obtain ⟨⟨A_11, knm_11⟩, kpe_11, kec_11, kse_11, ksu_11, kmo_11, kok_11, kik_11, kha_11, ksi_11, ken_11, ksg_11, kis_11⟩ := K_11
  have knm_11 := tK.fiv ⟨_, _, knm_11⟩
  have kpe_11 := tK.fiv kpe_11
  have kec_11 := tK.fiv kec_11
  have ksu_11 := tK.two ksu_11
  have kmo_11 := tK.two kmo_11
  have kok_11 := tK.two kok_11
  have kik_11 := tK.two kik_11
  have ksg_11 := tK.two ksg_11
  have kis_11 := tK.two kis_11
  rw [show ν29_10 c9 = ν c9 from hNν29_10 _ (q_nek kc9 kh (by simp))] at hg_11 B_11
  refine va_get (v := .int ((ν c9).2.2.2.2.2.2.2.2.1)) hx hb htb i_Certificate hown hK hP i_11 hg_11 rfl 16 (by decide) (htb _ q2_183) (fun _ h9 => h9) rfl d_Search_begin_33 ?_
  refine lv_if_ne (tgt := 47) hx hb d_Search_begin_36 (by decide) (fun c36 => ?_) (fun c36 => ?_)
  · have p36 : ¬ (((ν c9).2.2.2.2.2.2.2.2.1) = (0 : Int32)) := c36
    refine lv_iconst (v := 1) hx hb d_Search_begin_47 (by decide) ?_
    refine lv_goto (tgt := 52) hx hb d_Search_begin_48 (by decide) ?_
    refine W.size (fun hz9 hy9 => ?_)
    refine W.widen (k := (fC o)) (n := (fS o)) (by omega) (by omega) ?_
    exact W.zret (v := 1) hx hb hr rfl (fun t ht hW => ⟨⟨_, (G_9, o29, ([] ++ [c9])), rfl, ⟨ν29_10, ω29_10, hNν29_10, trivial, hWω29_10, trivial, hTy, kpl, hFR, ⟨[(t0, 0)], 1, _, eq29, hS3, Or.inl ⟨rfl, Nat.le_refl _, Nat.le_refl _, ⟨_, _, rfl⟩, fun fl9 t9 => ct_tru ((htr t0 ht9).mpr (by rw [← hc9, ← hν0 _ (by rw [kc9.2])]; exact p36)) hdp1 _⟩, by show fC o29 ≤ fC o; omega, by show fS o29 ≤ fS o; omega⟩⟩, ⟨⟨by rw [ht]; exact hP, va_K.moved hW.alike hK, hD⟩, by rw [ht]; show H29.size + fC o29 ≤ _; omega, by rw [ht]; show slN H29 + fS o29 ≤ _; omega⟩⟩, hS.F ht⟩) hS.2.2 d_Search_begin_52
  · have p36 : ((ν c9).2.2.2.2.2.2.2.2.1) = (0 : Int32) := c36
    refine lv_aload_n hx hb d_Search_begin_39 rfl (lv_at hl 0 rfl) ?_
    refine lv_aload_n hx hb d_Search_begin_40 rfl (lv_at hl 1 rfl) ?_
    obtain ⟨i_13, nx_13, ⟨knx_13, enx_13⟩, hg_13⟩ := ty_13 hTy kh
    have enk_13 : nx = (ω29_10 h).getD 0 0 := by rw [hWω29_10 _ hhn9]; exact hnx
    obtain rfl : nx = nx_13 := enk_13.trans enx_13.symm
    rw [eq29] at hg_13
    have hg_13 : G_9[i_13]? = some (h, .inr (8, [.ref pl, .ref nx, .int (nI D), .int (nI 1), .int (0 ||| ((1 : Int32) <<< (nI t0 &&& 31)))])) := hg_13
    refine W.size (fun hzq41 hyq41 => ?_)
    have hFc := va_free (wc := G_9) hD hS hA (List.range G_9.length) (rg_is _)
    refine va_calli (mz_runV (As := [.ref cs]) (rest := []) ⟨hx, hb, hml, hown, hts⟩ tbin (m_Search_advance l dC dI sb γ κ Ad ν29_10 ω29_10 L G_9 h cs pl nx _ _ _ _ _ _ _ o29 ([] ++ [c9]) H29.size (slN H29) hTy kh kcs kpl enk_13 hNL hcs9 htr hnb hbi (fun b hb => (hNν29_10 b (fun e9 => by rw [e9, kh.2] at hb; exact absurd hb (by decide : ¬ (13 : Nat) = 8))).trans (hν0 b hb)) (fun b hb => (hWω29_10 b (fun e9 => by rw [e9, hnk.2] at hb; exact absurd rfl hb)).trans (hω0 b hb)) hS3b (by rw [eq29]; rfl) (by rw [eq29]; rfl) (Nat.le_refl _)) q6_15 q6_16 q6_17 q1_7 q6_18 (n := 1) (by decide +kernel) rfl ⟨rfl, rfl⟩ ⟨Nat.le_of_ble_eq_true rfl, Nat.le_of_ble_eq_true rfl⟩ ⟨(by omega), (by omega)⟩ hN (hT0.keep hS hAs) hAs (Nat.le_trans hB0 hS.1) hK hP hD (List.range G_9.length) (rg_nd _) (rg_is _) [0, 1, 2, 3] rfl i_13 8 hg_13 rfl rfl hl.1 rfl (Nat.le_of_ble_eq_true rfl) d_Search_begin_41) hS (fun q _ h => hFc q h) hFc (fun r41 u41 tS H41 locs ht hvm hw41 hB hz1 hk1 hS => ?_)
    obtain ⟨G_12, o41, as41⟩ := u41
    obtain ⟨ν41_13, ω41_13, hν41_13, eν41_13, hω41_13, eω41_13, hTy, kpl, hF9, hr41⟩ := hw41
    dsimp only at hTy kpl hF9 hr41
    have hNν41_13 : ∀ b, b ≠ h → ν41_13 b = ν b := fun b hb => (hν41_13 b hb).trans (hNν29_10 b hb)
    have hWω41_13 : ∀ b, b ≠ nx → ω41_13 b = ω b := fun b hb => (hω41_13 b hb).trans (hWω29_10 b hb)
    have hFR := hFR.tr hF9
    obtain ⟨⟨hP1, hK1, hD1⟩, hzB41, hyB41⟩ := hB
    rw [ht] at hP1
    rw [ht] at hzB41 hyB41
    dsimp only at hzB41 hyB41
    have hP : va_P (dC, dI) classes G_12 H41 := hP1
    have hD : va_D A G_12 := hD1.weaken (fun _ _ _ h => hFc _ h)
    obtain ⟨σ4, p4, op4, eh4, hS4, hres4, hfo41, hgo41⟩ := hr41
    have eq41 : ν41_13 h = mkS (ν h) (nI D) (nI p4) op4 := by rw [eh4, eq29]; rfl
    refine W.narrow (k := fC o - fC o41) (n := fS o - fS o41) (by omega) (by omega) ?_
    rcases hres4 with ⟨rfl, hpp4, hp14, hex4, hct4⟩ | ⟨rfl, hni4, hct4⟩
    · skip
      refine lv_if_eq (tgt := 51) hx hb d_Search_begin_44 (by decide) (fun c44 => ?_) (fun c44 => ?_)
      · exact absurd c44 (by decide)
      refine lv_iconst (v := 1) hx hb d_Search_begin_47 (by decide) ?_
      refine lv_goto (tgt := 52) hx hb d_Search_begin_48 (by decide) ?_
      refine W.size (fun hz9 hy9 => ?_)
      refine W.widen (k := (fC o)) (n := (fS o)) (by omega) (by omega) ?_
      exact W.zret (v := 1) hx hb hr rfl (fun t ht hW => ⟨⟨_, (G_12, o41, as41), rfl, ⟨ν41_13, ω41_13, hNν41_13, trivial, hWω41_13, trivial, hTy, kpl, hFR, ⟨σ4, p4, op4, eq41, hS4, Or.inl ⟨rfl, hp14, hp14, hex4, fun fl9 t9 => ((ct_begin hdp1).trans (if_neg (fun q9 => (htr t0 ht9).mp q9 (by rw [← hc9, ← hν0 _ (by rw [kc9.2])]; exact p36)))).trans (hct4 fl9 t9)⟩, by show fC o41 ≤ fC o; omega, by show fS o41 ≤ fS o; omega⟩⟩, ⟨⟨by rw [ht]; exact hP, va_K.moved hW.alike hK, hD⟩, by rw [ht]; show H41.size + fC o41 ≤ _; omega, by rw [ht]; show slN H41 + fS o41 ≤ _; omega⟩⟩, hS.F ht⟩) hS.2.2 d_Search_begin_52
    · skip
      refine lv_if_eq (tgt := 51) hx hb d_Search_begin_44 (by decide) (fun c44 => ?_) (fun c44 => ?_)
      rotate_left
      · exact absurd c44 (fun q9 => q9 rfl)
      refine lv_iconst (v := 0) hx hb d_Search_begin_51 (by decide) ?_
      refine W.size (fun hz9 hy9 => ?_)
      refine W.widen (k := (fC o)) (n := (fS o)) (by omega) (by omega) ?_
      exact W.zret (v := 0) hx hb hr rfl (fun t ht hW => ⟨⟨_, (G_12, o41, as41), rfl, ⟨ν41_13, ω41_13, hNν41_13, trivial, hWω41_13, trivial, hTy, kpl, hFR, ⟨σ4, p4, op4, eq41, hS4, Or.inr ⟨rfl, hni4, fun fl9 t9 => ((ct_begin hdp1).trans (if_neg (fun q9 => (htr t0 ht9).mp q9 (by rw [← hc9, ← hν0 _ (by rw [kc9.2])]; exact p36)))).trans (hct4 fl9 t9)⟩, by show fC o41 ≤ fC o; omega, by show fS o41 ≤ fS o; omega⟩⟩, ⟨⟨by rw [ht]; exact hP, va_K.moved hW.alike hK, hD⟩, by rw [ht]; show H41.size + fC o41 ≤ _; omega, by rw [ht]; show slN H41 + fS o41 ≤ _; omega⟩⟩, hS.F ht⟩) hS.2.2 d_Search_begin_52
