/-! Reader.name: a row of PARTS. -/
def nxI (u : Nat → Nat) (x : rS) (en tg : Nat) : Prop := x.2.2 = none ∧ x.1 < en ∧ u x.1 = tg
noncomputable def stTag (u : Nat → Nat) (x : rS) (en : Nat) : Nat := @ite _ (nxI u x en 12) (Classical.propDecidable _) 12 (@ite _ (nxI u x en 22) (Classical.propDecidable _) 22 19)
theorem stTag_lt (u : Nat → Nat) (x : rS) (en : Nat) : stTag u x en < 256 := by
  unfold stTag
  split
  · decide
  · split <;> decide
def strOK (u : Nat → Nat) (tg a b : Nat) : Prop := (tg = 12 → utOK u a b) ∧ (tg ≠ 12 → smN u tg a b)
/-- one PART -/
noncomputable def rd_part (u : Nat → Nat) (n : Nat) (x : rS) (en : Nat) : rS :=
  let s := rd_opn u n x 49 en
  let q := rd_opn u n s.1 48 s.2
  let d := rd_opn u n q.1 6 q.2
  let x1 := rd_lea d.1 d.2 (zP (oidOK u d.1.1 d.2))
  let t := rd_opn u n x1 (stTag u x1 q.2) q.2
  rd_fin (rd_fin (rd_lea t.1 t.2 (zP (t.1.1 < t.2 ∧ strOK u (stTag u x1 q.2) t.1.1 t.2))) q.2) s.2
noncomputable def rd_it (u : Nat → Nat) (n en : Nat) : Nat → rS → rS
  | 0, x => x
  | c + 1, x => rd_part u n (rd_it u n en c x) en
def mr (x : rS) (en : Nat) : Prop := x.2.2 = none ∧ x.1 < en
theorem part_inv {u : Nat → Nat} {n en : Nat} {x : rS} (h : rdInv n x) (he : en ≤ n) : rdInv n (rd_part u n x en) := by
  have h1 := opn_inv (u := u) (tg := 49) h he
  have h2 := opn_inv (u := u) (tg := 48) h1.1 h1.2.2.1
  have h3 := opn_inv (u := u) (tg := 6) h2.1 h2.2.2.1
  exact fin_inv (fin_inv (lea_inv (opn_inv (lea_inv h3.1 h3.2.2.1) h2.2.2.1).1 (opn_inv (lea_inv h3.1 h3.2.2.1) h2.2.2.1).2.2.1))
theorem zP_1 {P : Prop} (h : ¬ zP P = 0) : P := Classical.not_not.mp (fun q => h (zP_0.mpr q))
theorem zP_t {P : Prop} (h : P) : 1 = zP P := bz_zP (bz_t h)
theorem zP_f {P : Prop} (h : ¬ P) : 0 = zP P := bz_zP (bz_f h)
theorem zP_b (P : Prop) : bz (zP P) P := by
  by_cases h : P
  · rw [← zP_t h]; exact bz_t h
  · rw [← zP_f h]; exact bz_f h
theorem zP_n (P : Prop) : narrow .boolean (.int (zP P)) = .int (zP P) := bz_n (zP_b P)
theorem zP_fit (P : Prop) : fits .boolean (.int (zP P)) = true := bz_fit (zP_b P)
theorem flag_inv {u : Nat → Nat} {n en : Nat} {x : rS} (h : rdInv n x) (he : en ≤ n) : rdInv n (rd_flag u n x en) := lea_inv (opn_inv h he).1 (opn_inv h he).2.2.1
theorem iky_inv {u : Nat → Nat} {n en : Nat} {x : rS} (h : rdInv n x) (he : en ≤ n) : rdInv n (rd_iky u n x en).1 ∧ (rd_iky u n x en).2.1 ≤ (rd_iky u n x en).2.2 ∧ (rd_iky u n x en).2.2 ≤ n := by
  have h1 := opn_inv (u := u) (tg := 48) h he
  have h2 := plain_inv (u := u) (tg := 128) (le := 1) h1.1 h1.2.2.1
  exact ⟨fin_inv h2.1, h2.2.1, h2.2.2⟩
/-- a row of PARTS, as a function -/
noncomputable def rd_row (u : Nat → Nat) (n en : Nat) : Nat → rS → rS × Nat
  | 0, x => (x, 0)
  | f + 1, x => @ite _ (mr x en) (Classical.propDecidable _) ((rd_row u n en f (rd_part u n x en)).1, (rd_row u n en f (rd_part u n x en)).2 + 1) (x, 0)
theorem it_shift (u : Nat → Nat) (n en : Nat) (x : rS) : ∀ c, rd_it u n en (c + 1) x = rd_it u n en c (rd_part u n x en)
  | 0 => rfl
  | c + 1 => by
    show rd_part u n (rd_it u n en (c + 1) x) en = rd_part u n (rd_it u n en c (rd_part u n x en)) en
    rw [it_shift u n en x c]
theorem row_fn {u : Nat → Nat} {n en : Nat} : ∀ (f : Nat) (x0 x : rS) (c : Nat), x = rd_it u n en c x0 → (∀ j, j < c → mr (rd_it u n en j x0) en) → (c = f ∨ ¬ mr x en) → c ≤ f → x = (rd_row u n en f x0).1 ∧ c = (rd_row u n en f x0).2
  | 0, x0, x, c, h1, _, _, h4 => by
    obtain rfl : c = 0 := by omega
    exact ⟨h1, rfl⟩
  | f + 1, x0, x, c, h1, h2, h3, h4 => by
    cases c with
    | zero =>
      have h5 : ¬ mr x0 en := by
        rcases h3 with h3 | h3
        · omega
        · rw [h1] at h3; exact h3
      have e : rd_row u n en (f + 1) x0 = (x0, 0) := if_neg h5
      rw [e]
      exact ⟨h1, rfl⟩
    | succ c =>
      have h5 : mr x0 en := h2 0 (by omega)
      have e : rd_row u n en (f + 1) x0 = ((rd_row u n en f (rd_part u n x0 en)).1, (rd_row u n en f (rd_part u n x0 en)).2 + 1) := if_pos h5
      have r := row_fn f (rd_part u n x0 en) x c (by rw [h1, it_shift]) (fun j hj => by rw [← it_shift]; exact h2 (j + 1) (by omega)) (h3.imp (by omega) id) (by omega)
      rw [e]
      exact ⟨r.1, by rw [← r.2]⟩
theorem row_inv {u : Nat → Nat} {n en : Nat} (he : en ≤ n) : ∀ (f : Nat) (x : rS), rdInv n x → rdInv n (rd_row u n en f x).1
  | 0, x, h => h
  | f + 1, x, h => by
    by_cases h5 : mr x en
    · have e : rd_row u n en (f + 1) x = ((rd_row u n en f (rd_part u n x en)).1, (rd_row u n en f (rd_part u n x en)).2 + 1) := if_pos h5
      rw [e]; exact row_inv he f _ (part_inv h he)
    · have e : rd_row u n en (f + 1) x = (x, 0) := if_neg h5
      rw [e]; exact h
/-- a NAME: the reader behind it, its PARTS, where what is in it lies -/
noncomputable def rd_nam (u : Nat → Nat) (n : Nat) (x : rS) (en : Nat) : rS × Nat × Nat × Nat :=
  let o := rd_opn u n x 48 en
  ((rd_row u n o.2 2048 o.1).1, (rd_row u n o.2 2048 o.1).2, o.1.1, o.2)
noncomputable def rd_fnm (u : Nat → Nat) (n : Nat) (x : rS) (en : Nat) : rS × Nat × Nat × Nat :=
  let z := rd_nam u n x en
  (if z.2.2.2 - z.2.2.1 = 0 then rd_ref z.1 x.1 else z.1, z.2)
theorem nam_inv {u : Nat → Nat} {n en : Nat} {x : rS} (h : rdInv n x) (he : en ≤ n) : rdInv n (rd_nam u n x en).1 ∧ (rd_nam u n x en).2.2.1 ≤ (rd_nam u n x en).2.2.2 ∧ (rd_nam u n x en).2.2.2 ≤ n := by
  have h1 := opn_inv (u := u) (tg := 48) h he
  exact ⟨row_inv h1.2.2.1 _ _ h1.1, h1.2.1, h1.2.2.1⟩
theorem fnm_inv {u : Nat → Nat} {n en : Nat} {x : rS} (h : rdInv n x) (he : en ≤ n) : rdInv n (rd_fnm u n x en).1 ∧ (rd_fnm u n x en).2.2.1 ≤ (rd_fnm u n x en).2.2.2 ∧ (rd_fnm u n x en).2.2.2 ≤ n := by
  have h1 := nam_inv (u := u) h he
  refine ⟨?_, h1.2⟩
  show rdInv n (if (rd_nam u n x en).2.2.2 - (rd_nam u n x en).2.2.1 = 0 then rd_ref (rd_nam u n x en).1 x.1 else (rd_nam u n x en).1)
  split
  · exact ref_inv h1.1 h.1
  · exact h1.1
set_option maxHeartbeats 4000000 in
set_option maxRecDepth 100000 in
theorem cC_name (l : Launch) (dC : Nat → ClassId) (dI : Nat → Nat → Nat) (sb : sB) (h res t ki n : Nat) (x : rS) (pa ma ex ie : Int32) (cB : ClassId) (u : Nat → Nat) (en : Nat) (sz : Nat) (hu : ∀ j, u j < 256) (hn : n < 2 ^ 30) (hi : rdInv n x) (he : en ≤ n) : Met l y_Reader_name w_Reader_name ({ frames := 6, cells := 1, slots := 3, locals := 174 }) (mu_P [.ref h, .int (nI en)] (dC, dI) sb [(h, .inr (4, [.ref res, .ref t, .int (nI x.1), .int (nI x.2.1), .int (wI x.2.2), .int pa, .int ma, .int ex, .ref ki])), (t, .inl (cB, n, .inl (tx u)))] [(cB, .byte)] sz) (va_Qr (fun (u' : rS × Nat) => u'.1 = (rd_nam u n x en).1 ∧ u'.2 = (rd_nam u n x en).2.1) (mu_Br (dC, dI) [(cB, .byte)] (va_A [(h, .inr (4, [.ref res, .ref t, .int (nI x.1), .int (nI x.2.1), .int (wI x.2.2), .int pa, .int ma, .int ex, .ref ki])), (t, .inl (cB, n, .inl (tx u)))] sz) (fun (u' : rS × Nat) (q : Nat) => [(h, .inr (4, [.ref res, .ref t, .int (nI u'.1.1), .int (nI u'.1.2.1), .int (wI u'.1.2.2), .int (nI u'.2), .int ma, .int ex, .ref ki])), (t, .inl (cB, n, .inl (tx u))), (q, .inr (0, [.ref t, .int (nI (rd_opn u n x 48 en).1.1), .int (nI (rd_opn u n x 48 en).2)]))])) (va_A [(h, .inr (4, [.ref res, .ref t, .int (nI x.1), .int (nI x.2.1), .int (wI x.2.2), .int pa, .int ma, .int ex, .ref ki])), (t, .inl (cB, n, .inl (tx u)))] sz)) 1 3 (va_A [(h, .inr (4, [.ref res, .ref t, .int (nI x.1), .int (nI x.2.1), .int (wI x.2.2), .int pa, .int ma, .int ex, .ref ki])), (t, .inl (cB, n, .inl (tx u)))] sz) := by
  refine Met.ofW (cc := b_Reader_name) (maxL := 11) (ret := (some (FieldType.object "TrustChain$Slice"))) (by decide) rfl ?_
  intro p e s m args below meth c s₁ B hml hv
  obtain ⟨rfl, hsz, hB0, hP, hK, hD0, hN, hT0⟩ := hv
  have hx := B.exec
  have hb := B.bytes
  have hr := B.returns
  have hts := atoms_spec (ws := w_Reader_name) B.pre
  have tbin : ∀ w ∈ tb, w ∈ w_Reader_name := fun w h => List.mem_cons_of_mem _ h
  have htb : ∀ w ∈ tb, w.before _ s = true := fun w h => hts w (tbin w h)
  have hown : s.vm.findClass "TrustChain$Reader" = some m.cls := findClass_of_methodNamed B.named
  have hlocks := B.notSynchronized
  subst hsz
  have hD := hD0.self (sz := s.heap.size)
  generalize hAe : va_A [(h, .inr (4, [.ref res, .ref t, .int (nI x.1), .int (nI x.2.1), .int (wI x.2.2), .int pa, .int ma, .int ex, .ref ki])), (t, .inl (cB, n, .inl (tx u)))] s.heap.size = A at hD ⊢
  have hA : ∀ q : Nat, s.heap.size ≤ q → A q := fun q h => by rw [← hAe]; exact Or.inr h
  have hAs : ∀ q : Nat, A q → sb.1 ≤ q := fun q h => by
    rw [← hAe] at h
    rcases h with ⟨k, e, h⟩ | h
    · exact hD0.2 k _ h
    · exact Nat.le_trans hB0 h
  have hS : va_S A s.heap s.heap [] := va_S.rf
  have hcs : 1 ≤ (headSpec w_Reader_name ({ frames := 6, cells := 1, slots := 3, locals := 174 })).room.cells ∧ 3 ≤ (headSpec w_Reader_name ({ frames := 6, cells := 1, slots := 3, locals := 174 })).room.slots := ⟨Nat.le_refl _, Nat.le_refl _⟩
  have hP : va_P (dC, dI) classes [(h, .inr (4, [.ref res, .ref t, .int (nI x.1), .int (nI x.2.1), .int (wI x.2.2), .int pa, .int ma, .int ex, .ref ki])), (t, .inl (cB, n, .inl (tx u)))] s.heap := hP
  have hl := lv_entry ([.ref h, .int (nI en)]) (n := 11) (Nat.le_of_ble_eq_true rfl)
  rw [lg_entry_eq]
  generalize (lg_sl ([.ref h, .int (nI en)]) ++ List.replicate (11 - (lg_sl ([.ref h, .int (nI en)])).length) Slot.unset).toArray = ls at hl ⊢
  have hl : lv_has ls 11 [(0, .ref h), (1, .int (nI en))] := hl
  refine lv_aload_n hx hb d_Reader_name_0 rfl (lv_at hl 0 rfl) ?_
  refine lv_bipush (v := 48) hx hb d_Reader_name_1 (by decide) ?_
  refine lv_iload_n hx hb d_Reader_name_3 rfl (lv_at hl 1 rfl) ?_
  have hFc := va_free (wc := [(h, .inr (4, [.ref res, .ref t, .int (nI x.1), .int (nI x.2.1), .int (wI x.2.2), .int pa, .int ma, .int ex, .ref ki])), (t, .inl (cB, n, .inl (tx u)))]) hD hS hA [0, 1] rfl
  refine va_calli (mu_runU (As := [.int 48, .int (nI en)]) (rest := []) ⟨hx, hb, hml, hown, hts⟩ (cC_open l dC dI sb h res t ki x.1 x.2.1 n x.2.2 pa ma ex ie cB u 48 en s.heap.size hu hn ((hi).w hn) he (hi).1 (by decide)) (cu_of (n := 2) hts tbin q3_130 q9_192 q3_112 q9_193 q1_15 q3_113 rfl (by decide +kernel) ⟨rfl, rfl⟩ ⟨Nat.le_of_ble_eq_true rfl, Nat.le_of_ble_eq_true rfl⟩) rfl ⟨Nat.le_of_ble_eq_true rfl, Nat.le_of_ble_eq_true rfl⟩ hN (hT0.keep hS hAs) hAs (Nat.le_trans hB0 hS.1) hK hP hD [0, 1] (by decide) rfl [0] rfl 0 4 rfl rfl rfl hl.1 rfl (Nat.le_of_ble_eq_true rfl) d_Reader_name_4) hS (fun q _ h => hFc q h) hFc (fun r4 u4 tS H4 locs ht hvm hw4 hB hz1 hk1 hS => ?_)
  obtain ⟨x4, rfl⟩ : ∃ z, z = u4 := ⟨_, rfl⟩
  obtain ⟨hP1, hK1, hD1⟩ := hB
  rw [ht] at hP1
  obtain ⟨hP, hD⟩ := va_join (wr := []) (w1 := [(h, .inr (4, [.ref res, .ref t, .int (nI x4.1), .int (nI x4.2.1), .int (wI x4.2.2), .int pa, .int ma, .int ex, .ref ki])), (t, .inl (cB, n, .inl (tx u)))]) hP hD [0, 1] [] rfl rfl (by decide) (by decide) hk1 hFc hP1 hD1
  have hP : va_P (dC, dI) classes [(h, .inr (4, [.ref res, .ref t, .int (nI x4.1), .int (nI x4.2.1), .int (wI x4.2.2), .int pa, .int ma, .int ex, .ref ki])), (t, .inl (cB, n, .inl (tx u)))] H4 := hP
  have hD : va_D A [(h, .inr (4, [.ref res, .ref t, .int (nI x4.1), .int (nI x4.2.1), .int (wI x4.2.2), .int pa, .int ma, .int ex, .ref ki])), (t, .inl (cB, n, .inl (tx u)))] := hD
  have hw4 : x4 = (rd_opn u n x 48 en).1 ∧ r4 = nI (rd_opn u n x 48 en).2 := hw4
  have hi4 := opn_inv (u := u) (tg := 48) hi he
  obtain ⟨o4, ho4⟩ : ∃ o, o = rd_opn u n x 48 en := ⟨_, rfl⟩
  rw [← ho4] at hw4 hi4
  obtain ⟨rfl, rfl⟩ := hw4
  have hP : va_P (dC, dI) classes [(h, .inr (4, [.ref res, .ref t, .int (nI o4.1.1), .int (nI o4.1.2.1), .int (wI o4.1.2.2), .int pa, .int ma, .int ex, .ref ki])), (t, .inl (cB, n, .inl (tx u)))] H4 := hP
  have hD : va_D A [(h, .inr (4, [.ref res, .ref t, .int (nI o4.1.1), .int (nI o4.1.2.1), .int (wI o4.1.2.2), .int pa, .int ma, .int ex, .ref ki])), (t, .inl (cB, n, .inl (tx u)))] := hD
  refine lv_istore_n (lv' := [(2, .int (nI o4.2)), (0, .ref h), (1, .int (nI en))]) hx hb d_Reader_name_7 rfl hl (by decide) rfl (fun ls hl => ?_)
  refine lv_aload_n hx hb d_Reader_name_8 rfl (lv_at hl 1 rfl) ?_
  refine va_get (v := .int (nI o4.1.1)) hx hb htb i_CertificateReader hown hK hP 0 rfl rfl 2 (by decide) (htb _ q3_62) (fun _ h9 => h9) rfl d_Reader_name_9 ?_
  refine lv_istore_n (lv' := [(3, .int (nI o4.1.1)), (2, .int (nI o4.2)), (0, .ref h), (1, .int (nI en))]) hx hb d_Reader_name_12 rfl hl (by decide) rfl (fun ls hl => ?_)
  refine lv_aload_n hx hb d_Reader_name_13 rfl (lv_at hl 2 rfl) ?_
  refine lv_iconst (v := 0) hx hb d_Reader_name_14 (by decide) ?_
  refine va_put (v := .int 0) (ty := .int) hx hb htb i_CertificateReader t_CertificateReader t_CertificateReader_ok n_CertificateReader hown hK hP hD hS 0 rfl rfl 5 (by decide) (htb _ q3_73) (fun _ h9 => h9) rfl (by decide +kernel) rfl rfl (Nat.le_of_ble_eq_true rfl) d_Reader_name_15 (fun H15 locs hP hD hS => ?_)
  have hP : va_P (dC, dI) classes [(h, .inr (4, [.ref res, .ref t, .int (nI o4.1.1), .int (nI o4.1.2.1), .int (wI o4.1.2.2), .int 0, .int ma, .int ex, .ref ki])), (t, .inl (cB, n, .inl (tx u)))] H15 := hP
  have hD : va_D A [(h, .inr (4, [.ref res, .ref t, .int (nI o4.1.1), .int (nI o4.1.2.1), .int (wI o4.1.2.2), .int 0, .int ma, .int ex, .ref ki])), (t, .inl (cB, n, .inl (tx u)))] := hD
  refine lv_iconst (v := 0) hx hb d_Reader_name_18 (by decide) ?_
  refine lv_istore (lv' := [(4, .int 0), (3, .int (nI o4.1.1)), (2, .int (nI o4.2)), (0, .ref h), (1, .int (nI en))]) hx hb d_Reader_name_19 hl (by decide) rfl (fun ls hl => ?_)
  refine w_loopW (α := rS × Nat) (fun a => rdInv n a.1 ∧ a.2 ≤ 2048 ∧ a.1 = rd_it u n o4.2 a.2 o4.1 ∧ ∀ j, j < a.2 → mr (rd_it u n o4.2 j o4.1) o4.2) (fun a => 2048 - a.2) (fun a => [(0, .ref h), (2, .int (nI o4.2)), (3, .int (nI o4.1.1)), (4, .int (nI a.2))]) (fun _ => []) (fun a => [(h, .inr (4, [.ref res, .ref t, .int (nI a.1.1), .int (nI a.1.2.1), .int (wI a.1.2.2), .int (nI a.2), .int ma, .int ex, .ref ki])), (t, .inl (cB, n, .inl (tx u)))]) 11 21 (fun a HL21 locs ls hJ hP hD hS hl ih => ?_) (o4.1, 0) _ _ ls (⟨hi4.1, Nat.zero_le _, rfl, fun j hj => absurd hj (Nat.not_lt_zero j)⟩) hP hD hS (lv_sub hl [3, 2, 1, 0] rfl)
  have hP : va_P (dC, dI) classes [(h, .inr (4, [.ref res, .ref t, .int (nI a.1.1), .int (nI a.1.2.1), .int (wI a.1.2.2), .int (nI a.2), .int ma, .int ex, .ref ki])), (t, .inl (cB, n, .inl (tx u)))] HL21 := hP
  have hD : va_D A [(h, .inr (4, [.ref res, .ref t, .int (nI a.1.1), .int (nI a.1.2.1), .int (wI a.1.2.2), .int (nI a.2), .int ma, .int ex, .ref ki])), (t, .inl (cB, n, .inl (tx u)))] := hD
  refine lv_iload hx hb d_Reader_name_21 (lv_at hl 3 rfl) ?_
  have hle := hJ.2.1
  refine lv_sipush (v := 2048) hx hb d_Reader_name_23 (by decide) ?_
  refine lv_icmp_ge (tgt := 215) hx hb d_Reader_name_26 (by decide) (fun c26 => ?_) (fun c26 => ?_)
  · have hex : a.2 = 2048 ∨ ¬ mr a.1 o4.2 := Or.inl (by rw [show (2048 : Int32) = nI 2048 from rfl, nI_leI (by omega) (by omega)] at c26; omega)
    refine va_new (ci := 0) (fs := [.null, .int 0, .int 0]) hx hb htb i_Slice t_Slice t_Slice_ok hown (htb _ q3_137) (htb _ q2_92) (htb _ q1_22) hK hP hD hS hA rfl (fun j hj => by rcases (show j = 0 ∨ j = 1 ∨ j = 2 by omega) with rfl | rfl | rfl <;> rfl) (Nat.le_of_ble_eq_true rfl) (Nat.le_of_ble_eq_true rfl) d_Reader_name_215 (fun q215 H215 hP hD hS => ?_)
    have hP : va_P (dC, dI) classes [(h, .inr (4, [.ref res, .ref t, .int (nI a.1.1), .int (nI a.1.2.1), .int (wI a.1.2.2), .int (nI a.2), .int ma, .int ex, .ref ki])), (t, .inl (cB, n, .inl (tx u))), (q215, .inr (0, [.null, .int 0, .int 0]))] H215 := hP
    have hD : va_D A [(h, .inr (4, [.ref res, .ref t, .int (nI a.1.1), .int (nI a.1.2.1), .int (wI a.1.2.2), .int (nI a.2), .int ma, .int ex, .ref ki])), (t, .inl (cB, n, .inl (tx u))), (q215, .inr (0, [.null, .int 0, .int 0]))] := hD
    refine lv_dup hx hb d_Reader_name_218 rfl ?_
    refine lv_aload_n hx hb d_Reader_name_219 rfl (lv_at hl 0 rfl) ?_
    refine va_get (v := .ref t) hx hb htb i_CertificateReader hown hK hP 0 rfl rfl 1 (by decide) (htb _ q3_57) (fun _ h9 => h9) rfl d_Reader_name_220 ?_
    refine lv_iload_n hx hb d_Reader_name_223 rfl (lv_at hl 2 rfl) ?_
    refine lv_iload_n hx hb d_Reader_name_224 rfl (lv_at hl 1 rfl) ?_
    have hFc := va_free (wc := [(q215, .inr (0, [.null, .int 0, .int 0]))]) hD hS hA [2] rfl
    refine va_callv (mu_runI (As := [.ref t, .int (nI o4.1.1), .int (nI o4.2)]) (rest := [.ref q215]) ⟨hx, hb, hml, hown, hts⟩ tbin (c_Slice_init l dC dI sb q215 t (nI o4.1.1) (nI o4.2) H215.size) q3_138 q2_94 q1_22 q2_95 rfl (n := 3) (by decide +kernel) rfl ⟨rfl, rfl⟩ ⟨Nat.le_of_ble_eq_true rfl, Nat.le_of_ble_eq_true rfl⟩ ⟨Nat.le_of_ble_eq_true rfl, Nat.le_of_ble_eq_true rfl⟩ hN (hT0.keep hS hAs) hAs (Nat.le_trans hB0 hS.1) hK hP hD [2] (by decide) rfl [] rfl hl.1 rfl (Nat.le_of_ble_eq_true rfl) d_Reader_name_225) hS (fun q _ h => hFc q h) hFc (fun u225 tS H225 locs ht hvm hw225 hB hz1 hk1 hS => ?_)
    skip
    obtain ⟨hP1, hK1, hD1⟩ := hB
    rw [ht] at hP1
    obtain ⟨hP, hD⟩ := va_join (wr := [(h, .inr (4, [.ref res, .ref t, .int (nI a.1.1), .int (nI a.1.2.1), .int (wI a.1.2.2), .int (nI a.2), .int ma, .int ex, .ref ki])), (t, .inl (cB, n, .inl (tx u)))]) (w1 := [(q215, .inr (0, [.ref t, .int (nI o4.1.1), .int (nI o4.2)]))]) hP hD [2] [0, 1] rfl rfl (by decide) (by decide) hk1 hFc hP1 hD1
    have hP : va_P (dC, dI) classes [(h, .inr (4, [.ref res, .ref t, .int (nI a.1.1), .int (nI a.1.2.1), .int (wI a.1.2.2), .int (nI a.2), .int ma, .int ex, .ref ki])), (t, .inl (cB, n, .inl (tx u))), (q215, .inr (0, [.ref t, .int (nI o4.1.1), .int (nI o4.2)]))] H225 := hP
    have hD : va_D A [(h, .inr (4, [.ref res, .ref t, .int (nI a.1.1), .int (nI a.1.2.1), .int (wI a.1.2.2), .int (nI a.2), .int ma, .int ex, .ref ki])), (t, .inl (cB, n, .inl (tx u))), (q215, .inr (0, [.ref t, .int (nI o4.1.1), .int (nI o4.2)]))] := hD
    subst ho4
    exact W.aret (v := .ref q215) hx hb hr (Or.inl ⟨_, rfl⟩) (Or.inr ⟨_, rfl⟩) (fun t ht hW => ⟨⟨(a.1, a.2), q215, rfl, (row_fn 2048 _ _ _ hJ.2.2.1 hJ.2.2.2 hex hJ.2.1), by rw [ht]; exact hP, va_K.moved hW.alike hK, hD⟩, hS.F ht⟩) hS.2.2 d_Reader_name_228
  · have hlt : a.2 < 2048 := by rw [show (2048 : Int32) = nI 2048 from rfl, nI_leI (by omega) (by omega)] at c26; omega
    refine lv_aload_n hx hb d_Reader_name_29 rfl (lv_at hl 0 rfl) ?_
    refine lv_iload_n hx hb d_Reader_name_30 rfl (lv_at hl 1 rfl) ?_
    refine vp_callSi (pu_callU (As := [.int (nI o4.2)]) (rest := []) ⟨hx, hb, hml, hown, hts⟩ (cC_more l dC dI sb h res t ki a.1.1 a.1.2.1 n a.1.2.2 (nI a.2) ma ex ie cB u o4.2 ((hJ.1).w hn) (by have := (hJ.1).1; omega) (by have := hi4.2.2.1; omega)) (cu_of (n := 1) hts tbin q3_196 q3_198 q3_197 q3_199 q1_15 q3_201 rfl (by decide +kernel) ⟨rfl, rfl⟩ ⟨Nat.le_of_ble_eq_true rfl, Nat.le_of_ble_eq_true rfl⟩) rfl ⟨Nat.le_of_ble_eq_true rfl, Nat.le_of_ble_eq_true rfl⟩ hN (hT0.keep hS hAs) hK hP [0] rfl [] rfl 0 4 rfl rfl rfl hl.1 rfl (Nat.le_of_ble_eq_true rfl) d_Reader_name_31) (fun r31 hr31 => ?_)
    refine lv_if_eq (tgt := 215) hx hb d_Reader_name_34 (by decide) (fun c34 => ?_) (fun c34 => ?_)
    · have hex : a.2 = 2048 ∨ ¬ mr a.1 o4.2 := Or.inr (bz_0 hr31 (by first | exact c34 | exact Classical.not_not.mp c34))
      refine va_new (ci := 0) (fs := [.null, .int 0, .int 0]) hx hb htb i_Slice t_Slice t_Slice_ok hown (htb _ q3_137) (htb _ q2_92) (htb _ q1_22) hK hP hD hS hA rfl (fun j hj => by rcases (show j = 0 ∨ j = 1 ∨ j = 2 by omega) with rfl | rfl | rfl <;> rfl) (Nat.le_of_ble_eq_true rfl) (Nat.le_of_ble_eq_true rfl) d_Reader_name_215 (fun q215 H215 hP hD hS => ?_)
      have hP : va_P (dC, dI) classes [(h, .inr (4, [.ref res, .ref t, .int (nI a.1.1), .int (nI a.1.2.1), .int (wI a.1.2.2), .int (nI a.2), .int ma, .int ex, .ref ki])), (t, .inl (cB, n, .inl (tx u))), (q215, .inr (0, [.null, .int 0, .int 0]))] H215 := hP
      have hD : va_D A [(h, .inr (4, [.ref res, .ref t, .int (nI a.1.1), .int (nI a.1.2.1), .int (wI a.1.2.2), .int (nI a.2), .int ma, .int ex, .ref ki])), (t, .inl (cB, n, .inl (tx u))), (q215, .inr (0, [.null, .int 0, .int 0]))] := hD
      refine lv_dup hx hb d_Reader_name_218 rfl ?_
      refine lv_aload_n hx hb d_Reader_name_219 rfl (lv_at hl 0 rfl) ?_
      refine va_get (v := .ref t) hx hb htb i_CertificateReader hown hK hP 0 rfl rfl 1 (by decide) (htb _ q3_57) (fun _ h9 => h9) rfl d_Reader_name_220 ?_
      refine lv_iload_n hx hb d_Reader_name_223 rfl (lv_at hl 2 rfl) ?_
      refine lv_iload_n hx hb d_Reader_name_224 rfl (lv_at hl 1 rfl) ?_
      have hFc := va_free (wc := [(q215, .inr (0, [.null, .int 0, .int 0]))]) hD hS hA [2] rfl
      refine va_callv (mu_runI (As := [.ref t, .int (nI o4.1.1), .int (nI o4.2)]) (rest := [.ref q215]) ⟨hx, hb, hml, hown, hts⟩ tbin (c_Slice_init l dC dI sb q215 t (nI o4.1.1) (nI o4.2) H215.size) q3_138 q2_94 q1_22 q2_95 rfl (n := 3) (by decide +kernel) rfl ⟨rfl, rfl⟩ ⟨Nat.le_of_ble_eq_true rfl, Nat.le_of_ble_eq_true rfl⟩ ⟨Nat.le_of_ble_eq_true rfl, Nat.le_of_ble_eq_true rfl⟩ hN (hT0.keep hS hAs) hAs (Nat.le_trans hB0 hS.1) hK hP hD [2] (by decide) rfl [] rfl hl.1 rfl (Nat.le_of_ble_eq_true rfl) d_Reader_name_225) hS (fun q _ h => hFc q h) hFc (fun u225 tS H225 locs ht hvm hw225 hB hz1 hk1 hS => ?_)
      skip
      obtain ⟨hP1, hK1, hD1⟩ := hB
      rw [ht] at hP1
      obtain ⟨hP, hD⟩ := va_join (wr := [(h, .inr (4, [.ref res, .ref t, .int (nI a.1.1), .int (nI a.1.2.1), .int (wI a.1.2.2), .int (nI a.2), .int ma, .int ex, .ref ki])), (t, .inl (cB, n, .inl (tx u)))]) (w1 := [(q215, .inr (0, [.ref t, .int (nI o4.1.1), .int (nI o4.2)]))]) hP hD [2] [0, 1] rfl rfl (by decide) (by decide) hk1 hFc hP1 hD1
      have hP : va_P (dC, dI) classes [(h, .inr (4, [.ref res, .ref t, .int (nI a.1.1), .int (nI a.1.2.1), .int (wI a.1.2.2), .int (nI a.2), .int ma, .int ex, .ref ki])), (t, .inl (cB, n, .inl (tx u))), (q215, .inr (0, [.ref t, .int (nI o4.1.1), .int (nI o4.2)]))] H225 := hP
      have hD : va_D A [(h, .inr (4, [.ref res, .ref t, .int (nI a.1.1), .int (nI a.1.2.1), .int (wI a.1.2.2), .int (nI a.2), .int ma, .int ex, .ref ki])), (t, .inl (cB, n, .inl (tx u))), (q215, .inr (0, [.ref t, .int (nI o4.1.1), .int (nI o4.2)]))] := hD
      subst ho4
      exact W.aret (v := .ref q215) hx hb hr (Or.inl ⟨_, rfl⟩) (Or.inr ⟨_, rfl⟩) (fun t ht hW => ⟨⟨(a.1, a.2), q215, rfl, (row_fn 2048 _ _ _ hJ.2.2.1 hJ.2.2.2 hex hJ.2.1), by rw [ht]; exact hP, va_K.moved hW.alike hK, hD⟩, hS.F ht⟩) hS.2.2 d_Reader_name_228
    · refine lv_aload_n hx hb d_Reader_name_37 rfl (lv_at hl 0 rfl) ?_
      refine lv_bipush (v := 49) hx hb d_Reader_name_38 (by decide) ?_
      refine lv_iload_n hx hb d_Reader_name_40 rfl (lv_at hl 1 rfl) ?_
      have hFc := va_free (wc := [(h, .inr (4, [.ref res, .ref t, .int (nI a.1.1), .int (nI a.1.2.1), .int (wI a.1.2.2), .int (nI a.2), .int ma, .int ex, .ref ki])), (t, .inl (cB, n, .inl (tx u)))]) hD hS hA [0, 1] rfl
      refine va_calli (mu_runU (As := [.int 49, .int (nI o4.2)]) (rest := []) ⟨hx, hb, hml, hown, hts⟩ (cC_open l dC dI sb h res t ki a.1.1 a.1.2.1 n a.1.2.2 (nI a.2) ma ex ie cB u 49 o4.2 HL21.size hu hn ((hJ.1).w hn) hi4.2.2.1 (hJ.1).1 (by decide)) (cu_of (n := 2) hts tbin q3_130 q9_192 q3_112 q9_193 q1_15 q3_113 rfl (by decide +kernel) ⟨rfl, rfl⟩ ⟨Nat.le_of_ble_eq_true rfl, Nat.le_of_ble_eq_true rfl⟩) rfl ⟨Nat.le_of_ble_eq_true rfl, Nat.le_of_ble_eq_true rfl⟩ hN (hT0.keep hS hAs) hAs (Nat.le_trans hB0 hS.1) hK hP hD [0, 1] (by decide) rfl [0] rfl 0 4 rfl rfl rfl hl.1 rfl (Nat.le_of_ble_eq_true rfl) d_Reader_name_41) hS (fun q _ h => hFc q h) hFc (fun r41 u41 tS H41 locs ht hvm hw41 hB hz1 hk1 hS => ?_)
      obtain ⟨x41, rfl⟩ : ∃ z, z = u41 := ⟨_, rfl⟩
      obtain ⟨hP1, hK1, hD1⟩ := hB
      rw [ht] at hP1
      obtain ⟨hP, hD⟩ := va_join (wr := []) (w1 := [(h, .inr (4, [.ref res, .ref t, .int (nI x41.1), .int (nI x41.2.1), .int (wI x41.2.2), .int (nI a.2), .int ma, .int ex, .ref ki])), (t, .inl (cB, n, .inl (tx u)))]) hP hD [0, 1] [] rfl rfl (by decide) (by decide) hk1 hFc hP1 hD1
      have hP : va_P (dC, dI) classes [(h, .inr (4, [.ref res, .ref t, .int (nI x41.1), .int (nI x41.2.1), .int (wI x41.2.2), .int (nI a.2), .int ma, .int ex, .ref ki])), (t, .inl (cB, n, .inl (tx u)))] H41 := hP
      have hD : va_D A [(h, .inr (4, [.ref res, .ref t, .int (nI x41.1), .int (nI x41.2.1), .int (wI x41.2.2), .int (nI a.2), .int ma, .int ex, .ref ki])), (t, .inl (cB, n, .inl (tx u)))] := hD
      have hw41 : x41 = (rd_opn u n a.1 49 o4.2).1 ∧ r41 = nI (rd_opn u n a.1 49 o4.2).2 := hw41
      have hi41 := opn_inv (u := u) (tg := 49) hJ.1 hi4.2.2.1
      obtain ⟨o41, ho41⟩ : ∃ o, o = rd_opn u n a.1 49 o4.2 := ⟨_, rfl⟩
      rw [← ho41] at hw41 hi41
      obtain ⟨rfl, rfl⟩ := hw41
      have hP : va_P (dC, dI) classes [(h, .inr (4, [.ref res, .ref t, .int (nI o41.1.1), .int (nI o41.1.2.1), .int (wI o41.1.2.2), .int (nI a.2), .int ma, .int ex, .ref ki])), (t, .inl (cB, n, .inl (tx u)))] H41 := hP
      have hD : va_D A [(h, .inr (4, [.ref res, .ref t, .int (nI o41.1.1), .int (nI o41.1.2.1), .int (wI o41.1.2.2), .int (nI a.2), .int ma, .int ex, .ref ki])), (t, .inl (cB, n, .inl (tx u)))] := hD
      refine lv_istore (lv' := [(5, .int (nI o41.2)), (0, .ref h), (2, .int (nI o4.2)), (3, .int (nI o4.1.1)), (4, .int (nI a.2))]) hx hb d_Reader_name_44 hl (by decide) rfl (fun ls hl => ?_)
      refine lv_aload_n hx hb d_Reader_name_46 rfl (lv_at hl 1 rfl) ?_
      refine lv_bipush (v := 48) hx hb d_Reader_name_47 (by decide) ?_
      refine lv_iload hx hb d_Reader_name_49 (lv_at hl 0 rfl) ?_
      have hFc := va_free (wc := [(h, .inr (4, [.ref res, .ref t, .int (nI o41.1.1), .int (nI o41.1.2.1), .int (wI o41.1.2.2), .int (nI a.2), .int ma, .int ex, .ref ki])), (t, .inl (cB, n, .inl (tx u)))]) hD hS hA [0, 1] rfl
      refine va_calli (mu_runU (As := [.int 48, .int (nI o41.2)]) (rest := []) ⟨hx, hb, hml, hown, hts⟩ (cC_open l dC dI sb h res t ki o41.1.1 o41.1.2.1 n o41.1.2.2 (nI a.2) ma ex ie cB u 48 o41.2 H41.size hu hn ((hi41.1).w hn) hi41.2.2.1 (hi41.1).1 (by decide)) (cu_of (n := 2) hts tbin q3_130 q9_192 q3_112 q9_193 q1_15 q3_113 rfl (by decide +kernel) ⟨rfl, rfl⟩ ⟨Nat.le_of_ble_eq_true rfl, Nat.le_of_ble_eq_true rfl⟩) rfl ⟨Nat.le_of_ble_eq_true rfl, Nat.le_of_ble_eq_true rfl⟩ hN (hT0.keep hS hAs) hAs (Nat.le_trans hB0 hS.1) hK hP hD [0, 1] (by decide) rfl [0] rfl 0 4 rfl rfl rfl hl.1 rfl (Nat.le_of_ble_eq_true rfl) d_Reader_name_51) hS (fun q _ h => hFc q h) hFc (fun r51 u51 tS H51 locs ht hvm hw51 hB hz1 hk1 hS => ?_)
      obtain ⟨x51, rfl⟩ : ∃ z, z = u51 := ⟨_, rfl⟩
      obtain ⟨hP1, hK1, hD1⟩ := hB
      rw [ht] at hP1
      obtain ⟨hP, hD⟩ := va_join (wr := []) (w1 := [(h, .inr (4, [.ref res, .ref t, .int (nI x51.1), .int (nI x51.2.1), .int (wI x51.2.2), .int (nI a.2), .int ma, .int ex, .ref ki])), (t, .inl (cB, n, .inl (tx u)))]) hP hD [0, 1] [] rfl rfl (by decide) (by decide) hk1 hFc hP1 hD1
      have hP : va_P (dC, dI) classes [(h, .inr (4, [.ref res, .ref t, .int (nI x51.1), .int (nI x51.2.1), .int (wI x51.2.2), .int (nI a.2), .int ma, .int ex, .ref ki])), (t, .inl (cB, n, .inl (tx u)))] H51 := hP
      have hD : va_D A [(h, .inr (4, [.ref res, .ref t, .int (nI x51.1), .int (nI x51.2.1), .int (wI x51.2.2), .int (nI a.2), .int ma, .int ex, .ref ki])), (t, .inl (cB, n, .inl (tx u)))] := hD
      have hw51 : x51 = (rd_opn u n o41.1 48 o41.2).1 ∧ r51 = nI (rd_opn u n o41.1 48 o41.2).2 := hw51
      have hi51 := opn_inv (u := u) (tg := 48) hi41.1 hi41.2.2.1
      obtain ⟨o51, ho51⟩ : ∃ o, o = rd_opn u n o41.1 48 o41.2 := ⟨_, rfl⟩
      rw [← ho51] at hw51 hi51
      obtain ⟨rfl, rfl⟩ := hw51
      have hP : va_P (dC, dI) classes [(h, .inr (4, [.ref res, .ref t, .int (nI o51.1.1), .int (nI o51.1.2.1), .int (wI o51.1.2.2), .int (nI a.2), .int ma, .int ex, .ref ki])), (t, .inl (cB, n, .inl (tx u)))] H51 := hP
      have hD : va_D A [(h, .inr (4, [.ref res, .ref t, .int (nI o51.1.1), .int (nI o51.1.2.1), .int (wI o51.1.2.2), .int (nI a.2), .int ma, .int ex, .ref ki])), (t, .inl (cB, n, .inl (tx u)))] := hD
      refine lv_istore (lv' := [(6, .int (nI o51.2)), (5, .int (nI o41.2)), (0, .ref h), (2, .int (nI o4.2)), (3, .int (nI o4.1.1)), (4, .int (nI a.2))]) hx hb d_Reader_name_54 hl (by decide) rfl (fun ls hl => ?_)
      refine lv_aload_n hx hb d_Reader_name_56 rfl (lv_at hl 2 rfl) ?_
      refine lv_bipush (v := 6) hx hb d_Reader_name_57 (by decide) ?_
      refine lv_iload hx hb d_Reader_name_59 (lv_at hl 0 rfl) ?_
      have hFc := va_free (wc := [(h, .inr (4, [.ref res, .ref t, .int (nI o51.1.1), .int (nI o51.1.2.1), .int (wI o51.1.2.2), .int (nI a.2), .int ma, .int ex, .ref ki])), (t, .inl (cB, n, .inl (tx u)))]) hD hS hA [0, 1] rfl
      refine va_calli (mu_runU (As := [.int 6, .int (nI o51.2)]) (rest := []) ⟨hx, hb, hml, hown, hts⟩ (cC_open l dC dI sb h res t ki o51.1.1 o51.1.2.1 n o51.1.2.2 (nI a.2) ma ex ie cB u 6 o51.2 H51.size hu hn ((hi51.1).w hn) hi51.2.2.1 (hi51.1).1 (by decide)) (cu_of (n := 2) hts tbin q3_130 q9_192 q3_112 q9_193 q1_15 q3_113 rfl (by decide +kernel) ⟨rfl, rfl⟩ ⟨Nat.le_of_ble_eq_true rfl, Nat.le_of_ble_eq_true rfl⟩) rfl ⟨Nat.le_of_ble_eq_true rfl, Nat.le_of_ble_eq_true rfl⟩ hN (hT0.keep hS hAs) hAs (Nat.le_trans hB0 hS.1) hK hP hD [0, 1] (by decide) rfl [0] rfl 0 4 rfl rfl rfl hl.1 rfl (Nat.le_of_ble_eq_true rfl) d_Reader_name_61) hS (fun q _ h => hFc q h) hFc (fun r61 u61 tS H61 locs ht hvm hw61 hB hz1 hk1 hS => ?_)
      obtain ⟨x61, rfl⟩ : ∃ z, z = u61 := ⟨_, rfl⟩
      obtain ⟨hP1, hK1, hD1⟩ := hB
      rw [ht] at hP1
      obtain ⟨hP, hD⟩ := va_join (wr := []) (w1 := [(h, .inr (4, [.ref res, .ref t, .int (nI x61.1), .int (nI x61.2.1), .int (wI x61.2.2), .int (nI a.2), .int ma, .int ex, .ref ki])), (t, .inl (cB, n, .inl (tx u)))]) hP hD [0, 1] [] rfl rfl (by decide) (by decide) hk1 hFc hP1 hD1
      have hP : va_P (dC, dI) classes [(h, .inr (4, [.ref res, .ref t, .int (nI x61.1), .int (nI x61.2.1), .int (wI x61.2.2), .int (nI a.2), .int ma, .int ex, .ref ki])), (t, .inl (cB, n, .inl (tx u)))] H61 := hP
      have hD : va_D A [(h, .inr (4, [.ref res, .ref t, .int (nI x61.1), .int (nI x61.2.1), .int (wI x61.2.2), .int (nI a.2), .int ma, .int ex, .ref ki])), (t, .inl (cB, n, .inl (tx u)))] := hD
      have hw61 : x61 = (rd_opn u n o51.1 6 o51.2).1 ∧ r61 = nI (rd_opn u n o51.1 6 o51.2).2 := hw61
      have hi61 := opn_inv (u := u) (tg := 6) hi51.1 hi51.2.2.1
      obtain ⟨o61, ho61⟩ : ∃ o, o = rd_opn u n o51.1 6 o51.2 := ⟨_, rfl⟩
      rw [← ho61] at hw61 hi61
      obtain ⟨rfl, rfl⟩ := hw61
      have hP : va_P (dC, dI) classes [(h, .inr (4, [.ref res, .ref t, .int (nI o61.1.1), .int (nI o61.1.2.1), .int (wI o61.1.2.2), .int (nI a.2), .int ma, .int ex, .ref ki])), (t, .inl (cB, n, .inl (tx u)))] H61 := hP
      have hD : va_D A [(h, .inr (4, [.ref res, .ref t, .int (nI o61.1.1), .int (nI o61.1.2.1), .int (wI o61.1.2.2), .int (nI a.2), .int ma, .int ex, .ref ki])), (t, .inl (cB, n, .inl (tx u)))] := hD
      refine lv_istore (lv' := [(7, .int (nI o61.2)), (6, .int (nI o51.2)), (5, .int (nI o41.2)), (0, .ref h), (2, .int (nI o4.2)), (3, .int (nI o4.1.1)), (4, .int (nI a.2))]) hx hb d_Reader_name_64 hl (by decide) rfl (fun ls hl => ?_)
      refine lv_aload_n hx hb d_Reader_name_66 rfl (lv_at hl 3 rfl) ?_
      refine lv_iload hx hb d_Reader_name_67 (lv_at hl 0 rfl) ?_
      refine lv_aload_n hx hb d_Reader_name_69 rfl (lv_at hl 3 rfl) ?_
      refine lv_aload_n hx hb d_Reader_name_70 rfl (lv_at hl 3 rfl) ?_
      refine va_get (v := .int (nI o61.1.1)) hx hb htb i_CertificateReader hown hK hP 0 rfl rfl 2 (by decide) (htb _ q3_62) (fun _ h9 => h9) rfl d_Reader_name_71 ?_
      refine lv_iload hx hb d_Reader_name_74 (lv_at hl 0 rfl) ?_
      refine vp_callSi (pu_callU (As := [.int (nI o61.1.1), .int (nI o61.2)]) (rest := [.int (nI o61.2), .ref h]) ⟨hx, hb, hml, hown, hts⟩ (cC_isOid l dC dI sb h res t ki o61.1.1 o61.1.2.1 n o61.1.2.2 (nI a.2) ma ex ie cB u o61.1.1 o61.2 hu hn hi61.2.1 hi61.2.2.1) (cu_of (n := 2) hts tbin q3_202 q9_204 q3_204 qx_2 q1_15 q3_205 rfl (by decide +kernel) ⟨rfl, rfl⟩ ⟨Nat.le_of_ble_eq_true rfl, Nat.le_of_ble_eq_true rfl⟩) rfl ⟨Nat.le_of_ble_eq_true rfl, Nat.le_of_ble_eq_true rfl⟩ hN (hT0.keep hS hAs) hK hP [0, 1] rfl [0] rfl 0 4 rfl rfl rfl hl.1 rfl (Nat.le_of_ble_eq_true rfl) d_Reader_name_76) (fun r76 hr76 => ?_)
      have hFc := va_free (wc := [(h, .inr (4, [.ref res, .ref t, .int (nI o61.1.1), .int (nI o61.1.2.1), .int (wI o61.1.2.2), .int (nI a.2), .int ma, .int ex, .ref ki]))]) hD hS hA [0] rfl
      refine va_callv (mu_runU (As := [.int (nI o61.2), .int r76]) (rest := []) ⟨hx, hb, hml, hown, hts⟩ (cC_leave l dC dI sb h res t ki o61.1.1 o61.1.2.1 n o61.1.2.2 (nI a.2) ma ex ie cB u o61.2 r76 H61.size ((hi61.1).w hn)) (cu_of (n := 2) hts tbin q3_131 q3_133 q3_132 q3_134 q1_15 q3_136 rfl (by decide +kernel) ⟨rfl, rfl⟩ ⟨Nat.le_of_ble_eq_true rfl, Nat.le_of_ble_eq_true rfl⟩) rfl ⟨Nat.le_of_ble_eq_true rfl, Nat.le_of_ble_eq_true rfl⟩ hN (hT0.keep hS hAs) hAs (Nat.le_trans hB0 hS.1) hK hP hD [0] (by decide) rfl [] rfl 0 4 rfl rfl rfl hl.1 rfl (Nat.le_of_ble_eq_true rfl) d_Reader_name_79) hS (fun q _ h => hFc q h) hFc (fun u79 tS H79 locs ht hvm hw79 hB hz1 hk1 hS => ?_)
      obtain ⟨x79, rfl⟩ : ∃ z, z = u79 := ⟨_, rfl⟩
      obtain ⟨hP1, hK1, hD1⟩ := hB
      rw [ht] at hP1
      obtain ⟨hP, hD⟩ := va_join (wr := [(t, .inl (cB, n, .inl (tx u)))]) (w1 := [(h, .inr (4, [.ref res, .ref t, .int (nI x79.1), .int (nI x79.2.1), .int (wI x79.2.2), .int (nI a.2), .int ma, .int ex, .ref ki]))]) hP hD [0] [1] rfl rfl (by decide) (by decide) hk1 hFc hP1 hD1
      have hP : va_P (dC, dI) classes [(t, .inl (cB, n, .inl (tx u))), (h, .inr (4, [.ref res, .ref t, .int (nI x79.1), .int (nI x79.2.1), .int (wI x79.2.2), .int (nI a.2), .int ma, .int ex, .ref ki]))] H79 := hP
      have hD : va_D A [(t, .inl (cB, n, .inl (tx u))), (h, .inr (4, [.ref res, .ref t, .int (nI x79.1), .int (nI x79.2.1), .int (wI x79.2.2), .int (nI a.2), .int ma, .int ex, .ref ki]))] := hD
      have hw79 : x79 = rd_lea o61.1 o61.2 r76 := hw79
      have hi79 : rdInv n x79 := by rw [hw79]; exact lea_inv hi61.1 hi61.2.2.1
      refine w_join (J := fun v => v = nI (stTag u x79 o51.2)) (pc := 116) (ls := ls) (rest := []) (fun v hv => ?_) (fun k116 => ?_)
      · skip
        subst hv
        refine lv_istore (lv' := [(8, .int (nI (stTag u x79 o51.2))), (7, .int (nI o61.2)), (6, .int (nI o51.2)), (5, .int (nI o41.2)), (0, .ref h), (2, .int (nI o4.2)), (3, .int (nI o4.1.1)), (4, .int (nI a.2))]) hx hb d_Reader_name_116 hl (by decide) rfl (fun ls hl => ?_)
        refine lv_aload_n hx hb d_Reader_name_118 rfl (lv_at hl 4 rfl) ?_
        refine lv_iload hx hb d_Reader_name_119 (lv_at hl 0 rfl) ?_
        refine lv_iload hx hb d_Reader_name_121 (lv_at hl 2 rfl) ?_
        have hFc := va_free (wc := [(h, .inr (4, [.ref res, .ref t, .int (nI x79.1), .int (nI x79.2.1), .int (wI x79.2.2), .int (nI a.2), .int ma, .int ex, .ref ki])), (t, .inl (cB, n, .inl (tx u)))]) hD hS hA [1, 0] rfl
        refine va_calli (mu_runU (As := [.int (nI (stTag u x79 o51.2)), .int (nI o51.2)]) (rest := []) ⟨hx, hb, hml, hown, hts⟩ (cC_open l dC dI sb h res t ki x79.1 x79.2.1 n x79.2.2 (nI a.2) ma ex ie cB u (stTag u x79 o51.2) o51.2 H79.size hu hn ((hi79).w hn) hi51.2.2.1 (hi79).1 (stTag_lt _ _ _)) (cu_of (n := 2) hts tbin q3_130 q9_192 q3_112 q9_193 q1_15 q3_113 rfl (by decide +kernel) ⟨rfl, rfl⟩ ⟨Nat.le_of_ble_eq_true rfl, Nat.le_of_ble_eq_true rfl⟩) rfl ⟨Nat.le_of_ble_eq_true rfl, Nat.le_of_ble_eq_true rfl⟩ hN (hT0.keep hS hAs) hAs (Nat.le_trans hB0 hS.1) hK hP hD [1, 0] (by decide) rfl [0] rfl 1 4 rfl rfl rfl hl.1 rfl (Nat.le_of_ble_eq_true rfl) d_Reader_name_123) hS (fun q _ h => hFc q h) hFc (fun r123 u123 tS H123 locs ht hvm hw123 hB hz1 hk1 hS => ?_)
        obtain ⟨x123, rfl⟩ : ∃ z, z = u123 := ⟨_, rfl⟩
        obtain ⟨hP1, hK1, hD1⟩ := hB
        rw [ht] at hP1
        obtain ⟨hP, hD⟩ := va_join (wr := []) (w1 := [(h, .inr (4, [.ref res, .ref t, .int (nI x123.1), .int (nI x123.2.1), .int (wI x123.2.2), .int (nI a.2), .int ma, .int ex, .ref ki])), (t, .inl (cB, n, .inl (tx u)))]) hP hD [1, 0] [] rfl rfl (by decide) (by decide) hk1 hFc hP1 hD1
        have hP : va_P (dC, dI) classes [(h, .inr (4, [.ref res, .ref t, .int (nI x123.1), .int (nI x123.2.1), .int (wI x123.2.2), .int (nI a.2), .int ma, .int ex, .ref ki])), (t, .inl (cB, n, .inl (tx u)))] H123 := hP
        have hD : va_D A [(h, .inr (4, [.ref res, .ref t, .int (nI x123.1), .int (nI x123.2.1), .int (wI x123.2.2), .int (nI a.2), .int ma, .int ex, .ref ki])), (t, .inl (cB, n, .inl (tx u)))] := hD
        have hw123 : x123 = (rd_opn u n x79 (stTag u x79 o51.2) o51.2).1 ∧ r123 = nI (rd_opn u n x79 (stTag u x79 o51.2) o51.2).2 := hw123
        have hi123 := opn_inv (u := u) (tg := (stTag u x79 o51.2)) hi79 hi51.2.2.1
        obtain ⟨o123, ho123⟩ : ∃ o, o = rd_opn u n x79 (stTag u x79 o51.2) o51.2 := ⟨_, rfl⟩
        rw [← ho123] at hw123 hi123
        obtain ⟨rfl, rfl⟩ := hw123
        have hP : va_P (dC, dI) classes [(h, .inr (4, [.ref res, .ref t, .int (nI o123.1.1), .int (nI o123.1.2.1), .int (wI o123.1.2.2), .int (nI a.2), .int ma, .int ex, .ref ki])), (t, .inl (cB, n, .inl (tx u)))] H123 := hP
        have hD : va_D A [(h, .inr (4, [.ref res, .ref t, .int (nI o123.1.1), .int (nI o123.1.2.1), .int (wI o123.1.2.2), .int (nI a.2), .int ma, .int ex, .ref ki])), (t, .inl (cB, n, .inl (tx u)))] := hD
        refine lv_istore (lv' := [(9, .int (nI o123.2)), (8, .int (nI (stTag u x79 o51.2))), (7, .int (nI o61.2)), (6, .int (nI o51.2)), (5, .int (nI o41.2)), (0, .ref h), (2, .int (nI o4.2)), (3, .int (nI o4.1.1)), (4, .int (nI a.2))]) hx hb d_Reader_name_126 hl (by decide) rfl (fun ls hl => ?_)
        refine w_join (J := fun v' => bz v' (strOK u (stTag u x79 o51.2) o123.1.1 o123.2)) (pc := 160) (ls := ls) (rest := []) (fun v' hv' => ?_) (fun k160 => ?_)
        · skip
          refine lv_istore (lv' := [(10, .int v'), (9, .int (nI o123.2)), (8, .int (nI (stTag u x79 o51.2))), (7, .int (nI o61.2)), (6, .int (nI o51.2)), (5, .int (nI o41.2)), (0, .ref h), (2, .int (nI o4.2)), (3, .int (nI o4.1.1)), (4, .int (nI a.2))]) hx hb d_Reader_name_160 hl (by decide) rfl (fun ls hl => ?_)
          refine lv_aload_n hx hb d_Reader_name_162 rfl (lv_at hl 6 rfl) ?_
          refine lv_iload hx hb d_Reader_name_163 (lv_at hl 1 rfl) ?_
          refine w_join (J := fun v'' => bz v'' (o123.1.1 < o123.2 ∧ strOK u (stTag u x79 o51.2) o123.1.1 o123.2)) (pc := 184) (ls := ls) (rest := [.int (nI o123.2), .ref h]) (fun v'' hv'' => ?_) (fun k184 => ?_)
          · skip
            have hFc := va_free (wc := [(h, .inr (4, [.ref res, .ref t, .int (nI o123.1.1), .int (nI o123.1.2.1), .int (wI o123.1.2.2), .int (nI a.2), .int ma, .int ex, .ref ki]))]) hD hS hA [0] rfl
            refine va_callv (mu_runU (As := [.int (nI o123.2), .int v'']) (rest := []) ⟨hx, hb, hml, hown, hts⟩ (cC_leave l dC dI sb h res t ki o123.1.1 o123.1.2.1 n o123.1.2.2 (nI a.2) ma ex ie cB u o123.2 v'' H123.size ((hi123.1).w hn)) (cu_of (n := 2) hts tbin q3_131 q3_133 q3_132 q3_134 q1_15 q3_136 rfl (by decide +kernel) ⟨rfl, rfl⟩ ⟨Nat.le_of_ble_eq_true rfl, Nat.le_of_ble_eq_true rfl⟩) rfl ⟨Nat.le_of_ble_eq_true rfl, Nat.le_of_ble_eq_true rfl⟩ hN (hT0.keep hS hAs) hAs (Nat.le_trans hB0 hS.1) hK hP hD [0] (by decide) rfl [] rfl 0 4 rfl rfl rfl hl.1 rfl (Nat.le_of_ble_eq_true rfl) d_Reader_name_184) hS (fun q _ h => hFc q h) hFc (fun u184 tS H184 locs ht hvm hw184 hB hz1 hk1 hS => ?_)
            obtain ⟨x184, rfl⟩ : ∃ z, z = u184 := ⟨_, rfl⟩
            obtain ⟨hP1, hK1, hD1⟩ := hB
            rw [ht] at hP1
            obtain ⟨hP, hD⟩ := va_join (wr := [(t, .inl (cB, n, .inl (tx u)))]) (w1 := [(h, .inr (4, [.ref res, .ref t, .int (nI x184.1), .int (nI x184.2.1), .int (wI x184.2.2), .int (nI a.2), .int ma, .int ex, .ref ki]))]) hP hD [0] [1] rfl rfl (by decide) (by decide) hk1 hFc hP1 hD1
            have hP : va_P (dC, dI) classes [(t, .inl (cB, n, .inl (tx u))), (h, .inr (4, [.ref res, .ref t, .int (nI x184.1), .int (nI x184.2.1), .int (wI x184.2.2), .int (nI a.2), .int ma, .int ex, .ref ki]))] H184 := hP
            have hD : va_D A [(t, .inl (cB, n, .inl (tx u))), (h, .inr (4, [.ref res, .ref t, .int (nI x184.1), .int (nI x184.2.1), .int (wI x184.2.2), .int (nI a.2), .int ma, .int ex, .ref ki]))] := hD
            have hw184 : x184 = rd_lea o123.1 o123.2 v'' := hw184
            have hi184 : rdInv n x184 := by rw [hw184]; exact lea_inv hi123.1 hi123.2.2.1
            refine lv_aload_n hx hb d_Reader_name_187 rfl (lv_at hl 6 rfl) ?_
            refine lv_iload hx hb d_Reader_name_188 (lv_at hl 4 rfl) ?_
            have hFc := va_free (wc := [(h, .inr (4, [.ref res, .ref t, .int (nI x184.1), .int (nI x184.2.1), .int (wI x184.2.2), .int (nI a.2), .int ma, .int ex, .ref ki]))]) hD hS hA [1] rfl
            refine va_callv (mu_runU (As := [.int (nI o51.2)]) (rest := []) ⟨hx, hb, hml, hown, hts⟩ (cC_finish l dC dI sb h res t ki x184.1 x184.2.1 n x184.2.2 (nI a.2) ma ex ie cB u o51.2 H184.size ((hi184).w hn) (by have := (hi184).1; omega) (by have := hi51.2.2.1; omega)) (cu_of (n := 1) hts tbin q3_183 q9_201 q3_163 q9_202 q1_15 q3_164 rfl (by decide +kernel) ⟨rfl, rfl⟩ ⟨Nat.le_of_ble_eq_true rfl, Nat.le_of_ble_eq_true rfl⟩) rfl ⟨Nat.le_of_ble_eq_true rfl, Nat.le_of_ble_eq_true rfl⟩ hN (hT0.keep hS hAs) hAs (Nat.le_trans hB0 hS.1) hK hP hD [1] (by decide) rfl [] rfl 1 4 rfl rfl rfl hl.1 rfl (Nat.le_of_ble_eq_true rfl) d_Reader_name_190) hS (fun q _ h => hFc q h) hFc (fun u190 tS H190 locs ht hvm hw190 hB hz1 hk1 hS => ?_)
            obtain ⟨x190, rfl⟩ : ∃ z, z = u190 := ⟨_, rfl⟩
            obtain ⟨hP1, hK1, hD1⟩ := hB
            rw [ht] at hP1
            obtain ⟨hP, hD⟩ := va_join (wr := [(t, .inl (cB, n, .inl (tx u)))]) (w1 := [(h, .inr (4, [.ref res, .ref t, .int (nI x190.1), .int (nI x190.2.1), .int (wI x190.2.2), .int (nI a.2), .int ma, .int ex, .ref ki]))]) hP hD [1] [0] rfl rfl (by decide) (by decide) hk1 hFc hP1 hD1
            have hP : va_P (dC, dI) classes [(t, .inl (cB, n, .inl (tx u))), (h, .inr (4, [.ref res, .ref t, .int (nI x190.1), .int (nI x190.2.1), .int (wI x190.2.2), .int (nI a.2), .int ma, .int ex, .ref ki]))] H190 := hP
            have hD : va_D A [(t, .inl (cB, n, .inl (tx u))), (h, .inr (4, [.ref res, .ref t, .int (nI x190.1), .int (nI x190.2.1), .int (wI x190.2.2), .int (nI a.2), .int ma, .int ex, .ref ki]))] := hD
            have hw190 : x190 = rd_fin x184 o51.2 := hw190
            have hi190 : rdInv n x190 := by rw [hw190]; exact fin_inv hi184
            refine lv_aload_n hx hb d_Reader_name_193 rfl (lv_at hl 6 rfl) ?_
            refine lv_iload hx hb d_Reader_name_194 (lv_at hl 5 rfl) ?_
            have hFc := va_free (wc := [(h, .inr (4, [.ref res, .ref t, .int (nI x190.1), .int (nI x190.2.1), .int (wI x190.2.2), .int (nI a.2), .int ma, .int ex, .ref ki]))]) hD hS hA [1] rfl
            refine va_callv (mu_runU (As := [.int (nI o41.2)]) (rest := []) ⟨hx, hb, hml, hown, hts⟩ (cC_finish l dC dI sb h res t ki x190.1 x190.2.1 n x190.2.2 (nI a.2) ma ex ie cB u o41.2 H190.size ((hi190).w hn) (by have := (hi190).1; omega) (by have := hi41.2.2.1; omega)) (cu_of (n := 1) hts tbin q3_183 q9_201 q3_163 q9_202 q1_15 q3_164 rfl (by decide +kernel) ⟨rfl, rfl⟩ ⟨Nat.le_of_ble_eq_true rfl, Nat.le_of_ble_eq_true rfl⟩) rfl ⟨Nat.le_of_ble_eq_true rfl, Nat.le_of_ble_eq_true rfl⟩ hN (hT0.keep hS hAs) hAs (Nat.le_trans hB0 hS.1) hK hP hD [1] (by decide) rfl [] rfl 1 4 rfl rfl rfl hl.1 rfl (Nat.le_of_ble_eq_true rfl) d_Reader_name_196) hS (fun q _ h => hFc q h) hFc (fun u196 tS H196 locs ht hvm hw196 hB hz1 hk1 hS => ?_)
            obtain ⟨x196, rfl⟩ : ∃ z, z = u196 := ⟨_, rfl⟩
            obtain ⟨hP1, hK1, hD1⟩ := hB
            rw [ht] at hP1
            obtain ⟨hP, hD⟩ := va_join (wr := [(t, .inl (cB, n, .inl (tx u)))]) (w1 := [(h, .inr (4, [.ref res, .ref t, .int (nI x196.1), .int (nI x196.2.1), .int (wI x196.2.2), .int (nI a.2), .int ma, .int ex, .ref ki]))]) hP hD [1] [0] rfl rfl (by decide) (by decide) hk1 hFc hP1 hD1
            have hP : va_P (dC, dI) classes [(t, .inl (cB, n, .inl (tx u))), (h, .inr (4, [.ref res, .ref t, .int (nI x196.1), .int (nI x196.2.1), .int (wI x196.2.2), .int (nI a.2), .int ma, .int ex, .ref ki]))] H196 := hP
            have hD : va_D A [(t, .inl (cB, n, .inl (tx u))), (h, .inr (4, [.ref res, .ref t, .int (nI x196.1), .int (nI x196.2.1), .int (wI x196.2.2), .int (nI a.2), .int ma, .int ex, .ref ki]))] := hD
            have hw196 : x196 = rd_fin x190 o41.2 := hw196
            have hi196 : rdInv n x196 := by rw [hw196]; exact fin_inv hi190
            refine lv_aload_n hx hb d_Reader_name_199 rfl (lv_at hl 6 rfl) ?_
            refine lv_dup hx hb d_Reader_name_200 rfl ?_
            refine va_get (v := .int (nI a.2)) hx hb htb i_CertificateReader hown hK hP 1 rfl rfl 5 (by decide) (htb _ q3_73) (fun _ h9 => h9) rfl d_Reader_name_201 ?_
            refine lv_iconst (v := 1) hx hb d_Reader_name_204 (by decide) ?_
            refine lv_iadd hx hb d_Reader_name_205 ?_
            rw [show ((nI a.2) + 1 : Int32) = nI (a.2 + 1) from nI_1 _]
            refine va_put (v := .int (nI (a.2 + 1))) (ty := .int) hx hb htb i_CertificateReader t_CertificateReader t_CertificateReader_ok n_CertificateReader hown hK hP hD hS 1 rfl rfl 5 (by decide) (htb _ q3_73) (fun _ h9 => h9) rfl (by decide +kernel) rfl rfl (Nat.le_of_ble_eq_true rfl) d_Reader_name_206 (fun H206 locs hP hD hS => ?_)
            have hP : va_P (dC, dI) classes [(t, .inl (cB, n, .inl (tx u))), (h, .inr (4, [.ref res, .ref t, .int (nI x196.1), .int (nI x196.2.1), .int (wI x196.2.2), .int (nI (a.2 + 1)), .int ma, .int ex, .ref ki]))] H206 := hP
            have hD : va_D A [(t, .inl (cB, n, .inl (tx u))), (h, .inr (4, [.ref res, .ref t, .int (nI x196.1), .int (nI x196.2.1), .int (wI x196.2.2), .int (nI (a.2 + 1)), .int ma, .int ex, .ref ki]))] := hD
            refine lv_iinc (v := nI (a.2 + 1)) (lv' := [(4, .int (nI (a.2 + 1))), (10, .int v'), (9, .int (nI o123.2)), (8, .int (nI (stTag u x79 o51.2))), (7, .int (nI o61.2)), (6, .int (nI o51.2)), (5, .int (nI o41.2)), (0, .ref h), (2, .int (nI o4.2)), (3, .int (nI o4.1.1))]) hx hb d_Reader_name_209 hl (k := 9) rfl (nI_1 _) (by decide) rfl (fun ls hl => ?_)
            refine lv_goto (tgt := 21) hx hb d_Reader_name_212 (by decide) ?_
            exact ih (x196, a.2 + 1) _ _ ls (by show 2048 - (a.2 + 1) < 2048 - a.2; omega) (⟨hi196, hlt, by rw [bz_zP hr76] at hw79; rw [bz_zP hv''] at hw184; subst hw196; subst hw190; subst hw184; subst ho123; subst hw79; subst ho61; subst ho51; subst ho41; show _ = rd_part u n (rd_it u n o4.2 a.2 o4.1) o4.2; rw [← hJ.2.2.1]; rfl, fun j hj => (Nat.lt_succ_iff_lt_or_eq.mp hj).elim (hJ.2.2.2 j) (fun q => by rw [q, ← hJ.2.2.1]; exact bz_1 hr31 c34)⟩) (hP.sub [1, 0] rfl) (hD.sub [1, 0] (by decide) rfl) hS (lv_sub hl [7, 8, 9, 0] rfl)
          · skip
            refine lv_iload hx hb d_Reader_name_165 (lv_at hl 1 rfl) ?_
            refine lv_aload_n hx hb d_Reader_name_167 rfl (lv_at hl 6 rfl) ?_
            refine va_get (v := .int (nI o123.1.1)) hx hb htb i_CertificateReader hown hK hP 0 rfl rfl 2 (by decide) (htb _ q3_62) (fun _ h9 => h9) rfl d_Reader_name_168 ?_
            refine lv_icmp_le (tgt := 183) hx hb d_Reader_name_171 (by decide) (fun c171 => ?_) (fun c171 => ?_)
            · refine lv_iconst (v := 0) hx hb d_Reader_name_183 (by decide) ?_
              exact k184 _ (bz_f (fun q => absurd q.1 (by rw [nI_leI (by have := hi123.2.2.1; omega) (by have := hi123.1.1; omega)] at c171; omega)))
            · refine lv_iload hx hb d_Reader_name_174 (lv_at hl 0 rfl) ?_
              refine lv_if_eq (tgt := 183) hx hb d_Reader_name_176 (by decide) (fun c176 => ?_) (fun c176 => ?_)
              · refine lv_iconst (v := 0) hx hb d_Reader_name_183 (by decide) ?_
                exact k184 _ (bz_f (fun q => bz_0 hv' (by first | exact c176 | exact Classical.not_not.mp c176) q.2))
              · refine lv_iconst (v := 1) hx hb d_Reader_name_179 (by decide) ?_
                refine lv_goto (tgt := 184) hx hb d_Reader_name_180 (by decide) ?_
                exact k184 _ (bz_t ⟨(by rw [nI_leI (by have := hi123.2.2.1; omega) (by have := hi123.1.1; omega)] at c171; omega), bz_1 hv' c176⟩)
        · skip
          refine lv_iload hx hb d_Reader_name_128 (lv_at hl 1 rfl) ?_
          refine lv_bipush (v := 12) hx hb d_Reader_name_130 (by decide) ?_
          refine lv_icmp_ne (tgt := 148) hx hb d_Reader_name_132 (by decide) (fun c132 => ?_) (fun c132 => ?_)
          · refine lv_aload_n hx hb d_Reader_name_148 rfl (lv_at hl 5 rfl) ?_
            refine lv_iload hx hb d_Reader_name_149 (lv_at hl 1 rfl) ?_
            refine lv_aload_n hx hb d_Reader_name_151 rfl (lv_at hl 5 rfl) ?_
            refine va_get (v := .int (nI o123.1.1)) hx hb htb i_CertificateReader hown hK hP 0 rfl rfl 2 (by decide) (htb _ q3_62) (fun _ h9 => h9) rfl d_Reader_name_152 ?_
            refine lv_iload hx hb d_Reader_name_155 (lv_at hl 0 rfl) ?_
            refine vp_callSi (pu_callU (As := [.int (nI (stTag u x79 o51.2)), .int (nI o123.1.1), .int (nI o123.2)]) (rest := []) ⟨hx, hb, hml, hown, hts⟩ (cC_isSimple l dC dI sb h res t ki o123.1.1 o123.1.2.1 n o123.1.2.2 (nI a.2) ma ex ie cB u (stTag u x79 o51.2) o123.1.1 o123.2 hu hn hi123.2.1 hi123.2.2.1 (stTag_lt _ _ _)) (cu_of (n := 3) hts tbin q3_220 q9_206 q3_222 qx_3 q1_15 q3_223 rfl (by decide +kernel) ⟨rfl, rfl⟩ ⟨Nat.le_of_ble_eq_true rfl, Nat.le_of_ble_eq_true rfl⟩) rfl ⟨Nat.le_of_ble_eq_true rfl, Nat.le_of_ble_eq_true rfl⟩ hN (hT0.keep hS hAs) hK hP [0, 1] rfl [0] rfl 0 4 rfl rfl rfl hl.1 rfl (Nat.le_of_ble_eq_true rfl) d_Reader_name_157) (fun r157 hr157 => ?_)
            exact k160 _ (bz_c hr157 ⟨fun q => ⟨fun q9 => absurd q9 (fun q9 => c132 (by rw [q9]; rfl)), fun _ => q⟩, fun q => q.2 (fun q9 => c132 (by rw [q9]; rfl))⟩)
          · refine lv_aload_n hx hb d_Reader_name_135 rfl (lv_at hl 5 rfl) ?_
            refine lv_aload_n hx hb d_Reader_name_136 rfl (lv_at hl 5 rfl) ?_
            refine va_get (v := .int (nI o123.1.1)) hx hb htb i_CertificateReader hown hK hP 0 rfl rfl 2 (by decide) (htb _ q3_62) (fun _ h9 => h9) rfl d_Reader_name_137 ?_
            refine lv_iload hx hb d_Reader_name_140 (lv_at hl 0 rfl) ?_
            refine vp_callSi (pu_callU (As := [.int (nI o123.1.1), .int (nI o123.2)]) (rest := []) ⟨hx, hb, hml, hown, hts⟩ (cC_isUtf8 l dC dI sb h res t ki o123.1.1 o123.1.2.1 n o123.1.2.2 (nI a.2) ma ex ie cB u o123.1.1 o123.2 hu hn hi123.2.1 hi123.2.2.1) (cu_of (n := 2) hts tbin q3_212 q9_205 q3_214 qx_4 q1_15 q3_215 rfl (by decide +kernel) ⟨rfl, rfl⟩ ⟨Nat.le_of_ble_eq_true rfl, Nat.le_of_ble_eq_true rfl⟩) rfl ⟨Nat.le_of_ble_eq_true rfl, Nat.le_of_ble_eq_true rfl⟩ hN (hT0.keep hS hAs) hK hP [0, 1] rfl [0] rfl 0 4 rfl rfl rfl hl.1 rfl (Nat.le_of_ble_eq_true rfl) d_Reader_name_142) (fun r142 hr142 => ?_)
            refine lv_goto (tgt := 160) hx hb d_Reader_name_145 (by decide) ?_
            exact k160 _ (bz_c hr142 ⟨fun q => ⟨fun _ => q, fun q9 => absurd (show (stTag u x79 o51.2) = 12 from by have h9 := (show nI (stTag u x79 o51.2) = 12 from by first | exact c132 | exact Classical.not_not.mp c132); rw [show (12 : Int32) = nI 12 from rfl, nI_eq (by have := stTag_lt u x79 o51.2; omega) (by omega)] at h9; exact h9) q9⟩, fun q => q.1 (show (stTag u x79 o51.2) = 12 from by have h9 := (show nI (stTag u x79 o51.2) = 12 from by first | exact c132 | exact Classical.not_not.mp c132); rw [show (12 : Int32) = nI 12 from rfl, nI_eq (by have := stTag_lt u x79 o51.2; omega) (by omega)] at h9; exact h9)⟩)
      · skip
        refine lv_aload_n hx hb d_Reader_name_82 rfl (lv_at hl 3 rfl) ?_
        refine lv_bipush (v := 12) hx hb d_Reader_name_83 (by decide) ?_
        refine lv_iload hx hb d_Reader_name_85 (lv_at hl 1 rfl) ?_
        refine vp_callSi (pu_callU (As := [.int 12, .int (nI o51.2)]) (rest := []) ⟨hx, hb, hml, hown, hts⟩ (cC_nextIs l dC dI sb h res t ki x79.1 x79.2.1 n x79.2.2 (nI a.2) ma ex ie cB u 12 o51.2 hu hn ((hi79).w hn) hi51.2.2.1 (hi79).1 (by decide)) (cu_of (n := 2) hts tbin q3_206 q3_208 q3_207 q3_209 q1_15 q3_211 rfl (by decide +kernel) ⟨rfl, rfl⟩ ⟨Nat.le_of_ble_eq_true rfl, Nat.le_of_ble_eq_true rfl⟩) rfl ⟨Nat.le_of_ble_eq_true rfl, Nat.le_of_ble_eq_true rfl⟩ hN (hT0.keep hS hAs) hK hP [1, 0] rfl [0] rfl 1 4 rfl rfl rfl hl.1 rfl (Nat.le_of_ble_eq_true rfl) d_Reader_name_87) (fun r87 hr87 => ?_)
        refine lv_if_eq (tgt := 98) hx hb d_Reader_name_90 (by decide) (fun c90 => ?_) (fun c90 => ?_)
        · refine lv_aload_n hx hb d_Reader_name_98 rfl (lv_at hl 3 rfl) ?_
          refine lv_bipush (v := 22) hx hb d_Reader_name_99 (by decide) ?_
          refine lv_iload hx hb d_Reader_name_101 (lv_at hl 1 rfl) ?_
          refine vp_callSi (pu_callU (As := [.int 22, .int (nI o51.2)]) (rest := []) ⟨hx, hb, hml, hown, hts⟩ (cC_nextIs l dC dI sb h res t ki x79.1 x79.2.1 n x79.2.2 (nI a.2) ma ex ie cB u 22 o51.2 hu hn ((hi79).w hn) hi51.2.2.1 (hi79).1 (by decide)) (cu_of (n := 2) hts tbin q3_206 q3_208 q3_207 q3_209 q1_15 q3_211 rfl (by decide +kernel) ⟨rfl, rfl⟩ ⟨Nat.le_of_ble_eq_true rfl, Nat.le_of_ble_eq_true rfl⟩) rfl ⟨Nat.le_of_ble_eq_true rfl, Nat.le_of_ble_eq_true rfl⟩ hN (hT0.keep hS hAs) hK hP [1, 0] rfl [0] rfl 1 4 rfl rfl rfl hl.1 rfl (Nat.le_of_ble_eq_true rfl) d_Reader_name_103) (fun r103 hr103 => ?_)
          refine lv_if_eq (tgt := 114) hx hb d_Reader_name_106 (by decide) (fun c106 => ?_) (fun c106 => ?_)
          · refine lv_bipush (v := 19) hx hb d_Reader_name_114 (by decide) ?_
            exact k116 _ ((congrArg nI (show stTag u x79 o51.2 = 19 from (if_neg (bz_0 hr87 (by first | exact c90 | exact Classical.not_not.mp c90))).trans (if_neg (bz_0 hr103 (by first | exact c106 | exact Classical.not_not.mp c106))))).symm)
          · refine lv_bipush (v := 22) hx hb d_Reader_name_109 (by decide) ?_
            refine lv_goto (tgt := 116) hx hb d_Reader_name_111 (by decide) ?_
            exact k116 _ ((congrArg nI (show stTag u x79 o51.2 = 22 from (if_neg (bz_0 hr87 (by first | exact c90 | exact Classical.not_not.mp c90))).trans (if_pos (bz_1 hr103 c106)))).symm)
        · refine lv_bipush (v := 12) hx hb d_Reader_name_93 (by decide) ?_
          refine lv_goto (tgt := 116) hx hb d_Reader_name_95 (by decide) ?_
          exact k116 _ ((congrArg nI (show stTag u x79 o51.2 = 12 from if_pos (bz_1 hr87 c90))).symm)
set_option maxHeartbeats 4000000 in
set_option maxRecDepth 100000 in
theorem cC_fullName (l : Launch) (dC : Nat → ClassId) (dI : Nat → Nat → Nat) (sb : sB) (h res t ki n : Nat) (x : rS) (pa ma ex ie : Int32) (cB : ClassId) (u : Nat → Nat) (en : Nat) (sz : Nat) (hu : ∀ j, u j < 256) (hn : n < 2 ^ 30) (hi : rdInv n x) (he : en ≤ n) : Met l y_Reader_fullName w_Reader_fullName ({ frames := 7, cells := 1, slots := 3, locals := 204 }) (mu_P [.ref h, .int (nI en)] (dC, dI) sb [(h, .inr (4, [.ref res, .ref t, .int (nI x.1), .int (nI x.2.1), .int (wI x.2.2), .int pa, .int ma, .int ex, .ref ki])), (t, .inl (cB, n, .inl (tx u)))] [(cB, .byte)] sz) (va_Qr (fun (u' : rS × Nat) => u'.1 = (rd_fnm u n x en).1 ∧ u'.2 = (rd_fnm u n x en).2.1) (mu_Br (dC, dI) [(cB, .byte)] (va_A [(h, .inr (4, [.ref res, .ref t, .int (nI x.1), .int (nI x.2.1), .int (wI x.2.2), .int pa, .int ma, .int ex, .ref ki])), (t, .inl (cB, n, .inl (tx u)))] sz) (fun (u' : rS × Nat) (q : Nat) => [(h, .inr (4, [.ref res, .ref t, .int (nI u'.1.1), .int (nI u'.1.2.1), .int (wI u'.1.2.2), .int (nI u'.2), .int ma, .int ex, .ref ki])), (t, .inl (cB, n, .inl (tx u))), (q, .inr (0, [.ref t, .int (nI (rd_fnm u n x en).2.2.1), .int (nI (rd_fnm u n x en).2.2.2)]))])) (va_A [(h, .inr (4, [.ref res, .ref t, .int (nI x.1), .int (nI x.2.1), .int (wI x.2.2), .int pa, .int ma, .int ex, .ref ki])), (t, .inl (cB, n, .inl (tx u)))] sz)) 1 3 (va_A [(h, .inr (4, [.ref res, .ref t, .int (nI x.1), .int (nI x.2.1), .int (wI x.2.2), .int pa, .int ma, .int ex, .ref ki])), (t, .inl (cB, n, .inl (tx u)))] sz) := by
  refine Met.ofW (cc := b_Reader_fullName) (maxL := 4) (ret := (some (FieldType.object "TrustChain$Slice"))) (by decide) rfl ?_
  intro p e s m args below meth c s₁ B hml hv
  obtain ⟨rfl, hsz, hB0, hP, hK, hD0, hN, hT0⟩ := hv
  have hx := B.exec
  have hb := B.bytes
  have hr := B.returns
  have hts := atoms_spec (ws := w_Reader_fullName) B.pre
  have tbin : ∀ w ∈ tb, w ∈ w_Reader_fullName := fun w h => List.mem_cons_of_mem _ h
  have htb : ∀ w ∈ tb, w.before _ s = true := fun w h => hts w (tbin w h)
  have hown : s.vm.findClass "TrustChain$Reader" = some m.cls := findClass_of_methodNamed B.named
  have hlocks := B.notSynchronized
  subst hsz
  have hD := hD0.self (sz := s.heap.size)
  generalize hAe : va_A [(h, .inr (4, [.ref res, .ref t, .int (nI x.1), .int (nI x.2.1), .int (wI x.2.2), .int pa, .int ma, .int ex, .ref ki])), (t, .inl (cB, n, .inl (tx u)))] s.heap.size = A at hD ⊢
  have hA : ∀ q : Nat, s.heap.size ≤ q → A q := fun q h => by rw [← hAe]; exact Or.inr h
  have hAs : ∀ q : Nat, A q → sb.1 ≤ q := fun q h => by
    rw [← hAe] at h
    rcases h with ⟨k, e, h⟩ | h
    · exact hD0.2 k _ h
    · exact Nat.le_trans hB0 h
  have hS : va_S A s.heap s.heap [] := va_S.rf
  have hcs : 1 ≤ (headSpec w_Reader_fullName ({ frames := 7, cells := 1, slots := 3, locals := 204 })).room.cells ∧ 3 ≤ (headSpec w_Reader_fullName ({ frames := 7, cells := 1, slots := 3, locals := 204 })).room.slots := ⟨Nat.le_refl _, Nat.le_refl _⟩
  have hP : va_P (dC, dI) classes [(h, .inr (4, [.ref res, .ref t, .int (nI x.1), .int (nI x.2.1), .int (wI x.2.2), .int pa, .int ma, .int ex, .ref ki])), (t, .inl (cB, n, .inl (tx u)))] s.heap := hP
  have hl := lv_entry ([.ref h, .int (nI en)]) (n := 4) (Nat.le_of_ble_eq_true rfl)
  rw [lg_entry_eq]
  generalize (lg_sl ([.ref h, .int (nI en)]) ++ List.replicate (4 - (lg_sl ([.ref h, .int (nI en)])).length) Slot.unset).toArray = ls at hl ⊢
  have hl : lv_has ls 4 [(0, .ref h), (1, .int (nI en))] := hl
  refine lv_aload_n hx hb d_Reader_fullName_0 rfl (lv_at hl 0 rfl) ?_
  refine va_get (v := .int (nI x.1)) hx hb htb i_CertificateReader hown hK hP 0 rfl rfl 2 (by decide) (htb _ q3_62) (fun _ h9 => h9) rfl d_Reader_fullName_1 ?_
  refine lv_istore_n (lv' := [(2, .int (nI x.1)), (0, .ref h), (1, .int (nI en))]) hx hb d_Reader_fullName_4 rfl hl (by decide) rfl (fun ls hl => ?_)
  refine lv_aload_n hx hb d_Reader_fullName_5 rfl (lv_at hl 1 rfl) ?_
  refine lv_iload_n hx hb d_Reader_fullName_6 rfl (lv_at hl 2 rfl) ?_
  have hFc := va_free (wc := [(h, .inr (4, [.ref res, .ref t, .int (nI x.1), .int (nI x.2.1), .int (wI x.2.2), .int pa, .int ma, .int ex, .ref ki])), (t, .inl (cB, n, .inl (tx u)))]) hD hS hA [0, 1] rfl
  refine va_callr (mu_runU (As := [.int (nI en)]) (rest := []) ⟨hx, hb, hml, hown, hts⟩ (cC_name l dC dI sb h res t ki n x pa ma ex ie cB u en s.heap.size hu hn hi (by omega)) (cu_of (n := 1) hts tbin q3_190 q3_192 q3_191 q3_193 q1_15 q3_195 rfl (by decide +kernel) ⟨rfl, rfl⟩ ⟨Nat.le_of_ble_eq_true rfl, Nat.le_of_ble_eq_true rfl⟩) rfl ⟨Nat.le_of_ble_eq_true rfl, Nat.le_of_ble_eq_true rfl⟩ hN (hT0.keep hS hAs) hAs (Nat.le_trans hB0 hS.1) hK hP hD [0, 1] (by decide) rfl [0] rfl 0 4 rfl rfl rfl hl.1 rfl (Nat.le_of_ble_eq_true rfl) d_Reader_fullName_7) hS (fun q _ h => hFc q h) hFc (fun u7 q7 tS H7 locs ht hvm hw7 hB hz1 hk1 hS => ?_)
  obtain ⟨x7, n7⟩ := u7
  obtain ⟨hP1, hK1, hD1⟩ := hB
  rw [ht] at hP1
  obtain ⟨hP, hD⟩ := va_join (wr := []) (w1 := [(h, .inr (4, [.ref res, .ref t, .int (nI x7.1), .int (nI x7.2.1), .int (wI x7.2.2), .int (nI n7), .int ma, .int ex, .ref ki])), (t, .inl (cB, n, .inl (tx u))), (q7, .inr (0, [.ref t, .int (nI ((rd_nam u n x en).2.2.1)), .int (nI ((rd_nam u n x en).2.2.2))]))]) hP hD [0, 1] [] rfl rfl (by decide) (by decide) hk1 hFc hP1 hD1
  have hP : va_P (dC, dI) classes [(h, .inr (4, [.ref res, .ref t, .int (nI x7.1), .int (nI x7.2.1), .int (wI x7.2.2), .int (nI n7), .int ma, .int ex, .ref ki])), (t, .inl (cB, n, .inl (tx u))), (q7, .inr (0, [.ref t, .int (nI ((rd_nam u n x en).2.2.1)), .int (nI ((rd_nam u n x en).2.2.2))]))] H7 := hP
  have hD : va_D A [(h, .inr (4, [.ref res, .ref t, .int (nI x7.1), .int (nI x7.2.1), .int (wI x7.2.2), .int (nI n7), .int ma, .int ex, .ref ki])), (t, .inl (cB, n, .inl (tx u))), (q7, .inr (0, [.ref t, .int (nI ((rd_nam u n x en).2.2.1)), .int (nI ((rd_nam u n x en).2.2.2))]))] := hD
  have hi7 := nam_inv (u := u) hi (show en ≤ n by omega)
  obtain ⟨z7, hz7⟩ : ∃ o, o = rd_nam u n x en := ⟨_, rfl⟩
  have hw7 : x7 = (rd_nam u n x en).1 ∧ n7 = (rd_nam u n x en).2.1 := hw7
  rw [← hz7] at hw7 hi7 hP hD
  obtain ⟨rfl, rfl⟩ := hw7
  have hb7 : z7.1.1 ≤ n := hi7.1.1
  have hc7 : z7.2.2.1 ≤ z7.2.2.2 := hi7.2.1
  have hd7 : z7.2.2.2 ≤ n := hi7.2.2
  have hP : va_P (dC, dI) classes [(h, .inr (4, [.ref res, .ref t, .int (nI z7.1.1), .int (nI z7.1.2.1), .int (wI z7.1.2.2), .int (nI z7.2.1), .int ma, .int ex, .ref ki])), (t, .inl (cB, n, .inl (tx u))), (q7, .inr (0, [.ref t, .int (nI z7.2.2.1), .int (nI z7.2.2.2)]))] H7 := hP
  have hD : va_D A [(h, .inr (4, [.ref res, .ref t, .int (nI z7.1.1), .int (nI z7.1.2.1), .int (wI z7.1.2.2), .int (nI z7.2.1), .int ma, .int ex, .ref ki])), (t, .inl (cB, n, .inl (tx u))), (q7, .inr (0, [.ref t, .int (nI z7.2.2.1), .int (nI z7.2.2.2)]))] := hD
  refine lv_astore_n (lv' := [(3, .ref q7), (2, .int (nI x.1)), (0, .ref h), (1, .int (nI en))]) hx hb d_Reader_fullName_10 rfl hl (by decide) rfl (fun ls hl => ?_)
  refine lv_aload_n hx hb d_Reader_fullName_11 rfl (lv_at hl 0 rfl) ?_
  refine vp_callSi (pu_callV (As := []) (rest := []) ⟨hx, hb, hml, hown, hts⟩ tbin (c_Slice_length l dC dI sb q7 t z7.2.2.1 z7.2.2.2 (by omega)) q3_173 q3_144 q3_145 q1_22 q3_146 (n := 0) (by decide +kernel) rfl ⟨rfl, rfl⟩ ⟨Nat.le_of_ble_eq_true rfl, Nat.le_of_ble_eq_true rfl⟩ ⟨Nat.le_of_ble_eq_true rfl, Nat.le_of_ble_eq_true rfl⟩ hN (hT0.keep hS hAs) hK hP [2] rfl [] rfl 2 0 rfl rfl rfl hl.1 rfl (Nat.le_of_ble_eq_true rfl) d_Reader_fullName_12) (fun r12 hr12 => ?_)
  subst hr12
  refine lv_if_ne (tgt := 23) hx hb d_Reader_fullName_15 (by decide) (fun c15 => ?_) (fun c15 => ?_)
  · have p15 : ¬ ((z7.2.2.2 - z7.2.2.1) = 0) := (fun q9 => c15 ((nI_eq (a := (z7.2.2.2 - z7.2.2.1)) (b := 0) (by omega) (by omega)).mpr q9))
    refine lv_aload_n hx hb d_Reader_fullName_23 rfl (lv_at hl 0 rfl) ?_
    subst hz7
    refine W.widen (k := 1) (n := 3) (Nat.le_of_ble_eq_true rfl) (Nat.le_of_ble_eq_true rfl) ?_
    exact W.aret (v := .ref q7) hx hb hr (Or.inl ⟨_, rfl⟩) (Or.inr ⟨_, rfl⟩) (fun t ht hW => ⟨⟨((rd_nam u n x en).1, (rd_nam u n x en).2.1), q7, rfl, ⟨Eq.symm ((if_neg p15).trans rfl), rfl⟩, by rw [ht]; exact hP, va_K.moved hW.alike hK, hD⟩, hS.F ht⟩) hS.2.2 d_Reader_fullName_24
  · have p15 : (z7.2.2.2 - z7.2.2.1) = 0 := ((nI_eq (a := (z7.2.2.2 - z7.2.2.1)) (b := 0) (by omega) (by omega)).mp c15)
    refine lv_aload_n hx hb d_Reader_fullName_18 rfl (lv_at hl 2 rfl) ?_
    refine lv_iload_n hx hb d_Reader_fullName_19 rfl (lv_at hl 1 rfl) ?_
    have hFc := va_free (wc := [(h, .inr (4, [.ref res, .ref t, .int (nI z7.1.1), .int (nI z7.1.2.1), .int (wI z7.1.2.2), .int (nI z7.2.1), .int ma, .int ex, .ref ki]))]) hD hS hA [0] rfl
    refine va_callv (mu_runU (As := [.int (nI x.1)]) (rest := []) ⟨hx, hb, hml, hown, hts⟩ (cC_refuse l dC dI sb h res t ki z7.1.1 z7.1.2.1 n z7.1.2.2 (nI z7.2.1) ma ex ie cB u x.1 H7.size ((hi7.1).w hn)) (cu_of (n := 1) hts tbin q3_227 q3_229 q3_228 q3_230 q1_15 q3_232 rfl (by decide +kernel) ⟨rfl, rfl⟩ ⟨Nat.le_of_ble_eq_true rfl, Nat.le_of_ble_eq_true rfl⟩) rfl ⟨Nat.le_of_ble_eq_true rfl, Nat.le_of_ble_eq_true rfl⟩ hN (hT0.keep hS hAs) hAs (Nat.le_trans hB0 hS.1) hK hP hD [0] (by decide) rfl [] rfl 0 4 rfl rfl rfl hl.1 rfl (Nat.le_of_ble_eq_true rfl) d_Reader_fullName_20) hS (fun q _ h => hFc q h) hFc (fun u20 tS H20 locs ht hvm hw20 hB hz1 hk1 hS => ?_)
    obtain ⟨z20, rfl⟩ : ∃ z, z = u20 := ⟨_, rfl⟩
    obtain ⟨hP1, hK1, hD1⟩ := hB
    rw [ht] at hP1
    obtain ⟨hP, hD⟩ := va_join (wr := [(t, .inl (cB, n, .inl (tx u))), (q7, .inr (0, [.ref t, .int (nI z7.2.2.1), .int (nI z7.2.2.2)]))]) (w1 := [(h, .inr (4, [.ref res, .ref t, .int (nI z20.1), .int (nI z20.2.1), .int (wI z20.2.2), .int (nI z7.2.1), .int ma, .int ex, .ref ki]))]) hP hD [0] [1, 2] rfl rfl (by decide) (by decide) hk1 hFc hP1 hD1
    have hP : va_P (dC, dI) classes [(t, .inl (cB, n, .inl (tx u))), (q7, .inr (0, [.ref t, .int (nI z7.2.2.1), .int (nI z7.2.2.2)])), (h, .inr (4, [.ref res, .ref t, .int (nI z20.1), .int (nI z20.2.1), .int (wI z20.2.2), .int (nI z7.2.1), .int ma, .int ex, .ref ki]))] H20 := hP
    have hD : va_D A [(t, .inl (cB, n, .inl (tx u))), (q7, .inr (0, [.ref t, .int (nI z7.2.2.1), .int (nI z7.2.2.2)])), (h, .inr (4, [.ref res, .ref t, .int (nI z20.1), .int (nI z20.2.1), .int (wI z20.2.2), .int (nI z7.2.1), .int ma, .int ex, .ref ki]))] := hD
    have hz20 : z20 = rd_ref z7.1 x.1 := hw20
    have hi20 : rdInv n z20 := by rw [hz20]; exact ref_inv hi7.1 (by have := hi.1; omega)
    have hb20 : z20.1 ≤ n := hi20.1
    refine lv_aload_n hx hb d_Reader_fullName_23 rfl (lv_at hl 0 rfl) ?_
    subst hz20
    subst hz7
    refine W.widen (k := 1) (n := 3) (Nat.le_of_ble_eq_true rfl) (Nat.le_of_ble_eq_true rfl) ?_
    exact W.aret (v := .ref q7) hx hb hr (Or.inl ⟨_, rfl⟩) (Or.inr ⟨_, rfl⟩) (fun t ht hW => ⟨⟨((rd_ref (rd_nam u n x en).1 x.1), (rd_nam u n x en).2.1), q7, rfl, ⟨Eq.symm ((if_pos p15).trans rfl), rfl⟩, by rw [ht]; exact hP.sub [2, 0, 1] rfl, va_K.moved hW.alike hK, hD.sub [2, 0, 1] (by decide) rfl⟩, hS.F ht⟩) hS.2.2 d_Reader_fullName_24
set_option maxHeartbeats 4000000 in
set_option maxRecDepth 100000 in
theorem cL_name (l : Launch) (dC : Nat → ClassId) (dI : Nat → Nat → Nat) (sb : sB) (h res t ki n : Nat) (x : rS) (pa ma ex ie : Int32) (cB : ClassId) (u : Nat → Nat) (en : Nat) (sz : Nat) (hu : ∀ j, u j < 256) (hn : n < 2 ^ 30) (hi : rdInv n x) (he : en ≤ n) : Met l y_Reader_name w_Reader_name ({ frames := 6, cells := 1, slots := 3, locals := 174 }) (mu_P [.ref h, .int (nI en)] (dC, dI) sb [(h, .inr (5, [.ref res, .int ie, .ref t, .int (nI x.1), .int (nI x.2.1), .int (wI x.2.2), .int pa, .int ma, .int ex, .ref ki])), (t, .inl (cB, n, .inl (tx u)))] [(cB, .byte)] sz) (va_Qr (fun (u' : rS × Nat) => u'.1 = (rd_nam u n x en).1 ∧ u'.2 = (rd_nam u n x en).2.1) (mu_Br (dC, dI) [(cB, .byte)] (va_A [(h, .inr (5, [.ref res, .int ie, .ref t, .int (nI x.1), .int (nI x.2.1), .int (wI x.2.2), .int pa, .int ma, .int ex, .ref ki])), (t, .inl (cB, n, .inl (tx u)))] sz) (fun (u' : rS × Nat) (q : Nat) => [(h, .inr (5, [.ref res, .int ie, .ref t, .int (nI u'.1.1), .int (nI u'.1.2.1), .int (wI u'.1.2.2), .int (nI u'.2), .int ma, .int ex, .ref ki])), (t, .inl (cB, n, .inl (tx u))), (q, .inr (0, [.ref t, .int (nI (rd_opn u n x 48 en).1.1), .int (nI (rd_opn u n x 48 en).2)]))])) (va_A [(h, .inr (5, [.ref res, .int ie, .ref t, .int (nI x.1), .int (nI x.2.1), .int (wI x.2.2), .int pa, .int ma, .int ex, .ref ki])), (t, .inl (cB, n, .inl (tx u)))] sz)) 1 3 (va_A [(h, .inr (5, [.ref res, .int ie, .ref t, .int (nI x.1), .int (nI x.2.1), .int (wI x.2.2), .int pa, .int ma, .int ex, .ref ki])), (t, .inl (cB, n, .inl (tx u)))] sz) := by
  refine Met.ofW (cc := b_Reader_name) (maxL := 11) (ret := (some (FieldType.object "TrustChain$Slice"))) (by decide) rfl ?_
  intro p e s m args below meth c s₁ B hml hv
  obtain ⟨rfl, hsz, hB0, hP, hK, hD0, hN, hT0⟩ := hv
  have hx := B.exec
  have hb := B.bytes
  have hr := B.returns
  have hts := atoms_spec (ws := w_Reader_name) B.pre
  have tbin : ∀ w ∈ tb, w ∈ w_Reader_name := fun w h => List.mem_cons_of_mem _ h
  have htb : ∀ w ∈ tb, w.before _ s = true := fun w h => hts w (tbin w h)
  have hown : s.vm.findClass "TrustChain$Reader" = some m.cls := findClass_of_methodNamed B.named
  have hlocks := B.notSynchronized
  subst hsz
  have hD := hD0.self (sz := s.heap.size)
  generalize hAe : va_A [(h, .inr (5, [.ref res, .int ie, .ref t, .int (nI x.1), .int (nI x.2.1), .int (wI x.2.2), .int pa, .int ma, .int ex, .ref ki])), (t, .inl (cB, n, .inl (tx u)))] s.heap.size = A at hD ⊢
  have hA : ∀ q : Nat, s.heap.size ≤ q → A q := fun q h => by rw [← hAe]; exact Or.inr h
  have hAs : ∀ q : Nat, A q → sb.1 ≤ q := fun q h => by
    rw [← hAe] at h
    rcases h with ⟨k, e, h⟩ | h
    · exact hD0.2 k _ h
    · exact Nat.le_trans hB0 h
  have hS : va_S A s.heap s.heap [] := va_S.rf
  have hcs : 1 ≤ (headSpec w_Reader_name ({ frames := 6, cells := 1, slots := 3, locals := 174 })).room.cells ∧ 3 ≤ (headSpec w_Reader_name ({ frames := 6, cells := 1, slots := 3, locals := 174 })).room.slots := ⟨Nat.le_refl _, Nat.le_refl _⟩
  have hP : va_P (dC, dI) classes [(h, .inr (5, [.ref res, .int ie, .ref t, .int (nI x.1), .int (nI x.2.1), .int (wI x.2.2), .int pa, .int ma, .int ex, .ref ki])), (t, .inl (cB, n, .inl (tx u)))] s.heap := hP
  have hl := lv_entry ([.ref h, .int (nI en)]) (n := 11) (Nat.le_of_ble_eq_true rfl)
  rw [lg_entry_eq]
  generalize (lg_sl ([.ref h, .int (nI en)]) ++ List.replicate (11 - (lg_sl ([.ref h, .int (nI en)])).length) Slot.unset).toArray = ls at hl ⊢
  have hl : lv_has ls 11 [(0, .ref h), (1, .int (nI en))] := hl
  refine lv_aload_n hx hb d_Reader_name_0 rfl (lv_at hl 0 rfl) ?_
  refine lv_bipush (v := 48) hx hb d_Reader_name_1 (by decide) ?_
  refine lv_iload_n hx hb d_Reader_name_3 rfl (lv_at hl 1 rfl) ?_
  have hFc := va_free (wc := [(h, .inr (5, [.ref res, .int ie, .ref t, .int (nI x.1), .int (nI x.2.1), .int (wI x.2.2), .int pa, .int ma, .int ex, .ref ki])), (t, .inl (cB, n, .inl (tx u)))]) hD hS hA [0, 1] rfl
  refine va_calli (mu_runU (As := [.int 48, .int (nI en)]) (rest := []) ⟨hx, hb, hml, hown, hts⟩ (cL_open l dC dI sb h res t ki x.1 x.2.1 n x.2.2 pa ma ex ie cB u 48 en s.heap.size hu hn ((hi).w hn) he (hi).1 (by decide)) (cu_of (n := 2) hts tbin q3_130 q9_192 q3_112 q9_194 q1_15 q3_113 rfl (by decide +kernel) ⟨rfl, rfl⟩ ⟨Nat.le_of_ble_eq_true rfl, Nat.le_of_ble_eq_true rfl⟩) rfl ⟨Nat.le_of_ble_eq_true rfl, Nat.le_of_ble_eq_true rfl⟩ hN (hT0.keep hS hAs) hAs (Nat.le_trans hB0 hS.1) hK hP hD [0, 1] (by decide) rfl [0] rfl 0 5 rfl rfl rfl hl.1 rfl (Nat.le_of_ble_eq_true rfl) d_Reader_name_4) hS (fun q _ h => hFc q h) hFc (fun r4 u4 tS H4 locs ht hvm hw4 hB hz1 hk1 hS => ?_)
  obtain ⟨x4, rfl⟩ : ∃ z, z = u4 := ⟨_, rfl⟩
  obtain ⟨hP1, hK1, hD1⟩ := hB
  rw [ht] at hP1
  obtain ⟨hP, hD⟩ := va_join (wr := []) (w1 := [(h, .inr (5, [.ref res, .int ie, .ref t, .int (nI x4.1), .int (nI x4.2.1), .int (wI x4.2.2), .int pa, .int ma, .int ex, .ref ki])), (t, .inl (cB, n, .inl (tx u)))]) hP hD [0, 1] [] rfl rfl (by decide) (by decide) hk1 hFc hP1 hD1
  have hP : va_P (dC, dI) classes [(h, .inr (5, [.ref res, .int ie, .ref t, .int (nI x4.1), .int (nI x4.2.1), .int (wI x4.2.2), .int pa, .int ma, .int ex, .ref ki])), (t, .inl (cB, n, .inl (tx u)))] H4 := hP
  have hD : va_D A [(h, .inr (5, [.ref res, .int ie, .ref t, .int (nI x4.1), .int (nI x4.2.1), .int (wI x4.2.2), .int pa, .int ma, .int ex, .ref ki])), (t, .inl (cB, n, .inl (tx u)))] := hD
  have hw4 : x4 = (rd_opn u n x 48 en).1 ∧ r4 = nI (rd_opn u n x 48 en).2 := hw4
  have hi4 := opn_inv (u := u) (tg := 48) hi he
  obtain ⟨o4, ho4⟩ : ∃ o, o = rd_opn u n x 48 en := ⟨_, rfl⟩
  rw [← ho4] at hw4 hi4
  obtain ⟨rfl, rfl⟩ := hw4
  have hP : va_P (dC, dI) classes [(h, .inr (5, [.ref res, .int ie, .ref t, .int (nI o4.1.1), .int (nI o4.1.2.1), .int (wI o4.1.2.2), .int pa, .int ma, .int ex, .ref ki])), (t, .inl (cB, n, .inl (tx u)))] H4 := hP
  have hD : va_D A [(h, .inr (5, [.ref res, .int ie, .ref t, .int (nI o4.1.1), .int (nI o4.1.2.1), .int (wI o4.1.2.2), .int pa, .int ma, .int ex, .ref ki])), (t, .inl (cB, n, .inl (tx u)))] := hD
  refine lv_istore_n (lv' := [(2, .int (nI o4.2)), (0, .ref h), (1, .int (nI en))]) hx hb d_Reader_name_7 rfl hl (by decide) rfl (fun ls hl => ?_)
  refine lv_aload_n hx hb d_Reader_name_8 rfl (lv_at hl 1 rfl) ?_
  refine va_get (v := .int (nI o4.1.1)) hx hb htb i_ListReader hown hK hP 0 rfl rfl 3 (by decide) (htb _ q3_62) (fun _ h9 => h9) rfl d_Reader_name_9 ?_
  refine lv_istore_n (lv' := [(3, .int (nI o4.1.1)), (2, .int (nI o4.2)), (0, .ref h), (1, .int (nI en))]) hx hb d_Reader_name_12 rfl hl (by decide) rfl (fun ls hl => ?_)
  refine lv_aload_n hx hb d_Reader_name_13 rfl (lv_at hl 2 rfl) ?_
  refine lv_iconst (v := 0) hx hb d_Reader_name_14 (by decide) ?_
  refine va_put (v := .int 0) (ty := .int) hx hb htb i_ListReader t_ListReader t_ListReader_ok n_ListReader hown hK hP hD hS 0 rfl rfl 6 (by decide) (htb _ q3_73) (fun _ h9 => h9) rfl (by decide +kernel) rfl rfl (Nat.le_of_ble_eq_true rfl) d_Reader_name_15 (fun H15 locs hP hD hS => ?_)
  have hP : va_P (dC, dI) classes [(h, .inr (5, [.ref res, .int ie, .ref t, .int (nI o4.1.1), .int (nI o4.1.2.1), .int (wI o4.1.2.2), .int 0, .int ma, .int ex, .ref ki])), (t, .inl (cB, n, .inl (tx u)))] H15 := hP
  have hD : va_D A [(h, .inr (5, [.ref res, .int ie, .ref t, .int (nI o4.1.1), .int (nI o4.1.2.1), .int (wI o4.1.2.2), .int 0, .int ma, .int ex, .ref ki])), (t, .inl (cB, n, .inl (tx u)))] := hD
  refine lv_iconst (v := 0) hx hb d_Reader_name_18 (by decide) ?_
  refine lv_istore (lv' := [(4, .int 0), (3, .int (nI o4.1.1)), (2, .int (nI o4.2)), (0, .ref h), (1, .int (nI en))]) hx hb d_Reader_name_19 hl (by decide) rfl (fun ls hl => ?_)
  refine w_loopW (α := rS × Nat) (fun a => rdInv n a.1 ∧ a.2 ≤ 2048 ∧ a.1 = rd_it u n o4.2 a.2 o4.1 ∧ ∀ j, j < a.2 → mr (rd_it u n o4.2 j o4.1) o4.2) (fun a => 2048 - a.2) (fun a => [(0, .ref h), (2, .int (nI o4.2)), (3, .int (nI o4.1.1)), (4, .int (nI a.2))]) (fun _ => []) (fun a => [(h, .inr (5, [.ref res, .int ie, .ref t, .int (nI a.1.1), .int (nI a.1.2.1), .int (wI a.1.2.2), .int (nI a.2), .int ma, .int ex, .ref ki])), (t, .inl (cB, n, .inl (tx u)))]) 11 21 (fun a HL21 locs ls hJ hP hD hS hl ih => ?_) (o4.1, 0) _ _ ls (⟨hi4.1, Nat.zero_le _, rfl, fun j hj => absurd hj (Nat.not_lt_zero j)⟩) hP hD hS (lv_sub hl [3, 2, 1, 0] rfl)
  have hP : va_P (dC, dI) classes [(h, .inr (5, [.ref res, .int ie, .ref t, .int (nI a.1.1), .int (nI a.1.2.1), .int (wI a.1.2.2), .int (nI a.2), .int ma, .int ex, .ref ki])), (t, .inl (cB, n, .inl (tx u)))] HL21 := hP
  have hD : va_D A [(h, .inr (5, [.ref res, .int ie, .ref t, .int (nI a.1.1), .int (nI a.1.2.1), .int (wI a.1.2.2), .int (nI a.2), .int ma, .int ex, .ref ki])), (t, .inl (cB, n, .inl (tx u)))] := hD
  refine lv_iload hx hb d_Reader_name_21 (lv_at hl 3 rfl) ?_
  have hle := hJ.2.1
  refine lv_sipush (v := 2048) hx hb d_Reader_name_23 (by decide) ?_
  refine lv_icmp_ge (tgt := 215) hx hb d_Reader_name_26 (by decide) (fun c26 => ?_) (fun c26 => ?_)
  · have hex : a.2 = 2048 ∨ ¬ mr a.1 o4.2 := Or.inl (by rw [show (2048 : Int32) = nI 2048 from rfl, nI_leI (by omega) (by omega)] at c26; omega)
    refine va_new (ci := 0) (fs := [.null, .int 0, .int 0]) hx hb htb i_Slice t_Slice t_Slice_ok hown (htb _ q3_137) (htb _ q2_92) (htb _ q1_22) hK hP hD hS hA rfl (fun j hj => by rcases (show j = 0 ∨ j = 1 ∨ j = 2 by omega) with rfl | rfl | rfl <;> rfl) (Nat.le_of_ble_eq_true rfl) (Nat.le_of_ble_eq_true rfl) d_Reader_name_215 (fun q215 H215 hP hD hS => ?_)
    have hP : va_P (dC, dI) classes [(h, .inr (5, [.ref res, .int ie, .ref t, .int (nI a.1.1), .int (nI a.1.2.1), .int (wI a.1.2.2), .int (nI a.2), .int ma, .int ex, .ref ki])), (t, .inl (cB, n, .inl (tx u))), (q215, .inr (0, [.null, .int 0, .int 0]))] H215 := hP
    have hD : va_D A [(h, .inr (5, [.ref res, .int ie, .ref t, .int (nI a.1.1), .int (nI a.1.2.1), .int (wI a.1.2.2), .int (nI a.2), .int ma, .int ex, .ref ki])), (t, .inl (cB, n, .inl (tx u))), (q215, .inr (0, [.null, .int 0, .int 0]))] := hD
    refine lv_dup hx hb d_Reader_name_218 rfl ?_
    refine lv_aload_n hx hb d_Reader_name_219 rfl (lv_at hl 0 rfl) ?_
    refine va_get (v := .ref t) hx hb htb i_ListReader hown hK hP 0 rfl rfl 2 (by decide) (htb _ q3_57) (fun _ h9 => h9) rfl d_Reader_name_220 ?_
    refine lv_iload_n hx hb d_Reader_name_223 rfl (lv_at hl 2 rfl) ?_
    refine lv_iload_n hx hb d_Reader_name_224 rfl (lv_at hl 1 rfl) ?_
    have hFc := va_free (wc := [(q215, .inr (0, [.null, .int 0, .int 0]))]) hD hS hA [2] rfl
    refine va_callv (mu_runI (As := [.ref t, .int (nI o4.1.1), .int (nI o4.2)]) (rest := [.ref q215]) ⟨hx, hb, hml, hown, hts⟩ tbin (c_Slice_init l dC dI sb q215 t (nI o4.1.1) (nI o4.2) H215.size) q3_138 q2_94 q1_22 q2_95 rfl (n := 3) (by decide +kernel) rfl ⟨rfl, rfl⟩ ⟨Nat.le_of_ble_eq_true rfl, Nat.le_of_ble_eq_true rfl⟩ ⟨Nat.le_of_ble_eq_true rfl, Nat.le_of_ble_eq_true rfl⟩ hN (hT0.keep hS hAs) hAs (Nat.le_trans hB0 hS.1) hK hP hD [2] (by decide) rfl [] rfl hl.1 rfl (Nat.le_of_ble_eq_true rfl) d_Reader_name_225) hS (fun q _ h => hFc q h) hFc (fun u225 tS H225 locs ht hvm hw225 hB hz1 hk1 hS => ?_)
    skip
    obtain ⟨hP1, hK1, hD1⟩ := hB
    rw [ht] at hP1
    obtain ⟨hP, hD⟩ := va_join (wr := [(h, .inr (5, [.ref res, .int ie, .ref t, .int (nI a.1.1), .int (nI a.1.2.1), .int (wI a.1.2.2), .int (nI a.2), .int ma, .int ex, .ref ki])), (t, .inl (cB, n, .inl (tx u)))]) (w1 := [(q215, .inr (0, [.ref t, .int (nI o4.1.1), .int (nI o4.2)]))]) hP hD [2] [0, 1] rfl rfl (by decide) (by decide) hk1 hFc hP1 hD1
    have hP : va_P (dC, dI) classes [(h, .inr (5, [.ref res, .int ie, .ref t, .int (nI a.1.1), .int (nI a.1.2.1), .int (wI a.1.2.2), .int (nI a.2), .int ma, .int ex, .ref ki])), (t, .inl (cB, n, .inl (tx u))), (q215, .inr (0, [.ref t, .int (nI o4.1.1), .int (nI o4.2)]))] H225 := hP
    have hD : va_D A [(h, .inr (5, [.ref res, .int ie, .ref t, .int (nI a.1.1), .int (nI a.1.2.1), .int (wI a.1.2.2), .int (nI a.2), .int ma, .int ex, .ref ki])), (t, .inl (cB, n, .inl (tx u))), (q215, .inr (0, [.ref t, .int (nI o4.1.1), .int (nI o4.2)]))] := hD
    subst ho4
    exact W.aret (v := .ref q215) hx hb hr (Or.inl ⟨_, rfl⟩) (Or.inr ⟨_, rfl⟩) (fun t ht hW => ⟨⟨(a.1, a.2), q215, rfl, (row_fn 2048 _ _ _ hJ.2.2.1 hJ.2.2.2 hex hJ.2.1), by rw [ht]; exact hP, va_K.moved hW.alike hK, hD⟩, hS.F ht⟩) hS.2.2 d_Reader_name_228
  · have hlt : a.2 < 2048 := by rw [show (2048 : Int32) = nI 2048 from rfl, nI_leI (by omega) (by omega)] at c26; omega
    refine lv_aload_n hx hb d_Reader_name_29 rfl (lv_at hl 0 rfl) ?_
    refine lv_iload_n hx hb d_Reader_name_30 rfl (lv_at hl 1 rfl) ?_
    refine vp_callSi (pu_callU (As := [.int (nI o4.2)]) (rest := []) ⟨hx, hb, hml, hown, hts⟩ (cL_more l dC dI sb h res t ki a.1.1 a.1.2.1 n a.1.2.2 (nI a.2) ma ex ie cB u o4.2 ((hJ.1).w hn) (by have := (hJ.1).1; omega) (by have := hi4.2.2.1; omega)) (cu_of (n := 1) hts tbin q3_196 q3_198 q3_197 q3_200 q1_15 q3_201 rfl (by decide +kernel) ⟨rfl, rfl⟩ ⟨Nat.le_of_ble_eq_true rfl, Nat.le_of_ble_eq_true rfl⟩) rfl ⟨Nat.le_of_ble_eq_true rfl, Nat.le_of_ble_eq_true rfl⟩ hN (hT0.keep hS hAs) hK hP [0] rfl [] rfl 0 5 rfl rfl rfl hl.1 rfl (Nat.le_of_ble_eq_true rfl) d_Reader_name_31) (fun r31 hr31 => ?_)
    refine lv_if_eq (tgt := 215) hx hb d_Reader_name_34 (by decide) (fun c34 => ?_) (fun c34 => ?_)
    · have hex : a.2 = 2048 ∨ ¬ mr a.1 o4.2 := Or.inr (bz_0 hr31 (by first | exact c34 | exact Classical.not_not.mp c34))
      refine va_new (ci := 0) (fs := [.null, .int 0, .int 0]) hx hb htb i_Slice t_Slice t_Slice_ok hown (htb _ q3_137) (htb _ q2_92) (htb _ q1_22) hK hP hD hS hA rfl (fun j hj => by rcases (show j = 0 ∨ j = 1 ∨ j = 2 by omega) with rfl | rfl | rfl <;> rfl) (Nat.le_of_ble_eq_true rfl) (Nat.le_of_ble_eq_true rfl) d_Reader_name_215 (fun q215 H215 hP hD hS => ?_)
      have hP : va_P (dC, dI) classes [(h, .inr (5, [.ref res, .int ie, .ref t, .int (nI a.1.1), .int (nI a.1.2.1), .int (wI a.1.2.2), .int (nI a.2), .int ma, .int ex, .ref ki])), (t, .inl (cB, n, .inl (tx u))), (q215, .inr (0, [.null, .int 0, .int 0]))] H215 := hP
      have hD : va_D A [(h, .inr (5, [.ref res, .int ie, .ref t, .int (nI a.1.1), .int (nI a.1.2.1), .int (wI a.1.2.2), .int (nI a.2), .int ma, .int ex, .ref ki])), (t, .inl (cB, n, .inl (tx u))), (q215, .inr (0, [.null, .int 0, .int 0]))] := hD
      refine lv_dup hx hb d_Reader_name_218 rfl ?_
      refine lv_aload_n hx hb d_Reader_name_219 rfl (lv_at hl 0 rfl) ?_
      refine va_get (v := .ref t) hx hb htb i_ListReader hown hK hP 0 rfl rfl 2 (by decide) (htb _ q3_57) (fun _ h9 => h9) rfl d_Reader_name_220 ?_
      refine lv_iload_n hx hb d_Reader_name_223 rfl (lv_at hl 2 rfl) ?_
      refine lv_iload_n hx hb d_Reader_name_224 rfl (lv_at hl 1 rfl) ?_
      have hFc := va_free (wc := [(q215, .inr (0, [.null, .int 0, .int 0]))]) hD hS hA [2] rfl
      refine va_callv (mu_runI (As := [.ref t, .int (nI o4.1.1), .int (nI o4.2)]) (rest := [.ref q215]) ⟨hx, hb, hml, hown, hts⟩ tbin (c_Slice_init l dC dI sb q215 t (nI o4.1.1) (nI o4.2) H215.size) q3_138 q2_94 q1_22 q2_95 rfl (n := 3) (by decide +kernel) rfl ⟨rfl, rfl⟩ ⟨Nat.le_of_ble_eq_true rfl, Nat.le_of_ble_eq_true rfl⟩ ⟨Nat.le_of_ble_eq_true rfl, Nat.le_of_ble_eq_true rfl⟩ hN (hT0.keep hS hAs) hAs (Nat.le_trans hB0 hS.1) hK hP hD [2] (by decide) rfl [] rfl hl.1 rfl (Nat.le_of_ble_eq_true rfl) d_Reader_name_225) hS (fun q _ h => hFc q h) hFc (fun u225 tS H225 locs ht hvm hw225 hB hz1 hk1 hS => ?_)
      skip
      obtain ⟨hP1, hK1, hD1⟩ := hB
      rw [ht] at hP1
      obtain ⟨hP, hD⟩ := va_join (wr := [(h, .inr (5, [.ref res, .int ie, .ref t, .int (nI a.1.1), .int (nI a.1.2.1), .int (wI a.1.2.2), .int (nI a.2), .int ma, .int ex, .ref ki])), (t, .inl (cB, n, .inl (tx u)))]) (w1 := [(q215, .inr (0, [.ref t, .int (nI o4.1.1), .int (nI o4.2)]))]) hP hD [2] [0, 1] rfl rfl (by decide) (by decide) hk1 hFc hP1 hD1
      have hP : va_P (dC, dI) classes [(h, .inr (5, [.ref res, .int ie, .ref t, .int (nI a.1.1), .int (nI a.1.2.1), .int (wI a.1.2.2), .int (nI a.2), .int ma, .int ex, .ref ki])), (t, .inl (cB, n, .inl (tx u))), (q215, .inr (0, [.ref t, .int (nI o4.1.1), .int (nI o4.2)]))] H225 := hP
      have hD : va_D A [(h, .inr (5, [.ref res, .int ie, .ref t, .int (nI a.1.1), .int (nI a.1.2.1), .int (wI a.1.2.2), .int (nI a.2), .int ma, .int ex, .ref ki])), (t, .inl (cB, n, .inl (tx u))), (q215, .inr (0, [.ref t, .int (nI o4.1.1), .int (nI o4.2)]))] := hD
      subst ho4
      exact W.aret (v := .ref q215) hx hb hr (Or.inl ⟨_, rfl⟩) (Or.inr ⟨_, rfl⟩) (fun t ht hW => ⟨⟨(a.1, a.2), q215, rfl, (row_fn 2048 _ _ _ hJ.2.2.1 hJ.2.2.2 hex hJ.2.1), by rw [ht]; exact hP, va_K.moved hW.alike hK, hD⟩, hS.F ht⟩) hS.2.2 d_Reader_name_228
    · refine lv_aload_n hx hb d_Reader_name_37 rfl (lv_at hl 0 rfl) ?_
      refine lv_bipush (v := 49) hx hb d_Reader_name_38 (by decide) ?_
      refine lv_iload_n hx hb d_Reader_name_40 rfl (lv_at hl 1 rfl) ?_
      have hFc := va_free (wc := [(h, .inr (5, [.ref res, .int ie, .ref t, .int (nI a.1.1), .int (nI a.1.2.1), .int (wI a.1.2.2), .int (nI a.2), .int ma, .int ex, .ref ki])), (t, .inl (cB, n, .inl (tx u)))]) hD hS hA [0, 1] rfl
      refine va_calli (mu_runU (As := [.int 49, .int (nI o4.2)]) (rest := []) ⟨hx, hb, hml, hown, hts⟩ (cL_open l dC dI sb h res t ki a.1.1 a.1.2.1 n a.1.2.2 (nI a.2) ma ex ie cB u 49 o4.2 HL21.size hu hn ((hJ.1).w hn) hi4.2.2.1 (hJ.1).1 (by decide)) (cu_of (n := 2) hts tbin q3_130 q9_192 q3_112 q9_194 q1_15 q3_113 rfl (by decide +kernel) ⟨rfl, rfl⟩ ⟨Nat.le_of_ble_eq_true rfl, Nat.le_of_ble_eq_true rfl⟩) rfl ⟨Nat.le_of_ble_eq_true rfl, Nat.le_of_ble_eq_true rfl⟩ hN (hT0.keep hS hAs) hAs (Nat.le_trans hB0 hS.1) hK hP hD [0, 1] (by decide) rfl [0] rfl 0 5 rfl rfl rfl hl.1 rfl (Nat.le_of_ble_eq_true rfl) d_Reader_name_41) hS (fun q _ h => hFc q h) hFc (fun r41 u41 tS H41 locs ht hvm hw41 hB hz1 hk1 hS => ?_)
      obtain ⟨x41, rfl⟩ : ∃ z, z = u41 := ⟨_, rfl⟩
      obtain ⟨hP1, hK1, hD1⟩ := hB
      rw [ht] at hP1
      obtain ⟨hP, hD⟩ := va_join (wr := []) (w1 := [(h, .inr (5, [.ref res, .int ie, .ref t, .int (nI x41.1), .int (nI x41.2.1), .int (wI x41.2.2), .int (nI a.2), .int ma, .int ex, .ref ki])), (t, .inl (cB, n, .inl (tx u)))]) hP hD [0, 1] [] rfl rfl (by decide) (by decide) hk1 hFc hP1 hD1
      have hP : va_P (dC, dI) classes [(h, .inr (5, [.ref res, .int ie, .ref t, .int (nI x41.1), .int (nI x41.2.1), .int (wI x41.2.2), .int (nI a.2), .int ma, .int ex, .ref ki])), (t, .inl (cB, n, .inl (tx u)))] H41 := hP
      have hD : va_D A [(h, .inr (5, [.ref res, .int ie, .ref t, .int (nI x41.1), .int (nI x41.2.1), .int (wI x41.2.2), .int (nI a.2), .int ma, .int ex, .ref ki])), (t, .inl (cB, n, .inl (tx u)))] := hD
      have hw41 : x41 = (rd_opn u n a.1 49 o4.2).1 ∧ r41 = nI (rd_opn u n a.1 49 o4.2).2 := hw41
      have hi41 := opn_inv (u := u) (tg := 49) hJ.1 hi4.2.2.1
      obtain ⟨o41, ho41⟩ : ∃ o, o = rd_opn u n a.1 49 o4.2 := ⟨_, rfl⟩
      rw [← ho41] at hw41 hi41
      obtain ⟨rfl, rfl⟩ := hw41
      have hP : va_P (dC, dI) classes [(h, .inr (5, [.ref res, .int ie, .ref t, .int (nI o41.1.1), .int (nI o41.1.2.1), .int (wI o41.1.2.2), .int (nI a.2), .int ma, .int ex, .ref ki])), (t, .inl (cB, n, .inl (tx u)))] H41 := hP
      have hD : va_D A [(h, .inr (5, [.ref res, .int ie, .ref t, .int (nI o41.1.1), .int (nI o41.1.2.1), .int (wI o41.1.2.2), .int (nI a.2), .int ma, .int ex, .ref ki])), (t, .inl (cB, n, .inl (tx u)))] := hD
      refine lv_istore (lv' := [(5, .int (nI o41.2)), (0, .ref h), (2, .int (nI o4.2)), (3, .int (nI o4.1.1)), (4, .int (nI a.2))]) hx hb d_Reader_name_44 hl (by decide) rfl (fun ls hl => ?_)
      refine lv_aload_n hx hb d_Reader_name_46 rfl (lv_at hl 1 rfl) ?_
      refine lv_bipush (v := 48) hx hb d_Reader_name_47 (by decide) ?_
      refine lv_iload hx hb d_Reader_name_49 (lv_at hl 0 rfl) ?_
      have hFc := va_free (wc := [(h, .inr (5, [.ref res, .int ie, .ref t, .int (nI o41.1.1), .int (nI o41.1.2.1), .int (wI o41.1.2.2), .int (nI a.2), .int ma, .int ex, .ref ki])), (t, .inl (cB, n, .inl (tx u)))]) hD hS hA [0, 1] rfl
      refine va_calli (mu_runU (As := [.int 48, .int (nI o41.2)]) (rest := []) ⟨hx, hb, hml, hown, hts⟩ (cL_open l dC dI sb h res t ki o41.1.1 o41.1.2.1 n o41.1.2.2 (nI a.2) ma ex ie cB u 48 o41.2 H41.size hu hn ((hi41.1).w hn) hi41.2.2.1 (hi41.1).1 (by decide)) (cu_of (n := 2) hts tbin q3_130 q9_192 q3_112 q9_194 q1_15 q3_113 rfl (by decide +kernel) ⟨rfl, rfl⟩ ⟨Nat.le_of_ble_eq_true rfl, Nat.le_of_ble_eq_true rfl⟩) rfl ⟨Nat.le_of_ble_eq_true rfl, Nat.le_of_ble_eq_true rfl⟩ hN (hT0.keep hS hAs) hAs (Nat.le_trans hB0 hS.1) hK hP hD [0, 1] (by decide) rfl [0] rfl 0 5 rfl rfl rfl hl.1 rfl (Nat.le_of_ble_eq_true rfl) d_Reader_name_51) hS (fun q _ h => hFc q h) hFc (fun r51 u51 tS H51 locs ht hvm hw51 hB hz1 hk1 hS => ?_)
      obtain ⟨x51, rfl⟩ : ∃ z, z = u51 := ⟨_, rfl⟩
      obtain ⟨hP1, hK1, hD1⟩ := hB
      rw [ht] at hP1
      obtain ⟨hP, hD⟩ := va_join (wr := []) (w1 := [(h, .inr (5, [.ref res, .int ie, .ref t, .int (nI x51.1), .int (nI x51.2.1), .int (wI x51.2.2), .int (nI a.2), .int ma, .int ex, .ref ki])), (t, .inl (cB, n, .inl (tx u)))]) hP hD [0, 1] [] rfl rfl (by decide) (by decide) hk1 hFc hP1 hD1
      have hP : va_P (dC, dI) classes [(h, .inr (5, [.ref res, .int ie, .ref t, .int (nI x51.1), .int (nI x51.2.1), .int (wI x51.2.2), .int (nI a.2), .int ma, .int ex, .ref ki])), (t, .inl (cB, n, .inl (tx u)))] H51 := hP
      have hD : va_D A [(h, .inr (5, [.ref res, .int ie, .ref t, .int (nI x51.1), .int (nI x51.2.1), .int (wI x51.2.2), .int (nI a.2), .int ma, .int ex, .ref ki])), (t, .inl (cB, n, .inl (tx u)))] := hD
      have hw51 : x51 = (rd_opn u n o41.1 48 o41.2).1 ∧ r51 = nI (rd_opn u n o41.1 48 o41.2).2 := hw51
      have hi51 := opn_inv (u := u) (tg := 48) hi41.1 hi41.2.2.1
      obtain ⟨o51, ho51⟩ : ∃ o, o = rd_opn u n o41.1 48 o41.2 := ⟨_, rfl⟩
      rw [← ho51] at hw51 hi51
      obtain ⟨rfl, rfl⟩ := hw51
      have hP : va_P (dC, dI) classes [(h, .inr (5, [.ref res, .int ie, .ref t, .int (nI o51.1.1), .int (nI o51.1.2.1), .int (wI o51.1.2.2), .int (nI a.2), .int ma, .int ex, .ref ki])), (t, .inl (cB, n, .inl (tx u)))] H51 := hP
      have hD : va_D A [(h, .inr (5, [.ref res, .int ie, .ref t, .int (nI o51.1.1), .int (nI o51.1.2.1), .int (wI o51.1.2.2), .int (nI a.2), .int ma, .int ex, .ref ki])), (t, .inl (cB, n, .inl (tx u)))] := hD
      refine lv_istore (lv' := [(6, .int (nI o51.2)), (5, .int (nI o41.2)), (0, .ref h), (2, .int (nI o4.2)), (3, .int (nI o4.1.1)), (4, .int (nI a.2))]) hx hb d_Reader_name_54 hl (by decide) rfl (fun ls hl => ?_)
      refine lv_aload_n hx hb d_Reader_name_56 rfl (lv_at hl 2 rfl) ?_
      refine lv_bipush (v := 6) hx hb d_Reader_name_57 (by decide) ?_
      refine lv_iload hx hb d_Reader_name_59 (lv_at hl 0 rfl) ?_
      have hFc := va_free (wc := [(h, .inr (5, [.ref res, .int ie, .ref t, .int (nI o51.1.1), .int (nI o51.1.2.1), .int (wI o51.1.2.2), .int (nI a.2), .int ma, .int ex, .ref ki])), (t, .inl (cB, n, .inl (tx u)))]) hD hS hA [0, 1] rfl
      refine va_calli (mu_runU (As := [.int 6, .int (nI o51.2)]) (rest := []) ⟨hx, hb, hml, hown, hts⟩ (cL_open l dC dI sb h res t ki o51.1.1 o51.1.2.1 n o51.1.2.2 (nI a.2) ma ex ie cB u 6 o51.2 H51.size hu hn ((hi51.1).w hn) hi51.2.2.1 (hi51.1).1 (by decide)) (cu_of (n := 2) hts tbin q3_130 q9_192 q3_112 q9_194 q1_15 q3_113 rfl (by decide +kernel) ⟨rfl, rfl⟩ ⟨Nat.le_of_ble_eq_true rfl, Nat.le_of_ble_eq_true rfl⟩) rfl ⟨Nat.le_of_ble_eq_true rfl, Nat.le_of_ble_eq_true rfl⟩ hN (hT0.keep hS hAs) hAs (Nat.le_trans hB0 hS.1) hK hP hD [0, 1] (by decide) rfl [0] rfl 0 5 rfl rfl rfl hl.1 rfl (Nat.le_of_ble_eq_true rfl) d_Reader_name_61) hS (fun q _ h => hFc q h) hFc (fun r61 u61 tS H61 locs ht hvm hw61 hB hz1 hk1 hS => ?_)
      obtain ⟨x61, rfl⟩ : ∃ z, z = u61 := ⟨_, rfl⟩
      obtain ⟨hP1, hK1, hD1⟩ := hB
      rw [ht] at hP1
      obtain ⟨hP, hD⟩ := va_join (wr := []) (w1 := [(h, .inr (5, [.ref res, .int ie, .ref t, .int (nI x61.1), .int (nI x61.2.1), .int (wI x61.2.2), .int (nI a.2), .int ma, .int ex, .ref ki])), (t, .inl (cB, n, .inl (tx u)))]) hP hD [0, 1] [] rfl rfl (by decide) (by decide) hk1 hFc hP1 hD1
      have hP : va_P (dC, dI) classes [(h, .inr (5, [.ref res, .int ie, .ref t, .int (nI x61.1), .int (nI x61.2.1), .int (wI x61.2.2), .int (nI a.2), .int ma, .int ex, .ref ki])), (t, .inl (cB, n, .inl (tx u)))] H61 := hP
      have hD : va_D A [(h, .inr (5, [.ref res, .int ie, .ref t, .int (nI x61.1), .int (nI x61.2.1), .int (wI x61.2.2), .int (nI a.2), .int ma, .int ex, .ref ki])), (t, .inl (cB, n, .inl (tx u)))] := hD
      have hw61 : x61 = (rd_opn u n o51.1 6 o51.2).1 ∧ r61 = nI (rd_opn u n o51.1 6 o51.2).2 := hw61
      have hi61 := opn_inv (u := u) (tg := 6) hi51.1 hi51.2.2.1
      obtain ⟨o61, ho61⟩ : ∃ o, o = rd_opn u n o51.1 6 o51.2 := ⟨_, rfl⟩
      rw [← ho61] at hw61 hi61
      obtain ⟨rfl, rfl⟩ := hw61
      have hP : va_P (dC, dI) classes [(h, .inr (5, [.ref res, .int ie, .ref t, .int (nI o61.1.1), .int (nI o61.1.2.1), .int (wI o61.1.2.2), .int (nI a.2), .int ma, .int ex, .ref ki])), (t, .inl (cB, n, .inl (tx u)))] H61 := hP
      have hD : va_D A [(h, .inr (5, [.ref res, .int ie, .ref t, .int (nI o61.1.1), .int (nI o61.1.2.1), .int (wI o61.1.2.2), .int (nI a.2), .int ma, .int ex, .ref ki])), (t, .inl (cB, n, .inl (tx u)))] := hD
      refine lv_istore (lv' := [(7, .int (nI o61.2)), (6, .int (nI o51.2)), (5, .int (nI o41.2)), (0, .ref h), (2, .int (nI o4.2)), (3, .int (nI o4.1.1)), (4, .int (nI a.2))]) hx hb d_Reader_name_64 hl (by decide) rfl (fun ls hl => ?_)
      refine lv_aload_n hx hb d_Reader_name_66 rfl (lv_at hl 3 rfl) ?_
      refine lv_iload hx hb d_Reader_name_67 (lv_at hl 0 rfl) ?_
      refine lv_aload_n hx hb d_Reader_name_69 rfl (lv_at hl 3 rfl) ?_
      refine lv_aload_n hx hb d_Reader_name_70 rfl (lv_at hl 3 rfl) ?_
      refine va_get (v := .int (nI o61.1.1)) hx hb htb i_ListReader hown hK hP 0 rfl rfl 3 (by decide) (htb _ q3_62) (fun _ h9 => h9) rfl d_Reader_name_71 ?_
      refine lv_iload hx hb d_Reader_name_74 (lv_at hl 0 rfl) ?_
      refine vp_callSi (pu_callU (As := [.int (nI o61.1.1), .int (nI o61.2)]) (rest := [.int (nI o61.2), .ref h]) ⟨hx, hb, hml, hown, hts⟩ (cL_isOid l dC dI sb h res t ki o61.1.1 o61.1.2.1 n o61.1.2.2 (nI a.2) ma ex ie cB u o61.1.1 o61.2 hu hn hi61.2.1 hi61.2.2.1) (cu_of (n := 2) hts tbin q3_202 q9_204 q3_204 qx_8 q1_15 q3_205 rfl (by decide +kernel) ⟨rfl, rfl⟩ ⟨Nat.le_of_ble_eq_true rfl, Nat.le_of_ble_eq_true rfl⟩) rfl ⟨Nat.le_of_ble_eq_true rfl, Nat.le_of_ble_eq_true rfl⟩ hN (hT0.keep hS hAs) hK hP [0, 1] rfl [0] rfl 0 5 rfl rfl rfl hl.1 rfl (Nat.le_of_ble_eq_true rfl) d_Reader_name_76) (fun r76 hr76 => ?_)
      have hFc := va_free (wc := [(h, .inr (5, [.ref res, .int ie, .ref t, .int (nI o61.1.1), .int (nI o61.1.2.1), .int (wI o61.1.2.2), .int (nI a.2), .int ma, .int ex, .ref ki]))]) hD hS hA [0] rfl
      refine va_callv (mu_runU (As := [.int (nI o61.2), .int r76]) (rest := []) ⟨hx, hb, hml, hown, hts⟩ (cL_leave l dC dI sb h res t ki o61.1.1 o61.1.2.1 n o61.1.2.2 (nI a.2) ma ex ie cB u o61.2 r76 H61.size ((hi61.1).w hn)) (cu_of (n := 2) hts tbin q3_131 q3_133 q3_132 q3_135 q1_15 q3_136 rfl (by decide +kernel) ⟨rfl, rfl⟩ ⟨Nat.le_of_ble_eq_true rfl, Nat.le_of_ble_eq_true rfl⟩) rfl ⟨Nat.le_of_ble_eq_true rfl, Nat.le_of_ble_eq_true rfl⟩ hN (hT0.keep hS hAs) hAs (Nat.le_trans hB0 hS.1) hK hP hD [0] (by decide) rfl [] rfl 0 5 rfl rfl rfl hl.1 rfl (Nat.le_of_ble_eq_true rfl) d_Reader_name_79) hS (fun q _ h => hFc q h) hFc (fun u79 tS H79 locs ht hvm hw79 hB hz1 hk1 hS => ?_)
      obtain ⟨x79, rfl⟩ : ∃ z, z = u79 := ⟨_, rfl⟩
      obtain ⟨hP1, hK1, hD1⟩ := hB
      rw [ht] at hP1
      obtain ⟨hP, hD⟩ := va_join (wr := [(t, .inl (cB, n, .inl (tx u)))]) (w1 := [(h, .inr (5, [.ref res, .int ie, .ref t, .int (nI x79.1), .int (nI x79.2.1), .int (wI x79.2.2), .int (nI a.2), .int ma, .int ex, .ref ki]))]) hP hD [0] [1] rfl rfl (by decide) (by decide) hk1 hFc hP1 hD1
      have hP : va_P (dC, dI) classes [(t, .inl (cB, n, .inl (tx u))), (h, .inr (5, [.ref res, .int ie, .ref t, .int (nI x79.1), .int (nI x79.2.1), .int (wI x79.2.2), .int (nI a.2), .int ma, .int ex, .ref ki]))] H79 := hP
      have hD : va_D A [(t, .inl (cB, n, .inl (tx u))), (h, .inr (5, [.ref res, .int ie, .ref t, .int (nI x79.1), .int (nI x79.2.1), .int (wI x79.2.2), .int (nI a.2), .int ma, .int ex, .ref ki]))] := hD
      have hw79 : x79 = rd_lea o61.1 o61.2 r76 := hw79
      have hi79 : rdInv n x79 := by rw [hw79]; exact lea_inv hi61.1 hi61.2.2.1
      refine w_join (J := fun v => v = nI (stTag u x79 o51.2)) (pc := 116) (ls := ls) (rest := []) (fun v hv => ?_) (fun k116 => ?_)
      · skip
        subst hv
        refine lv_istore (lv' := [(8, .int (nI (stTag u x79 o51.2))), (7, .int (nI o61.2)), (6, .int (nI o51.2)), (5, .int (nI o41.2)), (0, .ref h), (2, .int (nI o4.2)), (3, .int (nI o4.1.1)), (4, .int (nI a.2))]) hx hb d_Reader_name_116 hl (by decide) rfl (fun ls hl => ?_)
        refine lv_aload_n hx hb d_Reader_name_118 rfl (lv_at hl 4 rfl) ?_
        refine lv_iload hx hb d_Reader_name_119 (lv_at hl 0 rfl) ?_
        refine lv_iload hx hb d_Reader_name_121 (lv_at hl 2 rfl) ?_
        have hFc := va_free (wc := [(h, .inr (5, [.ref res, .int ie, .ref t, .int (nI x79.1), .int (nI x79.2.1), .int (wI x79.2.2), .int (nI a.2), .int ma, .int ex, .ref ki])), (t, .inl (cB, n, .inl (tx u)))]) hD hS hA [1, 0] rfl
        refine va_calli (mu_runU (As := [.int (nI (stTag u x79 o51.2)), .int (nI o51.2)]) (rest := []) ⟨hx, hb, hml, hown, hts⟩ (cL_open l dC dI sb h res t ki x79.1 x79.2.1 n x79.2.2 (nI a.2) ma ex ie cB u (stTag u x79 o51.2) o51.2 H79.size hu hn ((hi79).w hn) hi51.2.2.1 (hi79).1 (stTag_lt _ _ _)) (cu_of (n := 2) hts tbin q3_130 q9_192 q3_112 q9_194 q1_15 q3_113 rfl (by decide +kernel) ⟨rfl, rfl⟩ ⟨Nat.le_of_ble_eq_true rfl, Nat.le_of_ble_eq_true rfl⟩) rfl ⟨Nat.le_of_ble_eq_true rfl, Nat.le_of_ble_eq_true rfl⟩ hN (hT0.keep hS hAs) hAs (Nat.le_trans hB0 hS.1) hK hP hD [1, 0] (by decide) rfl [0] rfl 1 5 rfl rfl rfl hl.1 rfl (Nat.le_of_ble_eq_true rfl) d_Reader_name_123) hS (fun q _ h => hFc q h) hFc (fun r123 u123 tS H123 locs ht hvm hw123 hB hz1 hk1 hS => ?_)
        obtain ⟨x123, rfl⟩ : ∃ z, z = u123 := ⟨_, rfl⟩
        obtain ⟨hP1, hK1, hD1⟩ := hB
        rw [ht] at hP1
        obtain ⟨hP, hD⟩ := va_join (wr := []) (w1 := [(h, .inr (5, [.ref res, .int ie, .ref t, .int (nI x123.1), .int (nI x123.2.1), .int (wI x123.2.2), .int (nI a.2), .int ma, .int ex, .ref ki])), (t, .inl (cB, n, .inl (tx u)))]) hP hD [1, 0] [] rfl rfl (by decide) (by decide) hk1 hFc hP1 hD1
        have hP : va_P (dC, dI) classes [(h, .inr (5, [.ref res, .int ie, .ref t, .int (nI x123.1), .int (nI x123.2.1), .int (wI x123.2.2), .int (nI a.2), .int ma, .int ex, .ref ki])), (t, .inl (cB, n, .inl (tx u)))] H123 := hP
        have hD : va_D A [(h, .inr (5, [.ref res, .int ie, .ref t, .int (nI x123.1), .int (nI x123.2.1), .int (wI x123.2.2), .int (nI a.2), .int ma, .int ex, .ref ki])), (t, .inl (cB, n, .inl (tx u)))] := hD
        have hw123 : x123 = (rd_opn u n x79 (stTag u x79 o51.2) o51.2).1 ∧ r123 = nI (rd_opn u n x79 (stTag u x79 o51.2) o51.2).2 := hw123
        have hi123 := opn_inv (u := u) (tg := (stTag u x79 o51.2)) hi79 hi51.2.2.1
        obtain ⟨o123, ho123⟩ : ∃ o, o = rd_opn u n x79 (stTag u x79 o51.2) o51.2 := ⟨_, rfl⟩
        rw [← ho123] at hw123 hi123
        obtain ⟨rfl, rfl⟩ := hw123
        have hP : va_P (dC, dI) classes [(h, .inr (5, [.ref res, .int ie, .ref t, .int (nI o123.1.1), .int (nI o123.1.2.1), .int (wI o123.1.2.2), .int (nI a.2), .int ma, .int ex, .ref ki])), (t, .inl (cB, n, .inl (tx u)))] H123 := hP
        have hD : va_D A [(h, .inr (5, [.ref res, .int ie, .ref t, .int (nI o123.1.1), .int (nI o123.1.2.1), .int (wI o123.1.2.2), .int (nI a.2), .int ma, .int ex, .ref ki])), (t, .inl (cB, n, .inl (tx u)))] := hD
        refine lv_istore (lv' := [(9, .int (nI o123.2)), (8, .int (nI (stTag u x79 o51.2))), (7, .int (nI o61.2)), (6, .int (nI o51.2)), (5, .int (nI o41.2)), (0, .ref h), (2, .int (nI o4.2)), (3, .int (nI o4.1.1)), (4, .int (nI a.2))]) hx hb d_Reader_name_126 hl (by decide) rfl (fun ls hl => ?_)
        refine w_join (J := fun v' => bz v' (strOK u (stTag u x79 o51.2) o123.1.1 o123.2)) (pc := 160) (ls := ls) (rest := []) (fun v' hv' => ?_) (fun k160 => ?_)
        · skip
          refine lv_istore (lv' := [(10, .int v'), (9, .int (nI o123.2)), (8, .int (nI (stTag u x79 o51.2))), (7, .int (nI o61.2)), (6, .int (nI o51.2)), (5, .int (nI o41.2)), (0, .ref h), (2, .int (nI o4.2)), (3, .int (nI o4.1.1)), (4, .int (nI a.2))]) hx hb d_Reader_name_160 hl (by decide) rfl (fun ls hl => ?_)
          refine lv_aload_n hx hb d_Reader_name_162 rfl (lv_at hl 6 rfl) ?_
          refine lv_iload hx hb d_Reader_name_163 (lv_at hl 1 rfl) ?_
          refine w_join (J := fun v'' => bz v'' (o123.1.1 < o123.2 ∧ strOK u (stTag u x79 o51.2) o123.1.1 o123.2)) (pc := 184) (ls := ls) (rest := [.int (nI o123.2), .ref h]) (fun v'' hv'' => ?_) (fun k184 => ?_)
          · skip
            have hFc := va_free (wc := [(h, .inr (5, [.ref res, .int ie, .ref t, .int (nI o123.1.1), .int (nI o123.1.2.1), .int (wI o123.1.2.2), .int (nI a.2), .int ma, .int ex, .ref ki]))]) hD hS hA [0] rfl
            refine va_callv (mu_runU (As := [.int (nI o123.2), .int v'']) (rest := []) ⟨hx, hb, hml, hown, hts⟩ (cL_leave l dC dI sb h res t ki o123.1.1 o123.1.2.1 n o123.1.2.2 (nI a.2) ma ex ie cB u o123.2 v'' H123.size ((hi123.1).w hn)) (cu_of (n := 2) hts tbin q3_131 q3_133 q3_132 q3_135 q1_15 q3_136 rfl (by decide +kernel) ⟨rfl, rfl⟩ ⟨Nat.le_of_ble_eq_true rfl, Nat.le_of_ble_eq_true rfl⟩) rfl ⟨Nat.le_of_ble_eq_true rfl, Nat.le_of_ble_eq_true rfl⟩ hN (hT0.keep hS hAs) hAs (Nat.le_trans hB0 hS.1) hK hP hD [0] (by decide) rfl [] rfl 0 5 rfl rfl rfl hl.1 rfl (Nat.le_of_ble_eq_true rfl) d_Reader_name_184) hS (fun q _ h => hFc q h) hFc (fun u184 tS H184 locs ht hvm hw184 hB hz1 hk1 hS => ?_)
            obtain ⟨x184, rfl⟩ : ∃ z, z = u184 := ⟨_, rfl⟩
            obtain ⟨hP1, hK1, hD1⟩ := hB
            rw [ht] at hP1
            obtain ⟨hP, hD⟩ := va_join (wr := [(t, .inl (cB, n, .inl (tx u)))]) (w1 := [(h, .inr (5, [.ref res, .int ie, .ref t, .int (nI x184.1), .int (nI x184.2.1), .int (wI x184.2.2), .int (nI a.2), .int ma, .int ex, .ref ki]))]) hP hD [0] [1] rfl rfl (by decide) (by decide) hk1 hFc hP1 hD1
            have hP : va_P (dC, dI) classes [(t, .inl (cB, n, .inl (tx u))), (h, .inr (5, [.ref res, .int ie, .ref t, .int (nI x184.1), .int (nI x184.2.1), .int (wI x184.2.2), .int (nI a.2), .int ma, .int ex, .ref ki]))] H184 := hP
            have hD : va_D A [(t, .inl (cB, n, .inl (tx u))), (h, .inr (5, [.ref res, .int ie, .ref t, .int (nI x184.1), .int (nI x184.2.1), .int (wI x184.2.2), .int (nI a.2), .int ma, .int ex, .ref ki]))] := hD
            have hw184 : x184 = rd_lea o123.1 o123.2 v'' := hw184
            have hi184 : rdInv n x184 := by rw [hw184]; exact lea_inv hi123.1 hi123.2.2.1
            refine lv_aload_n hx hb d_Reader_name_187 rfl (lv_at hl 6 rfl) ?_
            refine lv_iload hx hb d_Reader_name_188 (lv_at hl 4 rfl) ?_
            have hFc := va_free (wc := [(h, .inr (5, [.ref res, .int ie, .ref t, .int (nI x184.1), .int (nI x184.2.1), .int (wI x184.2.2), .int (nI a.2), .int ma, .int ex, .ref ki]))]) hD hS hA [1] rfl
            refine va_callv (mu_runU (As := [.int (nI o51.2)]) (rest := []) ⟨hx, hb, hml, hown, hts⟩ (cL_finish l dC dI sb h res t ki x184.1 x184.2.1 n x184.2.2 (nI a.2) ma ex ie cB u o51.2 H184.size ((hi184).w hn) (by have := (hi184).1; omega) (by have := hi51.2.2.1; omega)) (cu_of (n := 1) hts tbin q3_183 q9_201 q3_163 q9_203 q1_15 q3_164 rfl (by decide +kernel) ⟨rfl, rfl⟩ ⟨Nat.le_of_ble_eq_true rfl, Nat.le_of_ble_eq_true rfl⟩) rfl ⟨Nat.le_of_ble_eq_true rfl, Nat.le_of_ble_eq_true rfl⟩ hN (hT0.keep hS hAs) hAs (Nat.le_trans hB0 hS.1) hK hP hD [1] (by decide) rfl [] rfl 1 5 rfl rfl rfl hl.1 rfl (Nat.le_of_ble_eq_true rfl) d_Reader_name_190) hS (fun q _ h => hFc q h) hFc (fun u190 tS H190 locs ht hvm hw190 hB hz1 hk1 hS => ?_)
            obtain ⟨x190, rfl⟩ : ∃ z, z = u190 := ⟨_, rfl⟩
            obtain ⟨hP1, hK1, hD1⟩ := hB
            rw [ht] at hP1
            obtain ⟨hP, hD⟩ := va_join (wr := [(t, .inl (cB, n, .inl (tx u)))]) (w1 := [(h, .inr (5, [.ref res, .int ie, .ref t, .int (nI x190.1), .int (nI x190.2.1), .int (wI x190.2.2), .int (nI a.2), .int ma, .int ex, .ref ki]))]) hP hD [1] [0] rfl rfl (by decide) (by decide) hk1 hFc hP1 hD1
            have hP : va_P (dC, dI) classes [(t, .inl (cB, n, .inl (tx u))), (h, .inr (5, [.ref res, .int ie, .ref t, .int (nI x190.1), .int (nI x190.2.1), .int (wI x190.2.2), .int (nI a.2), .int ma, .int ex, .ref ki]))] H190 := hP
            have hD : va_D A [(t, .inl (cB, n, .inl (tx u))), (h, .inr (5, [.ref res, .int ie, .ref t, .int (nI x190.1), .int (nI x190.2.1), .int (wI x190.2.2), .int (nI a.2), .int ma, .int ex, .ref ki]))] := hD
            have hw190 : x190 = rd_fin x184 o51.2 := hw190
            have hi190 : rdInv n x190 := by rw [hw190]; exact fin_inv hi184
            refine lv_aload_n hx hb d_Reader_name_193 rfl (lv_at hl 6 rfl) ?_
            refine lv_iload hx hb d_Reader_name_194 (lv_at hl 5 rfl) ?_
            have hFc := va_free (wc := [(h, .inr (5, [.ref res, .int ie, .ref t, .int (nI x190.1), .int (nI x190.2.1), .int (wI x190.2.2), .int (nI a.2), .int ma, .int ex, .ref ki]))]) hD hS hA [1] rfl
            refine va_callv (mu_runU (As := [.int (nI o41.2)]) (rest := []) ⟨hx, hb, hml, hown, hts⟩ (cL_finish l dC dI sb h res t ki x190.1 x190.2.1 n x190.2.2 (nI a.2) ma ex ie cB u o41.2 H190.size ((hi190).w hn) (by have := (hi190).1; omega) (by have := hi41.2.2.1; omega)) (cu_of (n := 1) hts tbin q3_183 q9_201 q3_163 q9_203 q1_15 q3_164 rfl (by decide +kernel) ⟨rfl, rfl⟩ ⟨Nat.le_of_ble_eq_true rfl, Nat.le_of_ble_eq_true rfl⟩) rfl ⟨Nat.le_of_ble_eq_true rfl, Nat.le_of_ble_eq_true rfl⟩ hN (hT0.keep hS hAs) hAs (Nat.le_trans hB0 hS.1) hK hP hD [1] (by decide) rfl [] rfl 1 5 rfl rfl rfl hl.1 rfl (Nat.le_of_ble_eq_true rfl) d_Reader_name_196) hS (fun q _ h => hFc q h) hFc (fun u196 tS H196 locs ht hvm hw196 hB hz1 hk1 hS => ?_)
            obtain ⟨x196, rfl⟩ : ∃ z, z = u196 := ⟨_, rfl⟩
            obtain ⟨hP1, hK1, hD1⟩ := hB
            rw [ht] at hP1
            obtain ⟨hP, hD⟩ := va_join (wr := [(t, .inl (cB, n, .inl (tx u)))]) (w1 := [(h, .inr (5, [.ref res, .int ie, .ref t, .int (nI x196.1), .int (nI x196.2.1), .int (wI x196.2.2), .int (nI a.2), .int ma, .int ex, .ref ki]))]) hP hD [1] [0] rfl rfl (by decide) (by decide) hk1 hFc hP1 hD1
            have hP : va_P (dC, dI) classes [(t, .inl (cB, n, .inl (tx u))), (h, .inr (5, [.ref res, .int ie, .ref t, .int (nI x196.1), .int (nI x196.2.1), .int (wI x196.2.2), .int (nI a.2), .int ma, .int ex, .ref ki]))] H196 := hP
            have hD : va_D A [(t, .inl (cB, n, .inl (tx u))), (h, .inr (5, [.ref res, .int ie, .ref t, .int (nI x196.1), .int (nI x196.2.1), .int (wI x196.2.2), .int (nI a.2), .int ma, .int ex, .ref ki]))] := hD
            have hw196 : x196 = rd_fin x190 o41.2 := hw196
            have hi196 : rdInv n x196 := by rw [hw196]; exact fin_inv hi190
            refine lv_aload_n hx hb d_Reader_name_199 rfl (lv_at hl 6 rfl) ?_
            refine lv_dup hx hb d_Reader_name_200 rfl ?_
            refine va_get (v := .int (nI a.2)) hx hb htb i_ListReader hown hK hP 1 rfl rfl 6 (by decide) (htb _ q3_73) (fun _ h9 => h9) rfl d_Reader_name_201 ?_
            refine lv_iconst (v := 1) hx hb d_Reader_name_204 (by decide) ?_
            refine lv_iadd hx hb d_Reader_name_205 ?_
            rw [show ((nI a.2) + 1 : Int32) = nI (a.2 + 1) from nI_1 _]
            refine va_put (v := .int (nI (a.2 + 1))) (ty := .int) hx hb htb i_ListReader t_ListReader t_ListReader_ok n_ListReader hown hK hP hD hS 1 rfl rfl 6 (by decide) (htb _ q3_73) (fun _ h9 => h9) rfl (by decide +kernel) rfl rfl (Nat.le_of_ble_eq_true rfl) d_Reader_name_206 (fun H206 locs hP hD hS => ?_)
            have hP : va_P (dC, dI) classes [(t, .inl (cB, n, .inl (tx u))), (h, .inr (5, [.ref res, .int ie, .ref t, .int (nI x196.1), .int (nI x196.2.1), .int (wI x196.2.2), .int (nI (a.2 + 1)), .int ma, .int ex, .ref ki]))] H206 := hP
            have hD : va_D A [(t, .inl (cB, n, .inl (tx u))), (h, .inr (5, [.ref res, .int ie, .ref t, .int (nI x196.1), .int (nI x196.2.1), .int (wI x196.2.2), .int (nI (a.2 + 1)), .int ma, .int ex, .ref ki]))] := hD
            refine lv_iinc (v := nI (a.2 + 1)) (lv' := [(4, .int (nI (a.2 + 1))), (10, .int v'), (9, .int (nI o123.2)), (8, .int (nI (stTag u x79 o51.2))), (7, .int (nI o61.2)), (6, .int (nI o51.2)), (5, .int (nI o41.2)), (0, .ref h), (2, .int (nI o4.2)), (3, .int (nI o4.1.1))]) hx hb d_Reader_name_209 hl (k := 9) rfl (nI_1 _) (by decide) rfl (fun ls hl => ?_)
            refine lv_goto (tgt := 21) hx hb d_Reader_name_212 (by decide) ?_
            exact ih (x196, a.2 + 1) _ _ ls (by show 2048 - (a.2 + 1) < 2048 - a.2; omega) (⟨hi196, hlt, by rw [bz_zP hr76] at hw79; rw [bz_zP hv''] at hw184; subst hw196; subst hw190; subst hw184; subst ho123; subst hw79; subst ho61; subst ho51; subst ho41; show _ = rd_part u n (rd_it u n o4.2 a.2 o4.1) o4.2; rw [← hJ.2.2.1]; rfl, fun j hj => (Nat.lt_succ_iff_lt_or_eq.mp hj).elim (hJ.2.2.2 j) (fun q => by rw [q, ← hJ.2.2.1]; exact bz_1 hr31 c34)⟩) (hP.sub [1, 0] rfl) (hD.sub [1, 0] (by decide) rfl) hS (lv_sub hl [7, 8, 9, 0] rfl)
          · skip
            refine lv_iload hx hb d_Reader_name_165 (lv_at hl 1 rfl) ?_
            refine lv_aload_n hx hb d_Reader_name_167 rfl (lv_at hl 6 rfl) ?_
            refine va_get (v := .int (nI o123.1.1)) hx hb htb i_ListReader hown hK hP 0 rfl rfl 3 (by decide) (htb _ q3_62) (fun _ h9 => h9) rfl d_Reader_name_168 ?_
            refine lv_icmp_le (tgt := 183) hx hb d_Reader_name_171 (by decide) (fun c171 => ?_) (fun c171 => ?_)
            · refine lv_iconst (v := 0) hx hb d_Reader_name_183 (by decide) ?_
              exact k184 _ (bz_f (fun q => absurd q.1 (by rw [nI_leI (by have := hi123.2.2.1; omega) (by have := hi123.1.1; omega)] at c171; omega)))
            · refine lv_iload hx hb d_Reader_name_174 (lv_at hl 0 rfl) ?_
              refine lv_if_eq (tgt := 183) hx hb d_Reader_name_176 (by decide) (fun c176 => ?_) (fun c176 => ?_)
              · refine lv_iconst (v := 0) hx hb d_Reader_name_183 (by decide) ?_
                exact k184 _ (bz_f (fun q => bz_0 hv' (by first | exact c176 | exact Classical.not_not.mp c176) q.2))
              · refine lv_iconst (v := 1) hx hb d_Reader_name_179 (by decide) ?_
                refine lv_goto (tgt := 184) hx hb d_Reader_name_180 (by decide) ?_
                exact k184 _ (bz_t ⟨(by rw [nI_leI (by have := hi123.2.2.1; omega) (by have := hi123.1.1; omega)] at c171; omega), bz_1 hv' c176⟩)
        · skip
          refine lv_iload hx hb d_Reader_name_128 (lv_at hl 1 rfl) ?_
          refine lv_bipush (v := 12) hx hb d_Reader_name_130 (by decide) ?_
          refine lv_icmp_ne (tgt := 148) hx hb d_Reader_name_132 (by decide) (fun c132 => ?_) (fun c132 => ?_)
          · refine lv_aload_n hx hb d_Reader_name_148 rfl (lv_at hl 5 rfl) ?_
            refine lv_iload hx hb d_Reader_name_149 (lv_at hl 1 rfl) ?_
            refine lv_aload_n hx hb d_Reader_name_151 rfl (lv_at hl 5 rfl) ?_
            refine va_get (v := .int (nI o123.1.1)) hx hb htb i_ListReader hown hK hP 0 rfl rfl 3 (by decide) (htb _ q3_62) (fun _ h9 => h9) rfl d_Reader_name_152 ?_
            refine lv_iload hx hb d_Reader_name_155 (lv_at hl 0 rfl) ?_
            refine vp_callSi (pu_callU (As := [.int (nI (stTag u x79 o51.2)), .int (nI o123.1.1), .int (nI o123.2)]) (rest := []) ⟨hx, hb, hml, hown, hts⟩ (cL_isSimple l dC dI sb h res t ki o123.1.1 o123.1.2.1 n o123.1.2.2 (nI a.2) ma ex ie cB u (stTag u x79 o51.2) o123.1.1 o123.2 hu hn hi123.2.1 hi123.2.2.1 (stTag_lt _ _ _)) (cu_of (n := 3) hts tbin q3_220 q9_206 q3_222 qx_9 q1_15 q3_223 rfl (by decide +kernel) ⟨rfl, rfl⟩ ⟨Nat.le_of_ble_eq_true rfl, Nat.le_of_ble_eq_true rfl⟩) rfl ⟨Nat.le_of_ble_eq_true rfl, Nat.le_of_ble_eq_true rfl⟩ hN (hT0.keep hS hAs) hK hP [0, 1] rfl [0] rfl 0 5 rfl rfl rfl hl.1 rfl (Nat.le_of_ble_eq_true rfl) d_Reader_name_157) (fun r157 hr157 => ?_)
            exact k160 _ (bz_c hr157 ⟨fun q => ⟨fun q9 => absurd q9 (fun q9 => c132 (by rw [q9]; rfl)), fun _ => q⟩, fun q => q.2 (fun q9 => c132 (by rw [q9]; rfl))⟩)
          · refine lv_aload_n hx hb d_Reader_name_135 rfl (lv_at hl 5 rfl) ?_
            refine lv_aload_n hx hb d_Reader_name_136 rfl (lv_at hl 5 rfl) ?_
            refine va_get (v := .int (nI o123.1.1)) hx hb htb i_ListReader hown hK hP 0 rfl rfl 3 (by decide) (htb _ q3_62) (fun _ h9 => h9) rfl d_Reader_name_137 ?_
            refine lv_iload hx hb d_Reader_name_140 (lv_at hl 0 rfl) ?_
            refine vp_callSi (pu_callU (As := [.int (nI o123.1.1), .int (nI o123.2)]) (rest := []) ⟨hx, hb, hml, hown, hts⟩ (cL_isUtf8 l dC dI sb h res t ki o123.1.1 o123.1.2.1 n o123.1.2.2 (nI a.2) ma ex ie cB u o123.1.1 o123.2 hu hn hi123.2.1 hi123.2.2.1) (cu_of (n := 2) hts tbin q3_212 q9_205 q3_214 qx_10 q1_15 q3_215 rfl (by decide +kernel) ⟨rfl, rfl⟩ ⟨Nat.le_of_ble_eq_true rfl, Nat.le_of_ble_eq_true rfl⟩) rfl ⟨Nat.le_of_ble_eq_true rfl, Nat.le_of_ble_eq_true rfl⟩ hN (hT0.keep hS hAs) hK hP [0, 1] rfl [0] rfl 0 5 rfl rfl rfl hl.1 rfl (Nat.le_of_ble_eq_true rfl) d_Reader_name_142) (fun r142 hr142 => ?_)
            refine lv_goto (tgt := 160) hx hb d_Reader_name_145 (by decide) ?_
            exact k160 _ (bz_c hr142 ⟨fun q => ⟨fun _ => q, fun q9 => absurd (show (stTag u x79 o51.2) = 12 from by have h9 := (show nI (stTag u x79 o51.2) = 12 from by first | exact c132 | exact Classical.not_not.mp c132); rw [show (12 : Int32) = nI 12 from rfl, nI_eq (by have := stTag_lt u x79 o51.2; omega) (by omega)] at h9; exact h9) q9⟩, fun q => q.1 (show (stTag u x79 o51.2) = 12 from by have h9 := (show nI (stTag u x79 o51.2) = 12 from by first | exact c132 | exact Classical.not_not.mp c132); rw [show (12 : Int32) = nI 12 from rfl, nI_eq (by have := stTag_lt u x79 o51.2; omega) (by omega)] at h9; exact h9)⟩)
      · skip
        refine lv_aload_n hx hb d_Reader_name_82 rfl (lv_at hl 3 rfl) ?_
        refine lv_bipush (v := 12) hx hb d_Reader_name_83 (by decide) ?_
        refine lv_iload hx hb d_Reader_name_85 (lv_at hl 1 rfl) ?_
        refine vp_callSi (pu_callU (As := [.int 12, .int (nI o51.2)]) (rest := []) ⟨hx, hb, hml, hown, hts⟩ (cL_nextIs l dC dI sb h res t ki x79.1 x79.2.1 n x79.2.2 (nI a.2) ma ex ie cB u 12 o51.2 hu hn ((hi79).w hn) hi51.2.2.1 (hi79).1 (by decide)) (cu_of (n := 2) hts tbin q3_206 q3_208 q3_207 q3_210 q1_15 q3_211 rfl (by decide +kernel) ⟨rfl, rfl⟩ ⟨Nat.le_of_ble_eq_true rfl, Nat.le_of_ble_eq_true rfl⟩) rfl ⟨Nat.le_of_ble_eq_true rfl, Nat.le_of_ble_eq_true rfl⟩ hN (hT0.keep hS hAs) hK hP [1, 0] rfl [0] rfl 1 5 rfl rfl rfl hl.1 rfl (Nat.le_of_ble_eq_true rfl) d_Reader_name_87) (fun r87 hr87 => ?_)
        refine lv_if_eq (tgt := 98) hx hb d_Reader_name_90 (by decide) (fun c90 => ?_) (fun c90 => ?_)
        · refine lv_aload_n hx hb d_Reader_name_98 rfl (lv_at hl 3 rfl) ?_
          refine lv_bipush (v := 22) hx hb d_Reader_name_99 (by decide) ?_
          refine lv_iload hx hb d_Reader_name_101 (lv_at hl 1 rfl) ?_
          refine vp_callSi (pu_callU (As := [.int 22, .int (nI o51.2)]) (rest := []) ⟨hx, hb, hml, hown, hts⟩ (cL_nextIs l dC dI sb h res t ki x79.1 x79.2.1 n x79.2.2 (nI a.2) ma ex ie cB u 22 o51.2 hu hn ((hi79).w hn) hi51.2.2.1 (hi79).1 (by decide)) (cu_of (n := 2) hts tbin q3_206 q3_208 q3_207 q3_210 q1_15 q3_211 rfl (by decide +kernel) ⟨rfl, rfl⟩ ⟨Nat.le_of_ble_eq_true rfl, Nat.le_of_ble_eq_true rfl⟩) rfl ⟨Nat.le_of_ble_eq_true rfl, Nat.le_of_ble_eq_true rfl⟩ hN (hT0.keep hS hAs) hK hP [1, 0] rfl [0] rfl 1 5 rfl rfl rfl hl.1 rfl (Nat.le_of_ble_eq_true rfl) d_Reader_name_103) (fun r103 hr103 => ?_)
          refine lv_if_eq (tgt := 114) hx hb d_Reader_name_106 (by decide) (fun c106 => ?_) (fun c106 => ?_)
          · refine lv_bipush (v := 19) hx hb d_Reader_name_114 (by decide) ?_
            exact k116 _ ((congrArg nI (show stTag u x79 o51.2 = 19 from (if_neg (bz_0 hr87 (by first | exact c90 | exact Classical.not_not.mp c90))).trans (if_neg (bz_0 hr103 (by first | exact c106 | exact Classical.not_not.mp c106))))).symm)
          · refine lv_bipush (v := 22) hx hb d_Reader_name_109 (by decide) ?_
            refine lv_goto (tgt := 116) hx hb d_Reader_name_111 (by decide) ?_
            exact k116 _ ((congrArg nI (show stTag u x79 o51.2 = 22 from (if_neg (bz_0 hr87 (by first | exact c90 | exact Classical.not_not.mp c90))).trans (if_pos (bz_1 hr103 c106)))).symm)
        · refine lv_bipush (v := 12) hx hb d_Reader_name_93 (by decide) ?_
          refine lv_goto (tgt := 116) hx hb d_Reader_name_95 (by decide) ?_
          exact k116 _ ((congrArg nI (show stTag u x79 o51.2 = 12 from if_pos (bz_1 hr87 c90))).symm)
set_option maxHeartbeats 4000000 in
set_option maxRecDepth 100000 in
theorem cL_fullName (l : Launch) (dC : Nat → ClassId) (dI : Nat → Nat → Nat) (sb : sB) (h res t ki n : Nat) (x : rS) (pa ma ex ie : Int32) (cB : ClassId) (u : Nat → Nat) (en : Nat) (sz : Nat) (hu : ∀ j, u j < 256) (hn : n < 2 ^ 30) (hi : rdInv n x) (he : en ≤ n) : Met l y_Reader_fullName w_Reader_fullName ({ frames := 7, cells := 1, slots := 3, locals := 204 }) (mu_P [.ref h, .int (nI en)] (dC, dI) sb [(h, .inr (5, [.ref res, .int ie, .ref t, .int (nI x.1), .int (nI x.2.1), .int (wI x.2.2), .int pa, .int ma, .int ex, .ref ki])), (t, .inl (cB, n, .inl (tx u)))] [(cB, .byte)] sz) (va_Qr (fun (u' : rS × Nat) => u'.1 = (rd_fnm u n x en).1 ∧ u'.2 = (rd_fnm u n x en).2.1) (mu_Br (dC, dI) [(cB, .byte)] (va_A [(h, .inr (5, [.ref res, .int ie, .ref t, .int (nI x.1), .int (nI x.2.1), .int (wI x.2.2), .int pa, .int ma, .int ex, .ref ki])), (t, .inl (cB, n, .inl (tx u)))] sz) (fun (u' : rS × Nat) (q : Nat) => [(h, .inr (5, [.ref res, .int ie, .ref t, .int (nI u'.1.1), .int (nI u'.1.2.1), .int (wI u'.1.2.2), .int (nI u'.2), .int ma, .int ex, .ref ki])), (t, .inl (cB, n, .inl (tx u))), (q, .inr (0, [.ref t, .int (nI (rd_fnm u n x en).2.2.1), .int (nI (rd_fnm u n x en).2.2.2)]))])) (va_A [(h, .inr (5, [.ref res, .int ie, .ref t, .int (nI x.1), .int (nI x.2.1), .int (wI x.2.2), .int pa, .int ma, .int ex, .ref ki])), (t, .inl (cB, n, .inl (tx u)))] sz)) 1 3 (va_A [(h, .inr (5, [.ref res, .int ie, .ref t, .int (nI x.1), .int (nI x.2.1), .int (wI x.2.2), .int pa, .int ma, .int ex, .ref ki])), (t, .inl (cB, n, .inl (tx u)))] sz) := by
  refine Met.ofW (cc := b_Reader_fullName) (maxL := 4) (ret := (some (FieldType.object "TrustChain$Slice"))) (by decide) rfl ?_
  intro p e s m args below meth c s₁ B hml hv
  obtain ⟨rfl, hsz, hB0, hP, hK, hD0, hN, hT0⟩ := hv
  have hx := B.exec
  have hb := B.bytes
  have hr := B.returns
  have hts := atoms_spec (ws := w_Reader_fullName) B.pre
  have tbin : ∀ w ∈ tb, w ∈ w_Reader_fullName := fun w h => List.mem_cons_of_mem _ h
  have htb : ∀ w ∈ tb, w.before _ s = true := fun w h => hts w (tbin w h)
  have hown : s.vm.findClass "TrustChain$Reader" = some m.cls := findClass_of_methodNamed B.named
  have hlocks := B.notSynchronized
  subst hsz
  have hD := hD0.self (sz := s.heap.size)
  generalize hAe : va_A [(h, .inr (5, [.ref res, .int ie, .ref t, .int (nI x.1), .int (nI x.2.1), .int (wI x.2.2), .int pa, .int ma, .int ex, .ref ki])), (t, .inl (cB, n, .inl (tx u)))] s.heap.size = A at hD ⊢
  have hA : ∀ q : Nat, s.heap.size ≤ q → A q := fun q h => by rw [← hAe]; exact Or.inr h
  have hAs : ∀ q : Nat, A q → sb.1 ≤ q := fun q h => by
    rw [← hAe] at h
    rcases h with ⟨k, e, h⟩ | h
    · exact hD0.2 k _ h
    · exact Nat.le_trans hB0 h
  have hS : va_S A s.heap s.heap [] := va_S.rf
  have hcs : 1 ≤ (headSpec w_Reader_fullName ({ frames := 7, cells := 1, slots := 3, locals := 204 })).room.cells ∧ 3 ≤ (headSpec w_Reader_fullName ({ frames := 7, cells := 1, slots := 3, locals := 204 })).room.slots := ⟨Nat.le_refl _, Nat.le_refl _⟩
  have hP : va_P (dC, dI) classes [(h, .inr (5, [.ref res, .int ie, .ref t, .int (nI x.1), .int (nI x.2.1), .int (wI x.2.2), .int pa, .int ma, .int ex, .ref ki])), (t, .inl (cB, n, .inl (tx u)))] s.heap := hP
  have hl := lv_entry ([.ref h, .int (nI en)]) (n := 4) (Nat.le_of_ble_eq_true rfl)
  rw [lg_entry_eq]
  generalize (lg_sl ([.ref h, .int (nI en)]) ++ List.replicate (4 - (lg_sl ([.ref h, .int (nI en)])).length) Slot.unset).toArray = ls at hl ⊢
  have hl : lv_has ls 4 [(0, .ref h), (1, .int (nI en))] := hl
  refine lv_aload_n hx hb d_Reader_fullName_0 rfl (lv_at hl 0 rfl) ?_
  refine va_get (v := .int (nI x.1)) hx hb htb i_ListReader hown hK hP 0 rfl rfl 3 (by decide) (htb _ q3_62) (fun _ h9 => h9) rfl d_Reader_fullName_1 ?_
  refine lv_istore_n (lv' := [(2, .int (nI x.1)), (0, .ref h), (1, .int (nI en))]) hx hb d_Reader_fullName_4 rfl hl (by decide) rfl (fun ls hl => ?_)
  refine lv_aload_n hx hb d_Reader_fullName_5 rfl (lv_at hl 1 rfl) ?_
  refine lv_iload_n hx hb d_Reader_fullName_6 rfl (lv_at hl 2 rfl) ?_
  have hFc := va_free (wc := [(h, .inr (5, [.ref res, .int ie, .ref t, .int (nI x.1), .int (nI x.2.1), .int (wI x.2.2), .int pa, .int ma, .int ex, .ref ki])), (t, .inl (cB, n, .inl (tx u)))]) hD hS hA [0, 1] rfl
  refine va_callr (mu_runU (As := [.int (nI en)]) (rest := []) ⟨hx, hb, hml, hown, hts⟩ (cL_name l dC dI sb h res t ki n x pa ma ex ie cB u en s.heap.size hu hn hi (by omega)) (cu_of (n := 1) hts tbin q3_190 q3_192 q3_191 q3_194 q1_15 q3_195 rfl (by decide +kernel) ⟨rfl, rfl⟩ ⟨Nat.le_of_ble_eq_true rfl, Nat.le_of_ble_eq_true rfl⟩) rfl ⟨Nat.le_of_ble_eq_true rfl, Nat.le_of_ble_eq_true rfl⟩ hN (hT0.keep hS hAs) hAs (Nat.le_trans hB0 hS.1) hK hP hD [0, 1] (by decide) rfl [0] rfl 0 5 rfl rfl rfl hl.1 rfl (Nat.le_of_ble_eq_true rfl) d_Reader_fullName_7) hS (fun q _ h => hFc q h) hFc (fun u7 q7 tS H7 locs ht hvm hw7 hB hz1 hk1 hS => ?_)
  obtain ⟨x7, n7⟩ := u7
  obtain ⟨hP1, hK1, hD1⟩ := hB
  rw [ht] at hP1
  obtain ⟨hP, hD⟩ := va_join (wr := []) (w1 := [(h, .inr (5, [.ref res, .int ie, .ref t, .int (nI x7.1), .int (nI x7.2.1), .int (wI x7.2.2), .int (nI n7), .int ma, .int ex, .ref ki])), (t, .inl (cB, n, .inl (tx u))), (q7, .inr (0, [.ref t, .int (nI ((rd_nam u n x en).2.2.1)), .int (nI ((rd_nam u n x en).2.2.2))]))]) hP hD [0, 1] [] rfl rfl (by decide) (by decide) hk1 hFc hP1 hD1
  have hP : va_P (dC, dI) classes [(h, .inr (5, [.ref res, .int ie, .ref t, .int (nI x7.1), .int (nI x7.2.1), .int (wI x7.2.2), .int (nI n7), .int ma, .int ex, .ref ki])), (t, .inl (cB, n, .inl (tx u))), (q7, .inr (0, [.ref t, .int (nI ((rd_nam u n x en).2.2.1)), .int (nI ((rd_nam u n x en).2.2.2))]))] H7 := hP
  have hD : va_D A [(h, .inr (5, [.ref res, .int ie, .ref t, .int (nI x7.1), .int (nI x7.2.1), .int (wI x7.2.2), .int (nI n7), .int ma, .int ex, .ref ki])), (t, .inl (cB, n, .inl (tx u))), (q7, .inr (0, [.ref t, .int (nI ((rd_nam u n x en).2.2.1)), .int (nI ((rd_nam u n x en).2.2.2))]))] := hD
  have hi7 := nam_inv (u := u) hi (show en ≤ n by omega)
  obtain ⟨z7, hz7⟩ : ∃ o, o = rd_nam u n x en := ⟨_, rfl⟩
  have hw7 : x7 = (rd_nam u n x en).1 ∧ n7 = (rd_nam u n x en).2.1 := hw7
  rw [← hz7] at hw7 hi7 hP hD
  obtain ⟨rfl, rfl⟩ := hw7
  have hb7 : z7.1.1 ≤ n := hi7.1.1
  have hc7 : z7.2.2.1 ≤ z7.2.2.2 := hi7.2.1
  have hd7 : z7.2.2.2 ≤ n := hi7.2.2
  have hP : va_P (dC, dI) classes [(h, .inr (5, [.ref res, .int ie, .ref t, .int (nI z7.1.1), .int (nI z7.1.2.1), .int (wI z7.1.2.2), .int (nI z7.2.1), .int ma, .int ex, .ref ki])), (t, .inl (cB, n, .inl (tx u))), (q7, .inr (0, [.ref t, .int (nI z7.2.2.1), .int (nI z7.2.2.2)]))] H7 := hP
  have hD : va_D A [(h, .inr (5, [.ref res, .int ie, .ref t, .int (nI z7.1.1), .int (nI z7.1.2.1), .int (wI z7.1.2.2), .int (nI z7.2.1), .int ma, .int ex, .ref ki])), (t, .inl (cB, n, .inl (tx u))), (q7, .inr (0, [.ref t, .int (nI z7.2.2.1), .int (nI z7.2.2.2)]))] := hD
  refine lv_astore_n (lv' := [(3, .ref q7), (2, .int (nI x.1)), (0, .ref h), (1, .int (nI en))]) hx hb d_Reader_fullName_10 rfl hl (by decide) rfl (fun ls hl => ?_)
  refine lv_aload_n hx hb d_Reader_fullName_11 rfl (lv_at hl 0 rfl) ?_
  refine vp_callSi (pu_callV (As := []) (rest := []) ⟨hx, hb, hml, hown, hts⟩ tbin (c_Slice_length l dC dI sb q7 t z7.2.2.1 z7.2.2.2 (by omega)) q3_173 q3_144 q3_145 q1_22 q3_146 (n := 0) (by decide +kernel) rfl ⟨rfl, rfl⟩ ⟨Nat.le_of_ble_eq_true rfl, Nat.le_of_ble_eq_true rfl⟩ ⟨Nat.le_of_ble_eq_true rfl, Nat.le_of_ble_eq_true rfl⟩ hN (hT0.keep hS hAs) hK hP [2] rfl [] rfl 2 0 rfl rfl rfl hl.1 rfl (Nat.le_of_ble_eq_true rfl) d_Reader_fullName_12) (fun r12 hr12 => ?_)
  subst hr12
  refine lv_if_ne (tgt := 23) hx hb d_Reader_fullName_15 (by decide) (fun c15 => ?_) (fun c15 => ?_)
  · have p15 : ¬ ((z7.2.2.2 - z7.2.2.1) = 0) := (fun q9 => c15 ((nI_eq (a := (z7.2.2.2 - z7.2.2.1)) (b := 0) (by omega) (by omega)).mpr q9))
    refine lv_aload_n hx hb d_Reader_fullName_23 rfl (lv_at hl 0 rfl) ?_
    subst hz7
    refine W.widen (k := 1) (n := 3) (Nat.le_of_ble_eq_true rfl) (Nat.le_of_ble_eq_true rfl) ?_
    exact W.aret (v := .ref q7) hx hb hr (Or.inl ⟨_, rfl⟩) (Or.inr ⟨_, rfl⟩) (fun t ht hW => ⟨⟨((rd_nam u n x en).1, (rd_nam u n x en).2.1), q7, rfl, ⟨Eq.symm ((if_neg p15).trans rfl), rfl⟩, by rw [ht]; exact hP, va_K.moved hW.alike hK, hD⟩, hS.F ht⟩) hS.2.2 d_Reader_fullName_24
  · have p15 : (z7.2.2.2 - z7.2.2.1) = 0 := ((nI_eq (a := (z7.2.2.2 - z7.2.2.1)) (b := 0) (by omega) (by omega)).mp c15)
    refine lv_aload_n hx hb d_Reader_fullName_18 rfl (lv_at hl 2 rfl) ?_
    refine lv_iload_n hx hb d_Reader_fullName_19 rfl (lv_at hl 1 rfl) ?_
    have hFc := va_free (wc := [(h, .inr (5, [.ref res, .int ie, .ref t, .int (nI z7.1.1), .int (nI z7.1.2.1), .int (wI z7.1.2.2), .int (nI z7.2.1), .int ma, .int ex, .ref ki]))]) hD hS hA [0] rfl
    refine va_callv (mu_runU (As := [.int (nI x.1)]) (rest := []) ⟨hx, hb, hml, hown, hts⟩ (cL_refuse l dC dI sb h res t ki z7.1.1 z7.1.2.1 n z7.1.2.2 (nI z7.2.1) ma ex ie cB u x.1 H7.size ((hi7.1).w hn)) (cu_of (n := 1) hts tbin q3_227 q3_229 q3_228 q3_231 q1_15 q3_232 rfl (by decide +kernel) ⟨rfl, rfl⟩ ⟨Nat.le_of_ble_eq_true rfl, Nat.le_of_ble_eq_true rfl⟩) rfl ⟨Nat.le_of_ble_eq_true rfl, Nat.le_of_ble_eq_true rfl⟩ hN (hT0.keep hS hAs) hAs (Nat.le_trans hB0 hS.1) hK hP hD [0] (by decide) rfl [] rfl 0 5 rfl rfl rfl hl.1 rfl (Nat.le_of_ble_eq_true rfl) d_Reader_fullName_20) hS (fun q _ h => hFc q h) hFc (fun u20 tS H20 locs ht hvm hw20 hB hz1 hk1 hS => ?_)
    obtain ⟨z20, rfl⟩ : ∃ z, z = u20 := ⟨_, rfl⟩
    obtain ⟨hP1, hK1, hD1⟩ := hB
    rw [ht] at hP1
    obtain ⟨hP, hD⟩ := va_join (wr := [(t, .inl (cB, n, .inl (tx u))), (q7, .inr (0, [.ref t, .int (nI z7.2.2.1), .int (nI z7.2.2.2)]))]) (w1 := [(h, .inr (5, [.ref res, .int ie, .ref t, .int (nI z20.1), .int (nI z20.2.1), .int (wI z20.2.2), .int (nI z7.2.1), .int ma, .int ex, .ref ki]))]) hP hD [0] [1, 2] rfl rfl (by decide) (by decide) hk1 hFc hP1 hD1
    have hP : va_P (dC, dI) classes [(t, .inl (cB, n, .inl (tx u))), (q7, .inr (0, [.ref t, .int (nI z7.2.2.1), .int (nI z7.2.2.2)])), (h, .inr (5, [.ref res, .int ie, .ref t, .int (nI z20.1), .int (nI z20.2.1), .int (wI z20.2.2), .int (nI z7.2.1), .int ma, .int ex, .ref ki]))] H20 := hP
    have hD : va_D A [(t, .inl (cB, n, .inl (tx u))), (q7, .inr (0, [.ref t, .int (nI z7.2.2.1), .int (nI z7.2.2.2)])), (h, .inr (5, [.ref res, .int ie, .ref t, .int (nI z20.1), .int (nI z20.2.1), .int (wI z20.2.2), .int (nI z7.2.1), .int ma, .int ex, .ref ki]))] := hD
    have hz20 : z20 = rd_ref z7.1 x.1 := hw20
    have hi20 : rdInv n z20 := by rw [hz20]; exact ref_inv hi7.1 (by have := hi.1; omega)
    have hb20 : z20.1 ≤ n := hi20.1
    refine lv_aload_n hx hb d_Reader_fullName_23 rfl (lv_at hl 0 rfl) ?_
    subst hz20
    subst hz7
    refine W.widen (k := 1) (n := 3) (Nat.le_of_ble_eq_true rfl) (Nat.le_of_ble_eq_true rfl) ?_
    exact W.aret (v := .ref q7) hx hb hr (Or.inl ⟨_, rfl⟩) (Or.inr ⟨_, rfl⟩) (fun t ht hW => ⟨⟨((rd_ref (rd_nam u n x en).1 x.1), (rd_nam u n x en).2.1), q7, rfl, ⟨Eq.symm ((if_pos p15).trans rfl), rfl⟩, by rw [ht]; exact hP.sub [2, 0, 1] rfl, va_K.moved hW.alike hK, hD.sub [2, 0, 1] (by decide) rfl⟩, hS.F ht⟩) hS.2.2 d_Reader_fullName_24
