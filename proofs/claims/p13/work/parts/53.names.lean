/-! How far the reader goes; what a list costs. -/
theorem al_cost {o : alD} {z : Nat} (h : alI o z) : 4 * alK o + alS o z ≤ 4 * max (alK o) (10 + 2 * z) ∧ z < 2 ^ 24 := by
  refine ⟨?_, h.z⟩
  cases o with
  | none => show 4 * 0 + 10 ≤ 4 * max 0 (10 + 2 * z); omega
  | some d =>
    obtain ⟨el, cap, f⟩ := d
    have h : z ≤ cap ∧ 10 ≤ cap ∧ cap < 2 ^ 24 := h
    show 4 * cap + (if z < cap then 0 else cap + max 1 (cap / 2)) ≤ 4 * max cap (10 + 2 * z)
    split <;> omega
/-- a bound that omega shall not see -/
def mxB (a b c : Nat) : Prop := a ≤ max b c
theorem mxU {a b c : Nat} (h : mxB a b c) : a ≤ max b c := h
theorem al_costM {o : alD} {z : Nat} (h : alI o z) : mxB (4 * alK o + alS o z) (4 * alK o) (4 * (10 + 2 * z)) := by
  have := (al_cost h).1
  show _ ≤ max _ _
  omega
section WCJ
variable {p : Program} {l : Launch} {e : Env} {R : Room} {s : State} {m : MethodId} {args : Array Value} {below : List Frame} {meth : Method} {c : Code} {H : Heap} {locs : List Loc} {cells slots : Nat} {Q : State → Prop}
theorem w_cutJ {J : Prop} {lv : List (Nat × Value)} {nL pcJ : Nat} {st : List Value} {g : JFrame} (kk : ∀ ls : Array Slot, J → lv_has ls nL lv → W p l e R s m args below meth c H locs cells slots Q (F0 m pcJ ls st)) (go : (∀ ls : Array Slot, J → lv_has ls nL lv → W p l e R s m args below meth c H locs cells slots Q (F0 m pcJ ls st)) → W p l e R s m args below meth c H locs cells slots Q g) : W p l e R s m args below meth c H locs cells slots Q g := go kk
end WCJ
/-- from x to y: never back, never beyond en (or where x stood), and what is wrong stays wrong -/
def bd (x y : rS) (en : Nat) : Prop := x.1 ≤ y.1 ∧ y.1 ≤ max x.1 en ∧ (y.2.2 = none → x.2.2 = none)
theorem bd.rf (x : rS) (en : Nat) : bd x x en := ⟨Nat.le_refl _, Nat.le_max_left _ _, id⟩
theorem bd.tr {x y z : rS} {en e2 : Nat} (h : bd x y en) (g : bd y z e2) (he : e2 ≤ max x.1 en) : bd x z en := ⟨Nat.le_trans h.1 g.1, by have := h.2.1; have := g.2.1; omega, fun q => h.2.2 (g.2.2 q)⟩
theorem opn_bd (u : Nat → Nat) (n : Nat) (x : rS) (tg en : Nat) : bd x (rd_opn u n x tg en).1 en ∧ x.1 ≤ (rd_opn u n x tg en).2 ∧ (rd_opn u n x tg en).2 ≤ max x.1 en ∧ (rd_opn u n x tg en).1.1 ≤ (rd_opn u n x tg en).2 ∧ ((rd_opn u n x tg en).1.2.2 = none → x.1 + 2 ≤ (rd_opn u n x tg en).1.1 ∧ (rd_opn u n x tg en).2 ≤ en) := by
  obtain ⟨p, s, w⟩ := x
  cases w with
  | some j => exact ⟨⟨Nat.le_refl _, Nat.le_max_left _ _, fun q => by cases q⟩, Nat.le_refl _, Nat.le_max_left _ _, Nat.le_refl _, fun q => by cases q⟩
  | none =>
    simp only [rd_opn]
    by_cases h4 : en ≤ p
    · rw [if_pos h4]
      exact ⟨⟨Nat.le_refl _, Nat.le_max_left _ _, fun q => by cases q⟩, Nat.le_refl _, Nat.le_max_left _ _, Nat.le_refl _, fun q => by cases q⟩
    · rw [if_neg h4]
      cases hq : hx u n p with
      | none => exact ⟨⟨Nat.le_refl _, Nat.le_max_left _ _, fun q => by cases q⟩, Nat.le_refl _, Nat.le_max_left _ _, Nat.le_refl _, fun q => by cases q⟩
      | some z =>
        obtain ⟨k, m⟩ := z
        have hk : 2 ≤ k := by
          unfold hx at hq
          split at hq
          · split at hq
            · split at hq
              · cases hq; decide
              · cases hq
            · split at hq
              · split at hq
                · cases hq; decide
                · cases hq
              · split at hq
                · cases hq; decide
                · cases hq
          · cases hq
        dsimp only
        by_cases h5 : u p = tg ∧ p + k + m ≤ en
        · rw [if_pos h5]
          exact ⟨⟨by show p ≤ p + k; omega, by show p + k ≤ max p en; omega, fun _ => rfl⟩, by show p ≤ p + k + m; omega, by show p + k + m ≤ max p en; omega, by show p + k ≤ p + k + m; omega, fun _ => ⟨by show p + 2 ≤ p + k; omega, h5.2⟩⟩
        · rw [if_neg h5]
          exact ⟨⟨Nat.le_refl _, Nat.le_max_left _ _, fun q => by cases q⟩, Nat.le_refl _, Nat.le_max_left _ _, Nat.le_refl _, fun q => by cases q⟩
theorem lea_bd (x : rS) (e : Nat) (bv : Int32) (he : x.1 ≤ e) : bd x (rd_lea x e bv) e := by
  obtain ⟨p, s, w⟩ := x
  have he : p ≤ e := he
  cases w with
  | some j => exact bd.rf _ _
  | none =>
    simp only [rd_lea]
    split
    · exact ⟨Nat.le_refl _, Nat.le_max_left _ _, fun q => by cases q⟩
    · exact ⟨he, Nat.le_max_right _ _, fun _ => rfl⟩
theorem fin_bd (x : rS) (e en : Nat) : bd x (rd_fin x e) en := by
  obtain ⟨p, s, w⟩ := x
  cases w with
  | some j => exact bd.rf _ _
  | none =>
    simp only [rd_fin]
    split
    · exact ⟨Nat.le_refl _, Nat.le_max_left _ _, fun q => by cases q⟩
    · exact bd.rf _ _
theorem req_bd (x : rS) (bv : Int32) (en : Nat) : bd x (rd_req x bv) en := by
  obtain ⟨p, s, w⟩ := x
  cases w with
  | some j => exact bd.rf _ _
  | none =>
    simp only [rd_req]
    split
    · exact ⟨Nat.le_refl _, Nat.le_max_left _ _, fun q => by cases q⟩
    · exact bd.rf _ _
theorem ref_bd (x : rS) (k en : Nat) : bd x (rd_ref x k) en := by
  obtain ⟨p, s, w⟩ := x
  cases w with
  | some j => exact bd.rf _ _
  | none => exact ⟨Nat.le_refl _, Nat.le_max_left _ _, fun q => by cases q⟩
theorem part_bd (u : Nat → Nat) (n : Nat) (x : rS) (en : Nat) : bd x (rd_part u n x en) en := by
  unfold rd_part
  dsimp only
  have h1 := opn_bd u n x 49 en
  generalize rd_opn u n x 49 en = s at h1 ⊢
  have h2 := opn_bd u n s.1 48 s.2
  generalize rd_opn u n s.1 48 s.2 = q at h2 ⊢
  have h3 := opn_bd u n q.1 6 q.2
  generalize rd_opn u n q.1 6 q.2 = d at h3 ⊢
  have h4 := lea_bd d.1 d.2 (zP (oidOK u d.1.1 d.2)) h3.2.2.2.1
  generalize rd_lea d.1 d.2 (zP (oidOK u d.1.1 d.2)) = x1 at h4 ⊢
  have h5 := opn_bd u n x1 (stTag u x1 q.2) q.2
  generalize rd_opn u n x1 (stTag u x1 q.2) q.2 = t at h5 ⊢
  have h6 := lea_bd t.1 t.2 (zP (t.1.1 < t.2 ∧ strOK u (stTag u x1 q.2) t.1.1 t.2)) h5.2.2.2.1
  have a1 := h1.1.2.1; have a2 := h2.1.2.1; have a3 := h3.1.2.1; have a4 := h4.2.1; have a5 := h5.1.2.1
  have b1 := h1.2.2.1; have b2 := h2.2.2.1; have b3 := h3.2.2.1; have b5 := h5.2.2.1
  refine ((((((h1.1.tr h2.1 (by omega)).tr h3.1 (by omega)).tr h4 (by omega)).tr h5.1 (by omega)).tr h6 (by omega)).tr (fin_bd _ q.2 en) (by omega)).tr (fin_bd _ s.2 en) (by omega)
theorem row_bd (u : Nat → Nat) (n en : Nat) : ∀ (f : Nat) (x : rS), bd x (rd_row u n en f x).1 en
  | 0, x => bd.rf _ _
  | f + 1, x => by
    by_cases h5 : mr x en
    · have e : rd_row u n en (f + 1) x = ((rd_row u n en f (rd_part u n x en)).1, (rd_row u n en f (rd_part u n x en)).2 + 1) := if_pos h5
      rw [e]; exact (part_bd u n x en).tr (row_bd u n en f _) (Nat.le_max_right _ _)
    · have e : rd_row u n en (f + 1) x = (x, 0) := if_neg h5
      rw [e]; exact bd.rf _ _
theorem nam_bd (u : Nat → Nat) (n : Nat) (x : rS) (en : Nat) : bd x (rd_nam u n x en).1 en := by
  have h1 := opn_bd u n x 48 en
  exact h1.1.tr (row_bd u n _ _ _) h1.2.2.1
theorem plain_bd (u : Nat → Nat) (n : Nat) (x : rS) (tg le en : Nat) : bd x (rd_plain u n x tg le en).1 en ∧ ((rd_plain u n x tg le en).1.2.2 = none → x.1 + 2 ≤ (rd_plain u n x tg le en).1.1) := by
  have h1 := opn_bd u n x tg en
  unfold rd_plain
  dsimp only
  generalize rd_opn u n x tg en = o at h1 ⊢
  refine ⟨h1.1.tr (lea_bd _ _ _ h1.2.2.2.1) h1.2.2.1, fun q => ?_⟩
  have g := lea_bd o.1 o.2 (zI (le ≤ o.2 - o.1.1)) h1.2.2.2.1
  have := (h1.2.2.2.2 (g.2.2 q)).1
  have := g.1
  omega
/-- one step of a list of things: on from x, and two octets further if nothing is wrong -/
def st2 (x y : rS) (en : Nat) : Prop := bd x y en ∧ (y.2.2 = none → x.1 + 2 ≤ y.1)
theorem st2.tr {x y z : rS} {en e2 : Nat} (h : st2 x y en) (g : bd y z e2) (he : e2 ≤ max x.1 en) : st2 x z en := ⟨h.1.tr g he, fun q => Nat.le_trans (h.2 (g.2.2 q)) g.1⟩
theorem opn_st2 (u : Nat → Nat) (n : Nat) (x : rS) (tg en : Nat) : st2 x (rd_opn u n x tg en).1 en := ⟨(opn_bd u n x tg en).1, fun q => ((opn_bd u n x tg en).2.2.2.2 q).1⟩
theorem plain_st2 (u : Nat → Nat) (n : Nat) (x : rS) (tg le en : Nat) : st2 x (rd_plain u n x tg le en).1 en := plain_bd u n x tg le en

noncomputable def rb_nms (u : Nat → Nat) (n e : Nat) (s : rS × List (Nat × Nat) × List (Nat × Nat)) : rS × List (Nat × Nat) × List (Nat × Nat) :=
  (@ite _ (s.1.2.2 = none ∧ s.1.1 < e ∧ u s.1.1 = 164) (Classical.propDecidable _) (let z45 := rd_opn u n s.1 164 e; (let z63 := rd_nam u n z45.1 z45.2; (let z73 := rd_fin z63.1 z45.2; (z73, s.2.1, (s.2.2 ++ [(z63.2.2.1, z63.2.2.2)]))))) (@ite _ (s.1.2.2 = none ∧ s.1.1 < e ∧ u s.1.1 = 135) (Classical.propDecidable _) (let z96 := rd_plain u n s.1 135 1 e; (let z123 := rd_req z96.1 (zP (((z96.2.2 - z96.2.1) = 4) ∨ ((z96.2.2 - z96.2.1) = 16))); (z123, s.2.1, s.2.2))) (@ite _ (s.1.2.2 = none ∧ s.1.1 < e ∧ u s.1.1 = 129) (Classical.propDecidable _) (let z147 := rd_plain u n s.1 129 1 e; (let z153 := rd_req z147.1 (zP (visN u z147.2.1 z147.2.2)); (z153, s.2.1, s.2.2))) (let z165 := rd_plain u n s.1 130 1 e; (let z176 := rd_req z165.1 (zP (visN u z165.2.1 z165.2.2)); (z176, (s.2.1 ++ [(z165.2.1, z165.2.2)]), s.2.2))))))
noncomputable def rd_nms (u : Nat → Nat) (n : Nat) (x : rS) (en : Nat) (D R : List (Nat × Nat)) : rS × List (Nat × Nat) × List (Nat × Nat) := loopF (rb_nms u n (rd_opn u n x 48 en).2) (fun s => mr s.1 (rd_opn u n x 48 en).2) 2048 true ((rd_opn u n x 48 en).1, D, R)
theorem nmb_st2 (u : Nat → Nat) (n e : Nat) (s : rS × List (Nat × Nat) × List (Nat × Nat)) : st2 s.1 (rb_nms u n e s).1 e := by
  unfold rb_nms
  dsimp only
  split
  · have h1 := opn_bd u n s.1 164 e
    exact ((opn_st2 u n s.1 164 e).tr (nam_bd u n _ _) h1.2.2.1).tr (fin_bd _ _ e) (Nat.le_max_right _ _)
  · split
    · exact (plain_st2 u n s.1 135 1 e).tr (req_bd _ _ e) (Nat.le_max_right _ _)
    · split
      · exact (plain_st2 u n s.1 129 1 e).tr (req_bd _ _ e) (Nat.le_max_right _ _)
      · exact (plain_st2 u n s.1 130 1 e).tr (req_bd _ _ e) (Nat.le_max_right _ _)
def y_CertificateReader_readNames : MethodName := ⟨"TrustChain$CertificateReader", "readNames", "(I)V"⟩
abbrev b_CertificateReader_readNames : ByteArray := prog_3_method_9_code
def w_CertificateReader_readNames : List Cond := Cond.code y_CertificateReader_readNames b_CertificateReader_readNames 5 (none) :: tb
theorem d_CertificateReader_readNames_0 : decode b_CertificateReader_readNames 0 = .ok (.aload_n 0, 1) := by decide +kernel
theorem d_CertificateReader_readNames_1 : decode b_CertificateReader_readNames 1 = .ok (.bipush 48, 2) := by decide +kernel
theorem d_CertificateReader_readNames_3 : decode b_CertificateReader_readNames 3 = .ok (.iload_n 1, 1) := by decide +kernel
theorem d_CertificateReader_readNames_4 : decode b_CertificateReader_readNames 4 = .ok (.invokevirtual 29, 3) := by decide +kernel
theorem d_CertificateReader_readNames_7 : decode b_CertificateReader_readNames 7 = .ok (.istore_n 2, 1) := by decide +kernel
theorem d_CertificateReader_readNames_8 : decode b_CertificateReader_readNames 8 = .ok (.iconst 0, 1) := by decide +kernel
theorem d_CertificateReader_readNames_9 : decode b_CertificateReader_readNames 9 = .ok (.istore_n 3, 1) := by decide +kernel
theorem d_CertificateReader_readNames_10 : decode b_CertificateReader_readNames 10 = .ok (.iload_n 3, 1) := by decide +kernel
theorem d_CertificateReader_readNames_11 : decode b_CertificateReader_readNames 11 = .ok (.sipush 2048, 3) := by decide +kernel
theorem d_CertificateReader_readNames_14 : decode b_CertificateReader_readNames 14 = .ok (.if_icmp .ge 187, 3) := by decide +kernel
theorem d_CertificateReader_readNames_17 : decode b_CertificateReader_readNames 17 = .ok (.iload_n 3, 1) := by decide +kernel
theorem d_CertificateReader_readNames_18 : decode b_CertificateReader_readNames 18 = .ok (.ifCond .eq 11, 3) := by decide +kernel
theorem d_CertificateReader_readNames_21 : decode b_CertificateReader_readNames 21 = .ok (.aload_n 0, 1) := by decide +kernel
theorem d_CertificateReader_readNames_22 : decode b_CertificateReader_readNames 22 = .ok (.iload_n 2, 1) := by decide +kernel
theorem d_CertificateReader_readNames_23 : decode b_CertificateReader_readNames 23 = .ok (.invokevirtual 187, 3) := by decide +kernel
theorem d_CertificateReader_readNames_26 : decode b_CertificateReader_readNames 26 = .ok (.ifCond .eq 175, 3) := by decide +kernel
theorem d_CertificateReader_readNames_29 : decode b_CertificateReader_readNames 29 = .ok (.aload_n 0, 1) := by decide +kernel
theorem d_CertificateReader_readNames_30 : decode b_CertificateReader_readNames 30 = .ok (.sipush 164, 3) := by decide +kernel
theorem d_CertificateReader_readNames_33 : decode b_CertificateReader_readNames 33 = .ok (.iload_n 2, 1) := by decide +kernel
theorem d_CertificateReader_readNames_34 : decode b_CertificateReader_readNames 34 = .ok (.invokevirtual 44, 3) := by decide +kernel
theorem d_CertificateReader_readNames_37 : decode b_CertificateReader_readNames 37 = .ok (.ifCond .eq 42, 3) := by decide +kernel
theorem d_CertificateReader_readNames_40 : decode b_CertificateReader_readNames 40 = .ok (.aload_n 0, 1) := by decide +kernel
theorem d_CertificateReader_readNames_41 : decode b_CertificateReader_readNames 41 = .ok (.sipush 164, 3) := by decide +kernel
theorem d_CertificateReader_readNames_44 : decode b_CertificateReader_readNames 44 = .ok (.iload_n 2, 1) := by decide +kernel
theorem d_CertificateReader_readNames_45 : decode b_CertificateReader_readNames 45 = .ok (.invokevirtual 29, 3) := by decide +kernel
theorem d_CertificateReader_readNames_48 : decode b_CertificateReader_readNames 48 = .ok (.istore 4, 2) := by decide +kernel
theorem d_CertificateReader_readNames_50 : decode b_CertificateReader_readNames 50 = .ok (.aload_n 0, 1) := by decide +kernel
theorem d_CertificateReader_readNames_51 : decode b_CertificateReader_readNames 51 = .ok (.getfield 19, 3) := by decide +kernel
theorem d_CertificateReader_readNames_54 : decode b_CertificateReader_readNames 54 = .ok (.getfield 220, 3) := by decide +kernel
theorem d_CertificateReader_readNames_57 : decode b_CertificateReader_readNames 57 = .ok (.getfield 223, 3) := by decide +kernel
theorem d_CertificateReader_readNames_60 : decode b_CertificateReader_readNames 60 = .ok (.aload_n 0, 1) := by decide +kernel
theorem d_CertificateReader_readNames_61 : decode b_CertificateReader_readNames 61 = .ok (.iload 4, 2) := by decide +kernel
theorem d_CertificateReader_readNames_63 : decode b_CertificateReader_readNames 63 = .ok (.invokevirtual 110, 3) := by decide +kernel
theorem d_CertificateReader_readNames_66 : decode b_CertificateReader_readNames 66 = .ok (.invokevirtual 229, 3) := by decide +kernel
theorem d_CertificateReader_readNames_69 : decode b_CertificateReader_readNames 69 = .ok (.pop, 1) := by decide +kernel
theorem d_CertificateReader_readNames_70 : decode b_CertificateReader_readNames 70 = .ok (.aload_n 0, 1) := by decide +kernel
theorem d_CertificateReader_readNames_71 : decode b_CertificateReader_readNames 71 = .ok (.iload 4, 2) := by decide +kernel
theorem d_CertificateReader_readNames_73 : decode b_CertificateReader_readNames 73 = .ok (.invokevirtual 51, 3) := by decide +kernel
theorem d_CertificateReader_readNames_76 : decode b_CertificateReader_readNames 76 = .ok (.goto 119, 3) := by decide +kernel
theorem d_CertificateReader_readNames_79 : decode b_CertificateReader_readNames 79 = .ok (.aload_n 0, 1) := by decide +kernel
theorem d_CertificateReader_readNames_80 : decode b_CertificateReader_readNames 80 = .ok (.sipush 135, 3) := by decide +kernel
theorem d_CertificateReader_readNames_83 : decode b_CertificateReader_readNames 83 = .ok (.iload_n 2, 1) := by decide +kernel
theorem d_CertificateReader_readNames_84 : decode b_CertificateReader_readNames 84 = .ok (.invokevirtual 44, 3) := by decide +kernel
theorem d_CertificateReader_readNames_87 : decode b_CertificateReader_readNames 87 = .ok (.ifCond .eq 42, 3) := by decide +kernel
theorem d_CertificateReader_readNames_90 : decode b_CertificateReader_readNames 90 = .ok (.aload_n 0, 1) := by decide +kernel
theorem d_CertificateReader_readNames_91 : decode b_CertificateReader_readNames 91 = .ok (.sipush 135, 3) := by decide +kernel
theorem d_CertificateReader_readNames_94 : decode b_CertificateReader_readNames 94 = .ok (.iconst 1, 1) := by decide +kernel
theorem d_CertificateReader_readNames_95 : decode b_CertificateReader_readNames 95 = .ok (.iload_n 2, 1) := by decide +kernel
theorem d_CertificateReader_readNames_96 : decode b_CertificateReader_readNames 96 = .ok (.invokevirtual 163, 3) := by decide +kernel
theorem d_CertificateReader_readNames_99 : decode b_CertificateReader_readNames 99 = .ok (.invokevirtual 153, 3) := by decide +kernel
theorem d_CertificateReader_readNames_102 : decode b_CertificateReader_readNames 102 = .ok (.istore 4, 2) := by decide +kernel
theorem d_CertificateReader_readNames_104 : decode b_CertificateReader_readNames 104 = .ok (.aload_n 0, 1) := by decide +kernel
theorem d_CertificateReader_readNames_105 : decode b_CertificateReader_readNames 105 = .ok (.iload 4, 2) := by decide +kernel
theorem d_CertificateReader_readNames_107 : decode b_CertificateReader_readNames 107 = .ok (.iconst 4, 1) := by decide +kernel
theorem d_CertificateReader_readNames_108 : decode b_CertificateReader_readNames 108 = .ok (.if_icmp .eq 10, 3) := by decide +kernel
theorem d_CertificateReader_readNames_111 : decode b_CertificateReader_readNames 111 = .ok (.iload 4, 2) := by decide +kernel
theorem d_CertificateReader_readNames_113 : decode b_CertificateReader_readNames 113 = .ok (.bipush 16, 2) := by decide +kernel
theorem d_CertificateReader_readNames_115 : decode b_CertificateReader_readNames 115 = .ok (.if_icmp .ne 7, 3) := by decide +kernel
theorem d_CertificateReader_readNames_118 : decode b_CertificateReader_readNames 118 = .ok (.iconst 1, 1) := by decide +kernel
theorem d_CertificateReader_readNames_119 : decode b_CertificateReader_readNames 119 = .ok (.goto 4, 3) := by decide +kernel
theorem d_CertificateReader_readNames_122 : decode b_CertificateReader_readNames 122 = .ok (.iconst 0, 1) := by decide +kernel
theorem d_CertificateReader_readNames_123 : decode b_CertificateReader_readNames 123 = .ok (.invokevirtual 79, 3) := by decide +kernel
theorem d_CertificateReader_readNames_126 : decode b_CertificateReader_readNames 126 = .ok (.goto 69, 3) := by decide +kernel
theorem d_CertificateReader_readNames_129 : decode b_CertificateReader_readNames 129 = .ok (.aload_n 0, 1) := by decide +kernel
theorem d_CertificateReader_readNames_130 : decode b_CertificateReader_readNames 130 = .ok (.sipush 129, 3) := by decide +kernel
theorem d_CertificateReader_readNames_133 : decode b_CertificateReader_readNames 133 = .ok (.iload_n 2, 1) := by decide +kernel
theorem d_CertificateReader_readNames_134 : decode b_CertificateReader_readNames 134 = .ok (.invokevirtual 44, 3) := by decide +kernel
theorem d_CertificateReader_readNames_137 : decode b_CertificateReader_readNames 137 = .ok (.ifCond .eq 22, 3) := by decide +kernel
theorem d_CertificateReader_readNames_140 : decode b_CertificateReader_readNames 140 = .ok (.aload_n 0, 1) := by decide +kernel
theorem d_CertificateReader_readNames_141 : decode b_CertificateReader_readNames 141 = .ok (.aload_n 0, 1) := by decide +kernel
theorem d_CertificateReader_readNames_142 : decode b_CertificateReader_readNames 142 = .ok (.sipush 129, 3) := by decide +kernel
theorem d_CertificateReader_readNames_145 : decode b_CertificateReader_readNames 145 = .ok (.iconst 1, 1) := by decide +kernel
theorem d_CertificateReader_readNames_146 : decode b_CertificateReader_readNames 146 = .ok (.iload_n 2, 1) := by decide +kernel
theorem d_CertificateReader_readNames_147 : decode b_CertificateReader_readNames 147 = .ok (.invokevirtual 163, 3) := by decide +kernel
theorem d_CertificateReader_readNames_150 : decode b_CertificateReader_readNames 150 = .ok (.invokestatic 235, 3) := by decide +kernel
theorem d_CertificateReader_readNames_153 : decode b_CertificateReader_readNames 153 = .ok (.invokevirtual 79, 3) := by decide +kernel
theorem d_CertificateReader_readNames_156 : decode b_CertificateReader_readNames 156 = .ok (.goto 39, 3) := by decide +kernel
theorem d_CertificateReader_readNames_159 : decode b_CertificateReader_readNames 159 = .ok (.aload_n 0, 1) := by decide +kernel
theorem d_CertificateReader_readNames_160 : decode b_CertificateReader_readNames 160 = .ok (.sipush 130, 3) := by decide +kernel
theorem d_CertificateReader_readNames_163 : decode b_CertificateReader_readNames 163 = .ok (.iconst 1, 1) := by decide +kernel
theorem d_CertificateReader_readNames_164 : decode b_CertificateReader_readNames 164 = .ok (.iload_n 2, 1) := by decide +kernel
theorem d_CertificateReader_readNames_165 : decode b_CertificateReader_readNames 165 = .ok (.invokevirtual 163, 3) := by decide +kernel
theorem d_CertificateReader_readNames_168 : decode b_CertificateReader_readNames 168 = .ok (.astore 4, 2) := by decide +kernel
theorem d_CertificateReader_readNames_170 : decode b_CertificateReader_readNames 170 = .ok (.aload_n 0, 1) := by decide +kernel
theorem d_CertificateReader_readNames_171 : decode b_CertificateReader_readNames 171 = .ok (.aload 4, 2) := by decide +kernel
theorem d_CertificateReader_readNames_173 : decode b_CertificateReader_readNames 173 = .ok (.invokestatic 235, 3) := by decide +kernel
theorem d_CertificateReader_readNames_176 : decode b_CertificateReader_readNames 176 = .ok (.invokevirtual 79, 3) := by decide +kernel
theorem d_CertificateReader_readNames_179 : decode b_CertificateReader_readNames 179 = .ok (.aload_n 0, 1) := by decide +kernel
theorem d_CertificateReader_readNames_180 : decode b_CertificateReader_readNames 180 = .ok (.getfield 19, 3) := by decide +kernel
theorem d_CertificateReader_readNames_183 : decode b_CertificateReader_readNames 183 = .ok (.getfield 220, 3) := by decide +kernel
theorem d_CertificateReader_readNames_186 : decode b_CertificateReader_readNames 186 = .ok (.getfield 238, 3) := by decide +kernel
theorem d_CertificateReader_readNames_189 : decode b_CertificateReader_readNames 189 = .ok (.aload 4, 2) := by decide +kernel
theorem d_CertificateReader_readNames_191 : decode b_CertificateReader_readNames 191 = .ok (.invokevirtual 229, 3) := by decide +kernel
theorem d_CertificateReader_readNames_194 : decode b_CertificateReader_readNames 194 = .ok (.pop, 1) := by decide +kernel
theorem d_CertificateReader_readNames_195 : decode b_CertificateReader_readNames 195 = .ok (.iinc 3 1, 3) := by decide +kernel
theorem d_CertificateReader_readNames_198 : decode b_CertificateReader_readNames 198 = .ok (.goto (-188), 3) := by decide +kernel
theorem d_CertificateReader_readNames_201 : decode b_CertificateReader_readNames 201 = .ok (.return_, 1) := by decide +kernel
set_option maxHeartbeats 4000000 in
set_option maxRecDepth 100000 in
theorem cC_readNames (l : Launch) (dC : Nat → ClassId) (dI : Nat → Nat → Nat) (sb : sB) (h res t ki n : Nat) (x : rS) (pa ma ex ie : Int32) (cB : ClassId) (u : Nat → Nat) (en : Nat) (k0 k1 k2 k3 k4 k5 k6 k7 k19 k20 k21 k22 k23 k24 : Nat) (k8 k9 k10 k11 k12 k13 k14 k15 k16 k17 k18 k27 : Int32) (k25 k26 : Int64) (ns ad ar : Nat) (o1 o2 : alD) (m1 m2 : Int32) (D R : List (Nat × Nat)) (pl : va_W) (cO : ClassId) (LB : Nat) (sz : Nat) (hu : ∀ j, u j < 256) (hn : n < 2 ^ 30) (hi : rdInv n x) (he : en ≤ n) (hE1 : elS t n pl o1 D) (hE2 : elS t n pl o2 R) (hL1 : D.length + ((en - x.1) / 2 + 1) ≤ LB) (hL2 : R.length + ((en - x.1) / 2 + 1) ≤ LB) (hLB : LB < 2 ^ 20) : Met l y_CertificateReader_readNames w_CertificateReader_readNames ({ frames := 7, cells := (2 * ((en - x.1) / 2 + 1)), slots := (3 * ((en - x.1) / 2 + 1) + 8 * (10 + 2 * LB)), locals := 230 }) (mu_P [.ref h, .int (nI en)] (dC, dI) sb (([(h, .inr (4, [.ref res, .ref t, .int (nI x.1), .int (nI x.2.1), .int (wI x.2.2), .int pa, .int ma, .int ex, .ref ki])), (t, .inl (cB, n, .inl (tx u))), (res, .inr (3, [.ref ns, .ref k1, .ref k2, .ref k3, .ref k4, .ref k5, .ref k6, .ref k7, .int k8, .int k9, .int k10, .int k11, .int k12, .int k13, .int k14, .int k15, .int k16, .int k17, .int k18, .ref k19, .ref k20, .ref k21, .ref k22, .ref k23, .ref k24, .long k25, .long k26, .int k27])), (ns, .inr (1, [.ref ad, .ref ar])), (ad, .inr (11, [.ref (alO sb o1), .int (nI D.length), .int m1])), (ar, .inr (11, [.ref (alO sb o2), .int (nI R.length), .int m2]))] : va_W) ++ (alC cO o1 ++ (alC cO o2 ++ (pl ++ [])))) [(cB, .byte), (cO, .object "java/lang/Object")] sz) (va_Qv (fun (u' : (rS × List (Nat × Nat) × List (Nat × Nat)) × alD × Int32 × alD × Int32 × va_W × Int32) => u'.1 = rd_nms u n x en D R ∧ rdInv n u'.1.1 ∧ elS t n u'.2.2.2.2.2.1 u'.2.1 u'.1.2.1 ∧ elS t n u'.2.2.2.2.2.1 u'.2.2.2.1 u'.1.2.2 ∧ (∀ q ∈ pl, q ∈ u'.2.2.2.2.2.1) ∧ (2 * u'.1.2.1.length + x.1 ≤ 2 * D.length + u'.1.1.1 + 2 ∧ 2 * u'.1.2.2.length + x.1 ≤ 2 * R.length + u'.1.1.1 + 2) ∧ (u'.1.1.2.2 = none → 2 * u'.1.2.1.length + x.1 ≤ 2 * D.length + u'.1.1.1 ∧ 2 * u'.1.2.2.length + x.1 ≤ 2 * R.length + u'.1.1.1)) (mu_B (dC, dI) [(cB, .byte), (cO, .object "java/lang/Object")] (va_A (([(h, .inr (4, [.ref res, .ref t, .int (nI x.1), .int (nI x.2.1), .int (wI x.2.2), .int pa, .int ma, .int ex, .ref ki])), (t, .inl (cB, n, .inl (tx u))), (res, .inr (3, [.ref ns, .ref k1, .ref k2, .ref k3, .ref k4, .ref k5, .ref k6, .ref k7, .int k8, .int k9, .int k10, .int k11, .int k12, .int k13, .int k14, .int k15, .int k16, .int k17, .int k18, .ref k19, .ref k20, .ref k21, .ref k22, .ref k23, .ref k24, .long k25, .long k26, .int k27])), (ns, .inr (1, [.ref ad, .ref ar])), (ad, .inr (11, [.ref (alO sb o1), .int (nI D.length), .int m1])), (ar, .inr (11, [.ref (alO sb o2), .int (nI R.length), .int m2]))] : va_W) ++ (alC cO o1 ++ (alC cO o2 ++ (pl ++ [])))) sz) (fun u' : (rS × List (Nat × Nat) × List (Nat × Nat)) × alD × Int32 × alD × Int32 × va_W × Int32 => (([(h, .inr (4, [.ref res, .ref t, .int (nI u'.1.1.1), .int (nI u'.1.1.2.1), .int (wI u'.1.1.2.2), .int u'.2.2.2.2.2.2, .int ma, .int ex, .ref ki])), (t, .inl (cB, n, .inl (tx u))), (res, .inr (3, [.ref ns, .ref k1, .ref k2, .ref k3, .ref k4, .ref k5, .ref k6, .ref k7, .int k8, .int k9, .int k10, .int k11, .int k12, .int k13, .int k14, .int k15, .int k16, .int k17, .int k18, .ref k19, .ref k20, .ref k21, .ref k22, .ref k23, .ref k24, .long k25, .long k26, .int k27])), (ns, .inr (1, [.ref ad, .ref ar])), (ad, .inr (11, [.ref (alO sb u'.2.1), .int (nI u'.1.2.1.length), .int u'.2.2.1])), (ar, .inr (11, [.ref (alO sb u'.2.2.2.1), .int (nI u'.1.2.2.length), .int u'.2.2.2.2.1]))] : va_W) ++ (alC cO u'.2.1 ++ (alC cO u'.2.2.2.1 ++ (u'.2.2.2.2.2.1 ++ [])))))) (va_A (([(h, .inr (4, [.ref res, .ref t, .int (nI x.1), .int (nI x.2.1), .int (wI x.2.2), .int pa, .int ma, .int ex, .ref ki])), (t, .inl (cB, n, .inl (tx u))), (res, .inr (3, [.ref ns, .ref k1, .ref k2, .ref k3, .ref k4, .ref k5, .ref k6, .ref k7, .int k8, .int k9, .int k10, .int k11, .int k12, .int k13, .int k14, .int k15, .int k16, .int k17, .int k18, .ref k19, .ref k20, .ref k21, .ref k22, .ref k23, .ref k24, .long k25, .long k26, .int k27])), (ns, .inr (1, [.ref ad, .ref ar])), (ad, .inr (11, [.ref (alO sb o1), .int (nI D.length), .int m1])), (ar, .inr (11, [.ref (alO sb o2), .int (nI R.length), .int m2]))] : va_W) ++ (alC cO o1 ++ (alC cO o2 ++ (pl ++ [])))) sz)) (2 * ((en - x.1) / 2 + 1)) (3 * ((en - x.1) / 2 + 1) + 8 * (10 + 2 * LB)) (va_A (([(h, .inr (4, [.ref res, .ref t, .int (nI x.1), .int (nI x.2.1), .int (wI x.2.2), .int pa, .int ma, .int ex, .ref ki])), (t, .inl (cB, n, .inl (tx u))), (res, .inr (3, [.ref ns, .ref k1, .ref k2, .ref k3, .ref k4, .ref k5, .ref k6, .ref k7, .int k8, .int k9, .int k10, .int k11, .int k12, .int k13, .int k14, .int k15, .int k16, .int k17, .int k18, .ref k19, .ref k20, .ref k21, .ref k22, .ref k23, .ref k24, .long k25, .long k26, .int k27])), (ns, .inr (1, [.ref ad, .ref ar])), (ad, .inr (11, [.ref (alO sb o1), .int (nI D.length), .int m1])), (ar, .inr (11, [.ref (alO sb o2), .int (nI R.length), .int m2]))] : va_W) ++ (alC cO o1 ++ (alC cO o2 ++ (pl ++ [])))) sz) := by
  refine Met.ofW (cc := b_CertificateReader_readNames) (maxL := 5) (ret := none) (by decide) rfl ?_
  intro p e s m args below meth c s₁ B hml hv
  obtain ⟨rfl, hsz, hB0, hP, hK, hD0, hN, hT0⟩ := hv
  have hx := B.exec
  have hb := B.bytes
  have hr := B.returns
  have hts := atoms_spec (ws := w_CertificateReader_readNames) B.pre
  have tbin : ∀ w ∈ tb, w ∈ w_CertificateReader_readNames := fun w h => List.mem_cons_of_mem _ h
  have htb : ∀ w ∈ tb, w.before _ s = true := fun w h => hts w (tbin w h)
  have hown : s.vm.findClass "TrustChain$CertificateReader" = some m.cls := findClass_of_methodNamed B.named
  have hlocks := B.notSynchronized
  subst hsz
  have hD := hD0.self (sz := s.heap.size)
  generalize hAe : va_A (([(h, .inr (4, [.ref res, .ref t, .int (nI x.1), .int (nI x.2.1), .int (wI x.2.2), .int pa, .int ma, .int ex, .ref ki])), (t, .inl (cB, n, .inl (tx u))), (res, .inr (3, [.ref ns, .ref k1, .ref k2, .ref k3, .ref k4, .ref k5, .ref k6, .ref k7, .int k8, .int k9, .int k10, .int k11, .int k12, .int k13, .int k14, .int k15, .int k16, .int k17, .int k18, .ref k19, .ref k20, .ref k21, .ref k22, .ref k23, .ref k24, .long k25, .long k26, .int k27])), (ns, .inr (1, [.ref ad, .ref ar])), (ad, .inr (11, [.ref (alO sb o1), .int (nI D.length), .int m1])), (ar, .inr (11, [.ref (alO sb o2), .int (nI R.length), .int m2]))] : va_W) ++ (alC cO o1 ++ (alC cO o2 ++ (pl ++ [])))) s.heap.size = A at hD ⊢
  have hA : ∀ q : Nat, s.heap.size ≤ q → A q := fun q h => by rw [← hAe]; exact Or.inr h
  have hAs : ∀ q : Nat, A q → sb.1 ≤ q := fun q h => by
    rw [← hAe] at h
    rcases h with ⟨k, e, h⟩ | h
    · exact hD0.2 k _ h
    · exact Nat.le_trans hB0 h
  have hS : va_S A s.heap s.heap [] := va_S.rf
  have hcs : (2 * ((en - x.1) / 2 + 1)) ≤ (headSpec w_CertificateReader_readNames ({ frames := 7, cells := (2 * ((en - x.1) / 2 + 1)), slots := (3 * ((en - x.1) / 2 + 1) + 8 * (10 + 2 * LB)), locals := 230 })).room.cells ∧ (3 * ((en - x.1) / 2 + 1) + 8 * (10 + 2 * LB)) ≤ (headSpec w_CertificateReader_readNames ({ frames := 7, cells := (2 * ((en - x.1) / 2 + 1)), slots := (3 * ((en - x.1) / 2 + 1) + 8 * (10 + 2 * LB)), locals := 230 })).room.slots := ⟨Nat.le_refl _, Nat.le_refl _⟩
  have hP : va_P (dC, dI) classes (([(h, .inr (4, [.ref res, .ref t, .int (nI x.1), .int (nI x.2.1), .int (wI x.2.2), .int pa, .int ma, .int ex, .ref ki])), (t, .inl (cB, n, .inl (tx u))), (res, .inr (3, [.ref ns, .ref k1, .ref k2, .ref k3, .ref k4, .ref k5, .ref k6, .ref k7, .int k8, .int k9, .int k10, .int k11, .int k12, .int k13, .int k14, .int k15, .int k16, .int k17, .int k18, .ref k19, .ref k20, .ref k21, .ref k22, .ref k23, .ref k24, .long k25, .long k26, .int k27])), (ns, .inr (1, [.ref ad, .ref ar])), (ad, .inr (11, [.ref (alO sb o1), .int (nI D.length), .int m1])), (ar, .inr (11, [.ref (alO sb o2), .int (nI R.length), .int m2]))] : va_W) ++ (alC cO o1 ++ (alC cO o2 ++ (pl ++ [])))) s.heap := hP
  have hl := lv_entry ([.ref h, .int (nI en)]) (n := 5) (Nat.le_of_ble_eq_true rfl)
  rw [lg_entry_eq]
  generalize (lg_sl ([.ref h, .int (nI en)]) ++ List.replicate (5 - (lg_sl ([.ref h, .int (nI en)])).length) Slot.unset).toArray = ls at hl ⊢
  have hl : lv_has ls 5 [(0, .ref h), (1, .int (nI en))] := hl
  refine lv_aload_n hx hb d_CertificateReader_readNames_0 rfl (lv_at hl 0 rfl) ?_
  refine lv_bipush (v := 48) hx hb d_CertificateReader_readNames_1 (by decide) ?_
  refine lv_iload_n hx hb d_CertificateReader_readNames_3 rfl (lv_at hl 1 rfl) ?_
  have hFc := va_free (wc := [(h, .inr (4, [.ref res, .ref t, .int (nI x.1), .int (nI x.2.1), .int (wI x.2.2), .int pa, .int ma, .int ex, .ref ki])), (t, .inl (cB, n, .inl (tx u)))]) hD hS hA [0, 1] rfl
  refine va_calli (mu_runU (As := [.int 48, .int (nI en)]) (rest := []) ⟨hx, hb, hml, hown, hts⟩ (cC_open l dC dI sb h res t ki x.1 x.2.1 n x.2.2 pa ma ex ie cB u 48 en s.heap.size hu hn ((hi).w hn) (by omega) (hi).1 (by decide)) (cu_of (n := 2) hts tbin q3_108 q3_109 q3_112 q3_111 q1_15 q3_113 rfl (by decide +kernel) ⟨rfl, rfl⟩ ⟨Nat.le_of_ble_eq_true rfl, Nat.le_of_ble_eq_true rfl⟩) rfl ⟨by omega, by omega⟩ hN (hT0.keep hS hAs) hAs (Nat.le_trans hB0 hS.1) hK hP hD [0, 1] (by decide) rfl [0] rfl 0 4 rfl rfl rfl hl.1 rfl (Nat.le_of_ble_eq_true rfl) d_CertificateReader_readNames_4) hS (fun q _ h => hFc q h) hFc (fun r4 u4 tS H4 locs ht hvm hw4 hB hz1 hk1 hS => ?_)
  obtain ⟨x4, rfl⟩ : ∃ z, z = u4 := ⟨_, rfl⟩
  obtain ⟨hP1, hK1, hD1⟩ := hB
  rw [ht] at hP1
  obtain ⟨hP, hD⟩ := va_joinQ (X := [(h, .inr (4, [.ref res, .ref t, .int (nI x.1), .int (nI x.2.1), .int (wI x.2.2), .int pa, .int ma, .int ex, .ref ki])), (t, .inl (cB, n, .inl (tx u))), (res, .inr (3, [.ref ns, .ref k1, .ref k2, .ref k3, .ref k4, .ref k5, .ref k6, .ref k7, .int k8, .int k9, .int k10, .int k11, .int k12, .int k13, .int k14, .int k15, .int k16, .int k17, .int k18, .ref k19, .ref k20, .ref k21, .ref k22, .ref k23, .ref k24, .long k25, .long k26, .int k27])), (ns, .inr (1, [.ref ad, .ref ar])), (ad, .inr (11, [.ref (alO sb o1), .int (nI D.length), .int m1])), (ar, .inr (11, [.ref (alO sb o2), .int (nI R.length), .int m2]))]) (pl := (alC cO o1 ++ (alC cO o2 ++ (pl ++ [])))) (wr := [(res, .inr (3, [.ref ns, .ref k1, .ref k2, .ref k3, .ref k4, .ref k5, .ref k6, .ref k7, .int k8, .int k9, .int k10, .int k11, .int k12, .int k13, .int k14, .int k15, .int k16, .int k17, .int k18, .ref k19, .ref k20, .ref k21, .ref k22, .ref k23, .ref k24, .long k25, .long k26, .int k27])), (ns, .inr (1, [.ref ad, .ref ar])), (ad, .inr (11, [.ref (alO sb o1), .int (nI D.length), .int m1])), (ar, .inr (11, [.ref (alO sb o2), .int (nI R.length), .int m2]))]) (w1 := [(h, .inr (4, [.ref res, .ref t, .int (nI x4.1), .int (nI x4.2.1), .int (wI x4.2.2), .int pa, .int ma, .int ex, .ref ki])), (t, .inl (cB, n, .inl (tx u)))]) hP hD [0, 1] [2, 3, 4, 5] rfl rfl (by decide) (by decide) hk1 hFc hP1 hD1
  have hP : va_P (dC, dI) classes (([(res, .inr (3, [.ref ns, .ref k1, .ref k2, .ref k3, .ref k4, .ref k5, .ref k6, .ref k7, .int k8, .int k9, .int k10, .int k11, .int k12, .int k13, .int k14, .int k15, .int k16, .int k17, .int k18, .ref k19, .ref k20, .ref k21, .ref k22, .ref k23, .ref k24, .long k25, .long k26, .int k27])), (ns, .inr (1, [.ref ad, .ref ar])), (ad, .inr (11, [.ref (alO sb o1), .int (nI D.length), .int m1])), (ar, .inr (11, [.ref (alO sb o2), .int (nI R.length), .int m2])), (h, .inr (4, [.ref res, .ref t, .int (nI x4.1), .int (nI x4.2.1), .int (wI x4.2.2), .int pa, .int ma, .int ex, .ref ki])), (t, .inl (cB, n, .inl (tx u)))] : va_W) ++ (alC cO o1 ++ (alC cO o2 ++ (pl ++ [])))) H4 := hP
  have hD : va_D A (([(res, .inr (3, [.ref ns, .ref k1, .ref k2, .ref k3, .ref k4, .ref k5, .ref k6, .ref k7, .int k8, .int k9, .int k10, .int k11, .int k12, .int k13, .int k14, .int k15, .int k16, .int k17, .int k18, .ref k19, .ref k20, .ref k21, .ref k22, .ref k23, .ref k24, .long k25, .long k26, .int k27])), (ns, .inr (1, [.ref ad, .ref ar])), (ad, .inr (11, [.ref (alO sb o1), .int (nI D.length), .int m1])), (ar, .inr (11, [.ref (alO sb o2), .int (nI R.length), .int m2])), (h, .inr (4, [.ref res, .ref t, .int (nI x4.1), .int (nI x4.2.1), .int (wI x4.2.2), .int pa, .int ma, .int ex, .ref ki])), (t, .inl (cB, n, .inl (tx u)))] : va_W) ++ (alC cO o1 ++ (alC cO o2 ++ (pl ++ [])))) := hD
  have hw4 : x4 = (rd_opn u n x 48 en).1 ∧ r4 = nI (rd_opn u n x 48 en).2 := hw4
  have hi4 := opn_inv (u := u) (tg := 48) hi (show en ≤ n by omega)
  obtain ⟨z4, hz4⟩ : ∃ o, o = rd_opn u n x 48 en := ⟨_, rfl⟩
  rw [← hz4] at hw4 hi4
  obtain ⟨rfl, rfl⟩ := hw4
  have hb4 : z4.1.1 ≤ n := hi4.1.1
  have hc4 : z4.1.1 ≤ z4.2 := hi4.2.1
  have hd4 : z4.2 ≤ n := hi4.2.2.1
  have hP : va_P (dC, dI) classes (([(res, .inr (3, [.ref ns, .ref k1, .ref k2, .ref k3, .ref k4, .ref k5, .ref k6, .ref k7, .int k8, .int k9, .int k10, .int k11, .int k12, .int k13, .int k14, .int k15, .int k16, .int k17, .int k18, .ref k19, .ref k20, .ref k21, .ref k22, .ref k23, .ref k24, .long k25, .long k26, .int k27])), (ns, .inr (1, [.ref ad, .ref ar])), (ad, .inr (11, [.ref (alO sb o1), .int (nI D.length), .int m1])), (ar, .inr (11, [.ref (alO sb o2), .int (nI R.length), .int m2])), (h, .inr (4, [.ref res, .ref t, .int (nI z4.1.1), .int (nI z4.1.2.1), .int (wI z4.1.2.2), .int pa, .int ma, .int ex, .ref ki])), (t, .inl (cB, n, .inl (tx u)))] : va_W) ++ (alC cO o1 ++ (alC cO o2 ++ (pl ++ [])))) H4 := hP
  have hD : va_D A (([(res, .inr (3, [.ref ns, .ref k1, .ref k2, .ref k3, .ref k4, .ref k5, .ref k6, .ref k7, .int k8, .int k9, .int k10, .int k11, .int k12, .int k13, .int k14, .int k15, .int k16, .int k17, .int k18, .ref k19, .ref k20, .ref k21, .ref k22, .ref k23, .ref k24, .long k25, .long k26, .int k27])), (ns, .inr (1, [.ref ad, .ref ar])), (ad, .inr (11, [.ref (alO sb o1), .int (nI D.length), .int m1])), (ar, .inr (11, [.ref (alO sb o2), .int (nI R.length), .int m2])), (h, .inr (4, [.ref res, .ref t, .int (nI z4.1.1), .int (nI z4.1.2.1), .int (wI z4.1.2.2), .int pa, .int ma, .int ex, .ref ki])), (t, .inl (cB, n, .inl (tx u)))] : va_W) ++ (alC cO o1 ++ (alC cO o2 ++ (pl ++ [])))) := hD
  refine lv_istore_n (lv' := [(2, .int (nI z4.2)), (0, .ref h), (1, .int (nI en))]) hx hb d_CertificateReader_readNames_7 rfl hl (by decide) rfl (fun ls hl => ?_)
  refine lv_iconst (v := 0) hx hb d_CertificateReader_readNames_8 (by decide) ?_
  refine lv_istore_n (lv' := [(3, .int 0), (2, .int (nI z4.2)), (0, .ref h), (1, .int (nI en))]) hx hb d_CertificateReader_readNames_9 rfl hl (by decide) rfl (fun ls hl => ?_)
  refine W.widen (k := (2 * 0)) (n := (3 * 0 + 4 * (alK o1 - alK o1) + 4 * (alK o2 - alK o2))) (by omega) (by omega) ?_
  refine w_loopC (α := (rS × List (Nat × Nat) × List (Nat × Nat)) × Nat × alD × Int32 × alD × Int32 × va_W × Int32) (fun a => rdInv n a.1.1 ∧ a.2.1 ≤ 2048 ∧ loopF (rb_nms u n z4.2) (fun s => mr s.1 z4.2) (2048 - a.2.1) (a.2.1 == 0) a.1 = loopF (rb_nms u n z4.2) (fun s => mr s.1 z4.2) 2048 true (z4.1, D, R) ∧ elS t n a.2.2.2.2.2.2.1 a.2.2.1 a.1.2.1 ∧ elS t n a.2.2.2.2.2.2.1 a.2.2.2.2.1 a.1.2.2 ∧ (∀ q ∈ pl, q ∈ a.2.2.2.2.2.2.1) ∧ (alK o1 ≤ alK a.2.2.1 ∧ mxB (alK a.2.2.1) (alK o1) (10 + 2 * a.1.2.1.length)) ∧ (alK o2 ≤ alK a.2.2.2.2.1 ∧ mxB (alK a.2.2.2.2.1) (alK o2) (10 + 2 * a.1.2.2.length)) ∧ (a.1.2.1.length ≤ D.length + a.2.1 ∧ a.1.2.2.length ≤ R.length + a.2.1) ∧ (a.1.1.1 ≤ z4.2 ∧ z4.1.1 ≤ a.1.1.1 ∧ z4.1.1 + 2 * a.2.1 ≤ a.1.1.1 + 2 ∧ (a.1.1.2.2 = none → z4.1.1 + 2 * a.2.1 ≤ a.1.1.1))) (fun a => 2048 - a.2.1) (fun a => [(0, .ref h), (2, .int (nI z4.2)), (3, .int (nI a.2.1))]) (fun _ => []) (fun a => (([(h, .inr (4, [.ref res, .ref t, .int (nI a.1.1.1), .int (nI a.1.1.2.1), .int (wI a.1.1.2.2), .int a.2.2.2.2.2.2.2, .int ma, .int ex, .ref ki])), (t, .inl (cB, n, .inl (tx u))), (res, .inr (3, [.ref ns, .ref k1, .ref k2, .ref k3, .ref k4, .ref k5, .ref k6, .ref k7, .int k8, .int k9, .int k10, .int k11, .int k12, .int k13, .int k14, .int k15, .int k16, .int k17, .int k18, .ref k19, .ref k20, .ref k21, .ref k22, .ref k23, .ref k24, .long k25, .long k26, .int k27])), (ns, .inr (1, [.ref ad, .ref ar])), (ad, .inr (11, [.ref (alO sb a.2.2.1), .int (nI a.1.2.1.length), .int a.2.2.2.1])), (ar, .inr (11, [.ref (alO sb a.2.2.2.2.1), .int (nI a.1.2.2.length), .int a.2.2.2.2.2.1]))] : va_W) ++ (alC cO a.2.2.1 ++ (alC cO a.2.2.2.2.1 ++ (a.2.2.2.2.2.2.1 ++ []))))) (fun a => (2 * a.2.1)) (fun a => (3 * a.2.1 + 4 * (alK a.2.2.1 - alK o1) + 4 * (alK a.2.2.2.2.1 - alK o2))) 5 10 (fun a HL10 locs ls hJ hP hD hS hl ih => ?_) ((z4.1, D, R), 0, o1, m1, o2, m2, pl, pa) _ _ ls (⟨hi4.1, Nat.zero_le _, rfl, hE1, hE2, fun q hq => hq, ⟨Nat.le_refl _, Nat.le_max_left _ _⟩, ⟨Nat.le_refl _, Nat.le_max_left _ _⟩, ⟨Nat.le_refl _, Nat.le_refl _⟩, ⟨hc4, Nat.le_refl _, by show z4.1.1 + 2 * 0 ≤ z4.1.1 + 2; omega, fun _ => by show z4.1.1 + 2 * 0 ≤ z4.1.1; omega⟩⟩) (hP.part [4, 5, 0, 1, 2, 3] rfl) (hD.part [4, 5, 0, 1, 2, 3] (by decide) rfl) hS (lv_sub hl [2, 1, 0] rfl)
  have hP : va_P (dC, dI) classes (([(h, .inr (4, [.ref res, .ref t, .int (nI a.1.1.1), .int (nI a.1.1.2.1), .int (wI a.1.1.2.2), .int a.2.2.2.2.2.2.2, .int ma, .int ex, .ref ki])), (t, .inl (cB, n, .inl (tx u))), (res, .inr (3, [.ref ns, .ref k1, .ref k2, .ref k3, .ref k4, .ref k5, .ref k6, .ref k7, .int k8, .int k9, .int k10, .int k11, .int k12, .int k13, .int k14, .int k15, .int k16, .int k17, .int k18, .ref k19, .ref k20, .ref k21, .ref k22, .ref k23, .ref k24, .long k25, .long k26, .int k27])), (ns, .inr (1, [.ref ad, .ref ar])), (ad, .inr (11, [.ref (alO sb a.2.2.1), .int (nI a.1.2.1.length), .int a.2.2.2.1])), (ar, .inr (11, [.ref (alO sb a.2.2.2.2.1), .int (nI a.1.2.2.length), .int a.2.2.2.2.2.1]))] : va_W) ++ (alC cO a.2.2.1 ++ (alC cO a.2.2.2.2.1 ++ (a.2.2.2.2.2.2.1 ++ [])))) HL10 := hP
  have hD : va_D A (([(h, .inr (4, [.ref res, .ref t, .int (nI a.1.1.1), .int (nI a.1.1.2.1), .int (wI a.1.1.2.2), .int a.2.2.2.2.2.2.2, .int ma, .int ex, .ref ki])), (t, .inl (cB, n, .inl (tx u))), (res, .inr (3, [.ref ns, .ref k1, .ref k2, .ref k3, .ref k4, .ref k5, .ref k6, .ref k7, .int k8, .int k9, .int k10, .int k11, .int k12, .int k13, .int k14, .int k15, .int k16, .int k17, .int k18, .ref k19, .ref k20, .ref k21, .ref k22, .ref k23, .ref k24, .long k25, .long k26, .int k27])), (ns, .inr (1, [.ref ad, .ref ar])), (ad, .inr (11, [.ref (alO sb a.2.2.1), .int (nI a.1.2.1.length), .int a.2.2.2.1])), (ar, .inr (11, [.ref (alO sb a.2.2.2.2.1), .int (nI a.1.2.2.length), .int a.2.2.2.2.2.1]))] : va_W) ++ (alC cO a.2.2.1 ++ (alC cO a.2.2.2.2.1 ++ (a.2.2.2.2.2.2.1 ++ [])))) := hD
  obtain ⟨hj1, hj2, hj3, hj4, hj5, hj6, ⟨hj7, hj7b⟩, ⟨hj8, hj8b⟩, ⟨hj9, hj9b⟩, ⟨hj10, hj11, hj12, hj13⟩⟩ := hJ
  have hxn : a.1.1.1 ≤ n := hj1.1
  have hop9 := (opn_bd u n x 48 en)
  rw [← hz4] at hop9
  have hw9 : mxB z4.2 x.1 en := hop9.2.2.1
  have hw8 := hop9.1.1
  clear hop9
  have hkk : a.2.1 ≤ ((en - x.1) / 2 + 1) := by have := mxU hw9; omega
  have hs0 : (3 * a.2.1 + 4 * (alK a.2.2.1 - alK o1) + 4 * (alK a.2.2.2.2.1 - alK o2)) ≤ (3 * ((en - x.1) / 2 + 1) + 8 * (10 + 2 * LB)) := by have h1 := mxU hj7b; have h2 := mxU hj8b; omega
  refine lv_iload_n hx hb d_CertificateReader_readNames_10 rfl (lv_at hl 2 rfl) ?_
  refine lv_sipush (v := 2048) hx hb d_CertificateReader_readNames_11 (by decide) ?_
  refine lv_icmp_ge (tgt := 201) hx hb d_CertificateReader_readNames_14 (by decide) (fun c14 => ?_) (fun c14 => ?_)
  · have p14 : 2048 ≤ a.2.1 := ((nI_leI (a := 2048) (b := a.2.1) (by omega) (by omega)).mp c14)
    have hT9 : a.1 = rd_nms u n x en D R := by
        have h7 := loop_end hj3 (by omega)
        subst hz4
        exact h7
    refine W.widen (k := (2 * ((en - x.1) / 2 + 1))) (n := (3 * ((en - x.1) / 2 + 1) + 8 * (10 + 2 * LB))) (by have h1 := mxU hw9; have h2 := mxU hj7b; have h3 := mxU hj8b; omega) (by have h1 := mxU hw9; have h2 := mxU hj7b; have h3 := mxU hj8b; omega) ?_
    exact W.vret hx hb hr (fun t ht hW => ⟨⟨(a.1, a.2.2), rfl, ⟨hT9, hj1, hj4, hj5, hj6, ⟨by show 2 * a.1.2.1.length + x.1 ≤ 2 * D.length + a.1.1.1 + 2; omega, by show 2 * a.1.2.2.length + x.1 ≤ 2 * R.length + a.1.1.1 + 2; omega⟩, fun h9 => by have := hj13 h9; exact ⟨by show 2 * a.1.2.1.length + x.1 ≤ 2 * D.length + a.1.1.1; omega, by show 2 * a.1.2.2.length + x.1 ≤ 2 * R.length + a.1.1.1; omega⟩⟩, by rw [ht]; exact hP, va_K.moved hW.alike hK, hD⟩, hS.F ht⟩) hS.2.2 d_CertificateReader_readNames_201
  · have p14 : ¬ (2048 ≤ a.2.1) := (fun q9 => c14 ((nI_leI (a := 2048) (b := a.2.1) (by omega) (by omega)).mpr q9))
    have hk2 : a.2.1 < 2048 := by omega
    refine w_cutJ (J := (a.2.1 == 0) = true ∨ mr a.1.1 z4.2) (nL := 5) (lv := [(0, .ref h), (2, .int (nI z4.2)), (3, .int (nI a.2.1))]) (pcJ := 29) (st := []) (fun ls hcond hl => ?_) (fun k29 => ?_)
    · skip
      have hkb : a.2.1 + 1 ≤ ((en - x.1) / 2 + 1) := by
        rcases hcond with h9 | ⟨h9, h8⟩
        · have := eq_of_beq h9; omega
        · have := hj13 h9; have := mxU hw9; have h8 : a.1.1.1 < _ := h8; omega
      have hsl : (3 * a.2.1 + 4 * (alK a.2.2.1 - alK o1) + 4 * (alK a.2.2.2.2.1 - alK o2)) + 3 ≤ (3 * ((en - x.1) / 2 + 1) + 8 * (10 + 2 * LB)) := by have h1 := mxU hj7b; have h2 := mxU hj8b; omega
      have hkz : z4.1.1 + 2 * a.2.1 ≤ a.1.1.1 := by
        rcases hcond with h9 | ⟨h9, h8⟩
        · have := eq_of_beq h9; omega
        · exact hj13 h9
      refine lv_aload_n hx hb d_CertificateReader_readNames_29 rfl (lv_at hl 0 rfl) ?_
      refine lv_sipush (v := 164) hx hb d_CertificateReader_readNames_30 (by decide) ?_
      refine lv_iload_n hx hb d_CertificateReader_readNames_33 rfl (lv_at hl 1 rfl) ?_
      refine vp_callSi (pu_callU (As := [.int 164, .int (nI z4.2)]) (rest := []) ⟨hx, hb, hml, hown, hts⟩ (cC_nextIs l dC dI sb h res t ki a.1.1.1 a.1.1.2.1 n a.1.1.2.2 a.2.2.2.2.2.2.2 ma ex ie cB u 164 z4.2 hu hn ((hj1).w hn) (by omega) (hj1).1 (by decide)) (cu_of (n := 2) hts tbin q4_52 q4_53 q3_207 q4_55 q1_15 q3_211 rfl (by decide +kernel) ⟨rfl, rfl⟩ ⟨Nat.le_of_ble_eq_true rfl, Nat.le_of_ble_eq_true rfl⟩) rfl ⟨by omega, by omega⟩ hN (hT0.keep hS hAs) hK hP [0, 1] rfl [0] rfl 0 4 rfl rfl rfl hl.1 rfl (Nat.le_of_ble_eq_true rfl) d_CertificateReader_readNames_34) (fun r34 hr34 => ?_)
      obtain rfl := bz_zP hr34
      refine lv_if_eq (tgt := 79) hx hb d_CertificateReader_readNames_37 (by decide) (fun c37 => ?_) (fun c37 => ?_)
      · have p37 : ¬ (a.1.1.2.2 = none ∧ a.1.1.1 < z4.2 ∧ u a.1.1.1 = 164) := (zP_0.mp c37)
        refine lv_aload_n hx hb d_CertificateReader_readNames_79 rfl (lv_at hl 0 rfl) ?_
        refine lv_sipush (v := 135) hx hb d_CertificateReader_readNames_80 (by decide) ?_
        refine lv_iload_n hx hb d_CertificateReader_readNames_83 rfl (lv_at hl 1 rfl) ?_
        refine vp_callSi (pu_callU (As := [.int 135, .int (nI z4.2)]) (rest := []) ⟨hx, hb, hml, hown, hts⟩ (cC_nextIs l dC dI sb h res t ki a.1.1.1 a.1.1.2.1 n a.1.1.2.2 a.2.2.2.2.2.2.2 ma ex ie cB u 135 z4.2 hu hn ((hj1).w hn) (by omega) (hj1).1 (by decide)) (cu_of (n := 2) hts tbin q4_52 q4_53 q3_207 q4_55 q1_15 q3_211 rfl (by decide +kernel) ⟨rfl, rfl⟩ ⟨Nat.le_of_ble_eq_true rfl, Nat.le_of_ble_eq_true rfl⟩) rfl ⟨by omega, by omega⟩ hN (hT0.keep hS hAs) hK hP [0, 1] rfl [0] rfl 0 4 rfl rfl rfl hl.1 rfl (Nat.le_of_ble_eq_true rfl) d_CertificateReader_readNames_84) (fun r84 hr84 => ?_)
        obtain rfl := bz_zP hr84
        refine lv_if_eq (tgt := 129) hx hb d_CertificateReader_readNames_87 (by decide) (fun c87 => ?_) (fun c87 => ?_)
        · have p87 : ¬ (a.1.1.2.2 = none ∧ a.1.1.1 < z4.2 ∧ u a.1.1.1 = 135) := (zP_0.mp c87)
          refine lv_aload_n hx hb d_CertificateReader_readNames_129 rfl (lv_at hl 0 rfl) ?_
          refine lv_sipush (v := 129) hx hb d_CertificateReader_readNames_130 (by decide) ?_
          refine lv_iload_n hx hb d_CertificateReader_readNames_133 rfl (lv_at hl 1 rfl) ?_
          refine vp_callSi (pu_callU (As := [.int 129, .int (nI z4.2)]) (rest := []) ⟨hx, hb, hml, hown, hts⟩ (cC_nextIs l dC dI sb h res t ki a.1.1.1 a.1.1.2.1 n a.1.1.2.2 a.2.2.2.2.2.2.2 ma ex ie cB u 129 z4.2 hu hn ((hj1).w hn) (by omega) (hj1).1 (by decide)) (cu_of (n := 2) hts tbin q4_52 q4_53 q3_207 q4_55 q1_15 q3_211 rfl (by decide +kernel) ⟨rfl, rfl⟩ ⟨Nat.le_of_ble_eq_true rfl, Nat.le_of_ble_eq_true rfl⟩) rfl ⟨by omega, by omega⟩ hN (hT0.keep hS hAs) hK hP [0, 1] rfl [0] rfl 0 4 rfl rfl rfl hl.1 rfl (Nat.le_of_ble_eq_true rfl) d_CertificateReader_readNames_134) (fun r134 hr134 => ?_)
          obtain rfl := bz_zP hr134
          refine lv_if_eq (tgt := 159) hx hb d_CertificateReader_readNames_137 (by decide) (fun c137 => ?_) (fun c137 => ?_)
          · have p137 : ¬ (a.1.1.2.2 = none ∧ a.1.1.1 < z4.2 ∧ u a.1.1.1 = 129) := (zP_0.mp c137)
            refine lv_aload_n hx hb d_CertificateReader_readNames_159 rfl (lv_at hl 0 rfl) ?_
            refine lv_sipush (v := 130) hx hb d_CertificateReader_readNames_160 (by decide) ?_
            refine lv_iconst (v := 1) hx hb d_CertificateReader_readNames_163 (by decide) ?_
            refine lv_iload_n hx hb d_CertificateReader_readNames_164 rfl (lv_at hl 1 rfl) ?_
            have hFc := va_free (wc := [(h, .inr (4, [.ref res, .ref t, .int (nI a.1.1.1), .int (nI a.1.1.2.1), .int (wI a.1.1.2.2), .int a.2.2.2.2.2.2.2, .int ma, .int ex, .ref ki])), (t, .inl (cB, n, .inl (tx u)))]) hD hS hA [0, 1] rfl
            refine va_callr (mu_runU (As := [.int 130, .int 1, .int (nI z4.2)]) (rest := []) ⟨hx, hb, hml, hown, hts⟩ (cC_plain l dC dI sb h res t ki n a.1.1 a.2.2.2.2.2.2.2 ma ex ie cB u 130 1 z4.2 HL10.size hu hn hj1 (by omega) (by decide) (by decide)) (cu_of (n := 3) hts tbin q4_81 q4_82 q4_85 q4_84 q1_15 q4_86 rfl (by decide +kernel) ⟨rfl, rfl⟩ ⟨Nat.le_of_ble_eq_true rfl, Nat.le_of_ble_eq_true rfl⟩) rfl ⟨by omega, by omega⟩ hN (hT0.keep hS hAs) hAs (Nat.le_trans hB0 hS.1) hK hP hD [0, 1] (by decide) rfl [0] rfl 0 4 rfl rfl rfl hl.1 rfl (Nat.le_of_ble_eq_true rfl) d_CertificateReader_readNames_165) hS (fun q _ h => hFc q h) hFc (fun u165 q165 tS H165 locs ht hvm hw165 hB hz1 hk1 hS => ?_)
            obtain ⟨x165, rfl⟩ : ∃ z, z = u165 := ⟨_, rfl⟩
            obtain ⟨hP1, hK1, hD1⟩ := hB
            rw [ht] at hP1
            obtain ⟨hP, hD⟩ := va_joinQ (X := [(h, .inr (4, [.ref res, .ref t, .int (nI a.1.1.1), .int (nI a.1.1.2.1), .int (wI a.1.1.2.2), .int a.2.2.2.2.2.2.2, .int ma, .int ex, .ref ki])), (t, .inl (cB, n, .inl (tx u))), (res, .inr (3, [.ref ns, .ref k1, .ref k2, .ref k3, .ref k4, .ref k5, .ref k6, .ref k7, .int k8, .int k9, .int k10, .int k11, .int k12, .int k13, .int k14, .int k15, .int k16, .int k17, .int k18, .ref k19, .ref k20, .ref k21, .ref k22, .ref k23, .ref k24, .long k25, .long k26, .int k27])), (ns, .inr (1, [.ref ad, .ref ar])), (ad, .inr (11, [.ref (alO sb a.2.2.1), .int (nI a.1.2.1.length), .int a.2.2.2.1])), (ar, .inr (11, [.ref (alO sb a.2.2.2.2.1), .int (nI a.1.2.2.length), .int a.2.2.2.2.2.1]))]) (pl := (alC cO a.2.2.1 ++ (alC cO a.2.2.2.2.1 ++ (a.2.2.2.2.2.2.1 ++ [])))) (wr := [(res, .inr (3, [.ref ns, .ref k1, .ref k2, .ref k3, .ref k4, .ref k5, .ref k6, .ref k7, .int k8, .int k9, .int k10, .int k11, .int k12, .int k13, .int k14, .int k15, .int k16, .int k17, .int k18, .ref k19, .ref k20, .ref k21, .ref k22, .ref k23, .ref k24, .long k25, .long k26, .int k27])), (ns, .inr (1, [.ref ad, .ref ar])), (ad, .inr (11, [.ref (alO sb a.2.2.1), .int (nI a.1.2.1.length), .int a.2.2.2.1])), (ar, .inr (11, [.ref (alO sb a.2.2.2.2.1), .int (nI a.1.2.2.length), .int a.2.2.2.2.2.1]))]) (w1 := [(h, .inr (4, [.ref res, .ref t, .int (nI x165.1), .int (nI x165.2.1), .int (wI x165.2.2), .int a.2.2.2.2.2.2.2, .int ma, .int ex, .ref ki])), (t, .inl (cB, n, .inl (tx u))), (q165, .inr (0, [.ref t, .int (nI ((rd_plain u n a.1.1 130 1 z4.2).2.1)), .int (nI ((rd_plain u n a.1.1 130 1 z4.2).2.2))]))]) hP hD [0, 1] [2, 3, 4, 5] rfl rfl (by decide) (by decide) hk1 hFc hP1 hD1
            have hP : va_P (dC, dI) classes (([(res, .inr (3, [.ref ns, .ref k1, .ref k2, .ref k3, .ref k4, .ref k5, .ref k6, .ref k7, .int k8, .int k9, .int k10, .int k11, .int k12, .int k13, .int k14, .int k15, .int k16, .int k17, .int k18, .ref k19, .ref k20, .ref k21, .ref k22, .ref k23, .ref k24, .long k25, .long k26, .int k27])), (ns, .inr (1, [.ref ad, .ref ar])), (ad, .inr (11, [.ref (alO sb a.2.2.1), .int (nI a.1.2.1.length), .int a.2.2.2.1])), (ar, .inr (11, [.ref (alO sb a.2.2.2.2.1), .int (nI a.1.2.2.length), .int a.2.2.2.2.2.1])), (h, .inr (4, [.ref res, .ref t, .int (nI x165.1), .int (nI x165.2.1), .int (wI x165.2.2), .int a.2.2.2.2.2.2.2, .int ma, .int ex, .ref ki])), (t, .inl (cB, n, .inl (tx u))), (q165, .inr (0, [.ref t, .int (nI ((rd_plain u n a.1.1 130 1 z4.2).2.1)), .int (nI ((rd_plain u n a.1.1 130 1 z4.2).2.2))]))] : va_W) ++ (alC cO a.2.2.1 ++ (alC cO a.2.2.2.2.1 ++ (a.2.2.2.2.2.2.1 ++ [])))) H165 := hP
            have hD : va_D A (([(res, .inr (3, [.ref ns, .ref k1, .ref k2, .ref k3, .ref k4, .ref k5, .ref k6, .ref k7, .int k8, .int k9, .int k10, .int k11, .int k12, .int k13, .int k14, .int k15, .int k16, .int k17, .int k18, .ref k19, .ref k20, .ref k21, .ref k22, .ref k23, .ref k24, .long k25, .long k26, .int k27])), (ns, .inr (1, [.ref ad, .ref ar])), (ad, .inr (11, [.ref (alO sb a.2.2.1), .int (nI a.1.2.1.length), .int a.2.2.2.1])), (ar, .inr (11, [.ref (alO sb a.2.2.2.2.1), .int (nI a.1.2.2.length), .int a.2.2.2.2.2.1])), (h, .inr (4, [.ref res, .ref t, .int (nI x165.1), .int (nI x165.2.1), .int (wI x165.2.2), .int a.2.2.2.2.2.2.2, .int ma, .int ex, .ref ki])), (t, .inl (cB, n, .inl (tx u))), (q165, .inr (0, [.ref t, .int (nI ((rd_plain u n a.1.1 130 1 z4.2).2.1)), .int (nI ((rd_plain u n a.1.1 130 1 z4.2).2.2))]))] : va_W) ++ (alC cO a.2.2.1 ++ (alC cO a.2.2.2.2.1 ++ (a.2.2.2.2.2.2.1 ++ [])))) := hD
            have hi165 := plain_inv (u := u) (tg := 130) (le := 1) hj1 (show z4.2 ≤ n by omega)
            obtain ⟨z165, hz165⟩ : ∃ o, o = rd_plain u n a.1.1 130 1 z4.2 := ⟨_, rfl⟩
            rw [← hz165] at hw165 hi165 hP hD
            subst hw165
            have hb165 : z165.1.1 ≤ n := hi165.1.1
            have hc165 := hi165.2.1
            have hd165 := hi165.2.2
            have hP : va_P (dC, dI) classes (([(res, .inr (3, [.ref ns, .ref k1, .ref k2, .ref k3, .ref k4, .ref k5, .ref k6, .ref k7, .int k8, .int k9, .int k10, .int k11, .int k12, .int k13, .int k14, .int k15, .int k16, .int k17, .int k18, .ref k19, .ref k20, .ref k21, .ref k22, .ref k23, .ref k24, .long k25, .long k26, .int k27])), (ns, .inr (1, [.ref ad, .ref ar])), (ad, .inr (11, [.ref (alO sb a.2.2.1), .int (nI a.1.2.1.length), .int a.2.2.2.1])), (ar, .inr (11, [.ref (alO sb a.2.2.2.2.1), .int (nI a.1.2.2.length), .int a.2.2.2.2.2.1])), (h, .inr (4, [.ref res, .ref t, .int (nI z165.1.1), .int (nI z165.1.2.1), .int (wI z165.1.2.2), .int a.2.2.2.2.2.2.2, .int ma, .int ex, .ref ki])), (t, .inl (cB, n, .inl (tx u))), (q165, .inr (0, [.ref t, .int (nI z165.2.1), .int (nI z165.2.2)]))] : va_W) ++ (alC cO a.2.2.1 ++ (alC cO a.2.2.2.2.1 ++ (a.2.2.2.2.2.2.1 ++ [])))) H165 := hP
            have hD : va_D A (([(res, .inr (3, [.ref ns, .ref k1, .ref k2, .ref k3, .ref k4, .ref k5, .ref k6, .ref k7, .int k8, .int k9, .int k10, .int k11, .int k12, .int k13, .int k14, .int k15, .int k16, .int k17, .int k18, .ref k19, .ref k20, .ref k21, .ref k22, .ref k23, .ref k24, .long k25, .long k26, .int k27])), (ns, .inr (1, [.ref ad, .ref ar])), (ad, .inr (11, [.ref (alO sb a.2.2.1), .int (nI a.1.2.1.length), .int a.2.2.2.1])), (ar, .inr (11, [.ref (alO sb a.2.2.2.2.1), .int (nI a.1.2.2.length), .int a.2.2.2.2.2.1])), (h, .inr (4, [.ref res, .ref t, .int (nI z165.1.1), .int (nI z165.1.2.1), .int (wI z165.1.2.2), .int a.2.2.2.2.2.2.2, .int ma, .int ex, .ref ki])), (t, .inl (cB, n, .inl (tx u))), (q165, .inr (0, [.ref t, .int (nI z165.2.1), .int (nI z165.2.2)]))] : va_W) ++ (alC cO a.2.2.1 ++ (alC cO a.2.2.2.2.1 ++ (a.2.2.2.2.2.2.1 ++ [])))) := hD
            refine lv_astore (lv' := [(4, .ref q165), (0, .ref h), (2, .int (nI z4.2)), (3, .int (nI a.2.1))]) hx hb d_CertificateReader_readNames_168 hl (by decide) rfl (fun ls hl => ?_)
            refine lv_aload_n hx hb d_CertificateReader_readNames_170 rfl (lv_at hl 1 rfl) ?_
            refine lv_aload hx hb d_CertificateReader_readNames_171 (lv_at hl 0 rfl) ?_
            refine vp_callSi (pu_callS (As := [.ref q165]) (rest := [.ref h]) ⟨hx, hb, hml, hown, hts⟩ tbin (c_isVisible l dC dI sb q165 t z165.2.1 z165.2.2 n cB u hu (by omega) (by omega) hn) q4_164 q4_165 q1_16 q4_166 (n := 1) (by decide +kernel) rfl ⟨rfl, rfl⟩ ⟨Nat.le_of_ble_eq_true rfl, Nat.le_of_ble_eq_true rfl⟩ ⟨by omega, by omega⟩ hN (hT0.keep hS hAs) hK hP [6, 5] rfl [0] rfl hl.1 rfl (Nat.le_of_ble_eq_true rfl) d_CertificateReader_readNames_173) (fun r173 hr173 => ?_)
            obtain rfl := bz_zP hr173
            have hFc := va_free (wc := [(h, .inr (4, [.ref res, .ref t, .int (nI z165.1.1), .int (nI z165.1.2.1), .int (wI z165.1.2.2), .int a.2.2.2.2.2.2.2, .int ma, .int ex, .ref ki]))]) hD hS hA [4] rfl
            refine va_callv (mu_runU (As := [.int (zP (visN u z165.2.1 z165.2.2))]) (rest := []) ⟨hx, hb, hml, hown, hts⟩ (cC_require l dC dI sb h res t ki z165.1.1 z165.1.2.1 n z165.1.2.2 a.2.2.2.2.2.2.2 ma ex ie cB u (zP (visN u z165.2.1 z165.2.2)) H165.size ((hi165.1).w hn)) (cu_of (n := 1) hts tbin q3_153 q3_154 q3_157 q3_156 q1_15 q3_158 rfl (by decide +kernel) ⟨rfl, rfl⟩ ⟨Nat.le_of_ble_eq_true rfl, Nat.le_of_ble_eq_true rfl⟩) rfl ⟨by omega, by omega⟩ hN (hT0.keep hS hAs) hAs (Nat.le_trans hB0 hS.1) hK hP hD [4] (by decide) rfl [] rfl 4 4 rfl rfl rfl hl.1 rfl (Nat.le_of_ble_eq_true rfl) d_CertificateReader_readNames_176) hS (fun q _ h => hFc q h) hFc (fun u176 tS H176 locs ht hvm hw176 hB hz1 hk1 hS => ?_)
            obtain ⟨z176, rfl⟩ : ∃ z, z = u176 := ⟨_, rfl⟩
            obtain ⟨hP1, hK1, hD1⟩ := hB
            rw [ht] at hP1
            obtain ⟨hP, hD⟩ := va_joinQ (X := [(res, .inr (3, [.ref ns, .ref k1, .ref k2, .ref k3, .ref k4, .ref k5, .ref k6, .ref k7, .int k8, .int k9, .int k10, .int k11, .int k12, .int k13, .int k14, .int k15, .int k16, .int k17, .int k18, .ref k19, .ref k20, .ref k21, .ref k22, .ref k23, .ref k24, .long k25, .long k26, .int k27])), (ns, .inr (1, [.ref ad, .ref ar])), (ad, .inr (11, [.ref (alO sb a.2.2.1), .int (nI a.1.2.1.length), .int a.2.2.2.1])), (ar, .inr (11, [.ref (alO sb a.2.2.2.2.1), .int (nI a.1.2.2.length), .int a.2.2.2.2.2.1])), (h, .inr (4, [.ref res, .ref t, .int (nI z165.1.1), .int (nI z165.1.2.1), .int (wI z165.1.2.2), .int a.2.2.2.2.2.2.2, .int ma, .int ex, .ref ki])), (t, .inl (cB, n, .inl (tx u))), (q165, .inr (0, [.ref t, .int (nI z165.2.1), .int (nI z165.2.2)]))]) (pl := (alC cO a.2.2.1 ++ (alC cO a.2.2.2.2.1 ++ (a.2.2.2.2.2.2.1 ++ [])))) (wr := [(res, .inr (3, [.ref ns, .ref k1, .ref k2, .ref k3, .ref k4, .ref k5, .ref k6, .ref k7, .int k8, .int k9, .int k10, .int k11, .int k12, .int k13, .int k14, .int k15, .int k16, .int k17, .int k18, .ref k19, .ref k20, .ref k21, .ref k22, .ref k23, .ref k24, .long k25, .long k26, .int k27])), (ns, .inr (1, [.ref ad, .ref ar])), (ad, .inr (11, [.ref (alO sb a.2.2.1), .int (nI a.1.2.1.length), .int a.2.2.2.1])), (ar, .inr (11, [.ref (alO sb a.2.2.2.2.1), .int (nI a.1.2.2.length), .int a.2.2.2.2.2.1])), (t, .inl (cB, n, .inl (tx u))), (q165, .inr (0, [.ref t, .int (nI z165.2.1), .int (nI z165.2.2)]))]) (w1 := [(h, .inr (4, [.ref res, .ref t, .int (nI z176.1), .int (nI z176.2.1), .int (wI z176.2.2), .int a.2.2.2.2.2.2.2, .int ma, .int ex, .ref ki]))]) hP hD [4] [0, 1, 2, 3, 5, 6] rfl rfl (by decide) (by decide) hk1 hFc hP1 hD1
            have hP : va_P (dC, dI) classes (([(res, .inr (3, [.ref ns, .ref k1, .ref k2, .ref k3, .ref k4, .ref k5, .ref k6, .ref k7, .int k8, .int k9, .int k10, .int k11, .int k12, .int k13, .int k14, .int k15, .int k16, .int k17, .int k18, .ref k19, .ref k20, .ref k21, .ref k22, .ref k23, .ref k24, .long k25, .long k26, .int k27])), (ns, .inr (1, [.ref ad, .ref ar])), (ad, .inr (11, [.ref (alO sb a.2.2.1), .int (nI a.1.2.1.length), .int a.2.2.2.1])), (ar, .inr (11, [.ref (alO sb a.2.2.2.2.1), .int (nI a.1.2.2.length), .int a.2.2.2.2.2.1])), (t, .inl (cB, n, .inl (tx u))), (q165, .inr (0, [.ref t, .int (nI z165.2.1), .int (nI z165.2.2)])), (h, .inr (4, [.ref res, .ref t, .int (nI z176.1), .int (nI z176.2.1), .int (wI z176.2.2), .int a.2.2.2.2.2.2.2, .int ma, .int ex, .ref ki]))] : va_W) ++ (alC cO a.2.2.1 ++ (alC cO a.2.2.2.2.1 ++ (a.2.2.2.2.2.2.1 ++ [])))) H176 := hP
            have hD : va_D A (([(res, .inr (3, [.ref ns, .ref k1, .ref k2, .ref k3, .ref k4, .ref k5, .ref k6, .ref k7, .int k8, .int k9, .int k10, .int k11, .int k12, .int k13, .int k14, .int k15, .int k16, .int k17, .int k18, .ref k19, .ref k20, .ref k21, .ref k22, .ref k23, .ref k24, .long k25, .long k26, .int k27])), (ns, .inr (1, [.ref ad, .ref ar])), (ad, .inr (11, [.ref (alO sb a.2.2.1), .int (nI a.1.2.1.length), .int a.2.2.2.1])), (ar, .inr (11, [.ref (alO sb a.2.2.2.2.1), .int (nI a.1.2.2.length), .int a.2.2.2.2.2.1])), (t, .inl (cB, n, .inl (tx u))), (q165, .inr (0, [.ref t, .int (nI z165.2.1), .int (nI z165.2.2)])), (h, .inr (4, [.ref res, .ref t, .int (nI z176.1), .int (nI z176.2.1), .int (wI z176.2.2), .int a.2.2.2.2.2.2.2, .int ma, .int ex, .ref ki]))] : va_W) ++ (alC cO a.2.2.1 ++ (alC cO a.2.2.2.2.1 ++ (a.2.2.2.2.2.2.1 ++ [])))) := hD
            have hz176 : z176 = rd_req z165.1 (zP (visN u z165.2.1 z165.2.2)) := hw176
            have hi176 : rdInv n z176 := by rw [hz176]; exact req_inv hi165.1
            have hb176 : z176.1 ≤ n := hi176.1
            refine lv_aload_n hx hb d_CertificateReader_readNames_179 rfl (lv_at hl 1 rfl) ?_
            refine va_get (v := .ref res) hx hb htb i_CertificateReader hown hK hP 6 rfl rfl 0 (by decide) (htb _ q3_55) (fun _ h9 => h9) rfl d_CertificateReader_readNames_180 ?_
            refine va_get (v := .ref ns) hx hb htb i_Certificate hown hK hP 0 rfl rfl 0 (by decide) (htb _ q2_141) (fun _ h9 => h9) rfl d_CertificateReader_readNames_183 ?_
            refine va_getN (v := .ref ad) hx hb htb i_NameSet hown hK hP 1 rfl rfl 0 (by decide) (va_Nw.use rfl (hN.1 _ qn2_129)) (fun _ h9 => h9) rfl d_CertificateReader_readNames_186 ?_
            refine lv_aload hx hb d_CertificateReader_readNames_189 (lv_at hl 0 rfl) ?_
            have hPm : List.Perm ((([(res, .inr (3, [.ref ns, .ref k1, .ref k2, .ref k3, .ref k4, .ref k5, .ref k6, .ref k7, .int k8, .int k9, .int k10, .int k11, .int k12, .int k13, .int k14, .int k15, .int k16, .int k17, .int k18, .ref k19, .ref k20, .ref k21, .ref k22, .ref k23, .ref k24, .long k25, .long k26, .int k27])), (ns, .inr (1, [.ref ad, .ref ar])), (ad, .inr (11, [.ref (alO sb a.2.2.1), .int (nI a.1.2.1.length), .int a.2.2.2.1])), (ar, .inr (11, [.ref (alO sb a.2.2.2.2.1), .int (nI a.1.2.2.length), .int a.2.2.2.2.2.1])), (t, .inl (cB, n, .inl (tx u))), (q165, .inr (0, [.ref t, .int (nI z165.2.1), .int (nI z165.2.2)])), (h, .inr (4, [.ref res, .ref t, .int (nI z176.1), .int (nI z176.2.1), .int (wI z176.2.2), .int a.2.2.2.2.2.2.2, .int ma, .int ex, .ref ki]))] : va_W) ++ (alC cO a.2.2.1 ++ (alC cO a.2.2.2.2.1 ++ (a.2.2.2.2.2.2.1 ++ [])))) : va_W) ((ad, .inr (11, [.ref (alO sb a.2.2.1), .int (nI a.1.2.1.length), .int a.2.2.2.1])) :: (alC cO a.2.2.1 ++ (([(res, .inr (3, [.ref ns, .ref k1, .ref k2, .ref k3, .ref k4, .ref k5, .ref k6, .ref k7, .int k8, .int k9, .int k10, .int k11, .int k12, .int k13, .int k14, .int k15, .int k16, .int k17, .int k18, .ref k19, .ref k20, .ref k21, .ref k22, .ref k23, .ref k24, .long k25, .long k26, .int k27])), (ns, .inr (1, [.ref ad, .ref ar])), (ar, .inr (11, [.ref (alO sb a.2.2.2.2.1), .int (nI a.1.2.2.length), .int a.2.2.2.2.2.1])), (t, .inl (cB, n, .inl (tx u))), (q165, .inr (0, [.ref t, .int (nI z165.2.1), .int (nI z165.2.2)])), (h, .inr (4, [.ref res, .ref t, .int (nI z176.1), .int (nI z176.2.1), .int (wI z176.2.2), .int a.2.2.2.2.2.2.2, .int ma, .int ex, .ref ki]))] : va_W) ++ (alC cO a.2.2.2.2.1 ++ (a.2.2.2.2.2.2.1 ++ []))))) := blk_perm (fun i => ([[(res, .inr (3, [.ref ns, .ref k1, .ref k2, .ref k3, .ref k4, .ref k5, .ref k6, .ref k7, .int k8, .int k9, .int k10, .int k11, .int k12, .int k13, .int k14, .int k15, .int k16, .int k17, .int k18, .ref k19, .ref k20, .ref k21, .ref k22, .ref k23, .ref k24, .long k25, .long k26, .int k27]))], [(ns, .inr (1, [.ref ad, .ref ar]))], [(ad, .inr (11, [.ref (alO sb a.2.2.1), .int (nI a.1.2.1.length), .int a.2.2.2.1]))], [(ar, .inr (11, [.ref (alO sb a.2.2.2.2.1), .int (nI a.1.2.2.length), .int a.2.2.2.2.2.1]))], [(t, .inl (cB, n, .inl (tx u)))], [(q165, .inr (0, [.ref t, .int (nI z165.2.1), .int (nI z165.2.2)]))], [(h, .inr (4, [.ref res, .ref t, .int (nI z176.1), .int (nI z176.2.1), .int (wI z176.2.2), .int a.2.2.2.2.2.2.2, .int ma, .int ex, .ref ki]))], alC cO a.2.2.1, alC cO a.2.2.2.2.1, a.2.2.2.2.2.2.1] : List va_W).getD i []) [0, 1, 2, 3, 4, 5, 6, 7, 8, 9] [2, 7, 0, 1, 3, 4, 5, 6, 8, 9] rfl
            have hP := hP.perm hPm
            have hD := hD.perm hPm
            have hal191 : mxB (4 * alK a.2.2.1 + alS a.2.2.1 a.1.2.1.length) (4 * alK a.2.2.1) (4 * (10 + 2 * a.1.2.1.length)) := al_costM hj4.1
            have haz191 := (al_cost hj4.1).2
            refine al_add (own := "TrustChain$CertificateReader") 0 _ q165 ad a.1.2.1.length a.2.2.2.1 cO a.2.2.1 rfl qn9_238 ⟨hx, hb, hml, hown, hts⟩ tbin q4_107 hN (hT0.keep hS hAs) hAs (Nat.le_trans hB0 hS.1) hA hK 1 rfl hP hD hS hj4.1 (by omega) (hj4.toF (fun q9 hq9 => List.mem_append_right _ (List.mem_append_right _ (List.mem_append_left _ hq9)))) ⟨4, _, rfl⟩ (Nat.le_of_ble_eq_true rfl) (Nat.le_of_ble_eq_true rfl) (by omega) (by have := mxU hal191; have h1 := mxU hj7b; have h2 := mxU hj8b; omega) hl.1 (Nat.le_of_ble_eq_true rfl) d_CertificateReader_readNames_191 (fun o191 m191 H191 locs hi191 hg191 hk191 he191 hf191 hv191 hP hD hS => ?_)
            have hk191 : mxB (alK o191) (alK a.2.2.1) (10 + 2 * a.1.2.1.length) := hk191
            have hsa191 : (3 * a.2.1 + 4 * (alK a.2.2.1 - alK o1) + 4 * (alK a.2.2.2.2.1 - alK o2)) + 3 + alS a.2.2.1 a.1.2.1.length ≤ (3 * ((en - x.1) / 2 + 1) + 8 * (10 + 2 * LB)) := by have := mxU hal191; have h1 := mxU hj7b; have h2 := mxU hj8b; omega
            clear hal191
            have hln191 : a.1.2.1.length + 1 = (a.1.2.1 ++ [(z165.2.1, z165.2.2)]).length := by rw [List.length_append]; rfl
            rw [hln191] at hP hD
            have hPm : List.Perm ((ad, .inr (11, [.ref (alO sb o191), .int (nI (a.1.2.1 ++ [(z165.2.1, z165.2.2)]).length), .int m191])) :: (alC cO o191 ++ (([(res, .inr (3, [.ref ns, .ref k1, .ref k2, .ref k3, .ref k4, .ref k5, .ref k6, .ref k7, .int k8, .int k9, .int k10, .int k11, .int k12, .int k13, .int k14, .int k15, .int k16, .int k17, .int k18, .ref k19, .ref k20, .ref k21, .ref k22, .ref k23, .ref k24, .long k25, .long k26, .int k27])), (ns, .inr (1, [.ref ad, .ref ar])), (ar, .inr (11, [.ref (alO sb a.2.2.2.2.1), .int (nI a.1.2.2.length), .int a.2.2.2.2.2.1])), (t, .inl (cB, n, .inl (tx u))), (q165, .inr (0, [.ref t, .int (nI z165.2.1), .int (nI z165.2.2)])), (h, .inr (4, [.ref res, .ref t, .int (nI z176.1), .int (nI z176.2.1), .int (wI z176.2.2), .int a.2.2.2.2.2.2.2, .int ma, .int ex, .ref ki]))] : va_W) ++ (alC cO a.2.2.2.2.1 ++ (a.2.2.2.2.2.2.1 ++ [])))) : va_W) (([(res, .inr (3, [.ref ns, .ref k1, .ref k2, .ref k3, .ref k4, .ref k5, .ref k6, .ref k7, .int k8, .int k9, .int k10, .int k11, .int k12, .int k13, .int k14, .int k15, .int k16, .int k17, .int k18, .ref k19, .ref k20, .ref k21, .ref k22, .ref k23, .ref k24, .long k25, .long k26, .int k27])), (ns, .inr (1, [.ref ad, .ref ar])), (ad, .inr (11, [.ref (alO sb o191), .int (nI (a.1.2.1 ++ [(z165.2.1, z165.2.2)]).length), .int m191])), (ar, .inr (11, [.ref (alO sb a.2.2.2.2.1), .int (nI a.1.2.2.length), .int a.2.2.2.2.2.1])), (t, .inl (cB, n, .inl (tx u))), (h, .inr (4, [.ref res, .ref t, .int (nI z176.1), .int (nI z176.2.1), .int (wI z176.2.2), .int a.2.2.2.2.2.2.2, .int ma, .int ex, .ref ki]))] : va_W) ++ (alC cO o191 ++ (alC cO a.2.2.2.2.1 ++ (a.2.2.2.2.2.2.1 ++ (([(q165, .inr (0, [.ref t, .int (nI z165.2.1), .int (nI z165.2.2)]))] : va_W) ++ []))))) := blk_perm (fun i => ([[(ad, .inr (11, [.ref (alO sb o191), .int (nI (a.1.2.1 ++ [(z165.2.1, z165.2.2)]).length), .int m191]))], alC cO o191, [(res, .inr (3, [.ref ns, .ref k1, .ref k2, .ref k3, .ref k4, .ref k5, .ref k6, .ref k7, .int k8, .int k9, .int k10, .int k11, .int k12, .int k13, .int k14, .int k15, .int k16, .int k17, .int k18, .ref k19, .ref k20, .ref k21, .ref k22, .ref k23, .ref k24, .long k25, .long k26, .int k27]))], [(ns, .inr (1, [.ref ad, .ref ar]))], [(ar, .inr (11, [.ref (alO sb a.2.2.2.2.1), .int (nI a.1.2.2.length), .int a.2.2.2.2.2.1]))], [(t, .inl (cB, n, .inl (tx u)))], [(q165, .inr (0, [.ref t, .int (nI z165.2.1), .int (nI z165.2.2)]))], [(h, .inr (4, [.ref res, .ref t, .int (nI z176.1), .int (nI z176.2.1), .int (wI z176.2.2), .int a.2.2.2.2.2.2.2, .int ma, .int ex, .ref ki]))], alC cO a.2.2.2.2.1, a.2.2.2.2.2.2.1] : List va_W).getD i []) [0, 1, 2, 3, 4, 5, 6, 7, 8, 9] [2, 3, 0, 4, 5, 7, 1, 8, 9, 6] rfl
            have hP := hP.perm hPm
            have hD := hD.perm hPm
            obtain ⟨pl191, hpl191⟩ : ∃ z : va_W, z = a.2.2.2.2.2.2.1 ++ [(q165, .inr (0, [.ref t, .int (nI z165.2.1), .int (nI z165.2.2)]))] := ⟨_, rfl⟩
            have hPe : (([(res, .inr (3, [.ref ns, .ref k1, .ref k2, .ref k3, .ref k4, .ref k5, .ref k6, .ref k7, .int k8, .int k9, .int k10, .int k11, .int k12, .int k13, .int k14, .int k15, .int k16, .int k17, .int k18, .ref k19, .ref k20, .ref k21, .ref k22, .ref k23, .ref k24, .long k25, .long k26, .int k27])), (ns, .inr (1, [.ref ad, .ref ar])), (ad, .inr (11, [.ref (alO sb o191), .int (nI (a.1.2.1 ++ [(z165.2.1, z165.2.2)]).length), .int m191])), (ar, .inr (11, [.ref (alO sb a.2.2.2.2.1), .int (nI a.1.2.2.length), .int a.2.2.2.2.2.1])), (t, .inl (cB, n, .inl (tx u))), (h, .inr (4, [.ref res, .ref t, .int (nI z176.1), .int (nI z176.2.1), .int (wI z176.2.2), .int a.2.2.2.2.2.2.2, .int ma, .int ex, .ref ki]))] : va_W) ++ (alC cO o191 ++ (alC cO a.2.2.2.2.1 ++ (a.2.2.2.2.2.2.1 ++ (([(q165, .inr (0, [.ref t, .int (nI z165.2.1), .int (nI z165.2.2)]))] : va_W) ++ []))))) = (([(res, .inr (3, [.ref ns, .ref k1, .ref k2, .ref k3, .ref k4, .ref k5, .ref k6, .ref k7, .int k8, .int k9, .int k10, .int k11, .int k12, .int k13, .int k14, .int k15, .int k16, .int k17, .int k18, .ref k19, .ref k20, .ref k21, .ref k22, .ref k23, .ref k24, .long k25, .long k26, .int k27])), (ns, .inr (1, [.ref ad, .ref ar])), (ad, .inr (11, [.ref (alO sb o191), .int (nI (a.1.2.1 ++ [(z165.2.1, z165.2.2)]).length), .int m191])), (ar, .inr (11, [.ref (alO sb a.2.2.2.2.1), .int (nI a.1.2.2.length), .int a.2.2.2.2.2.1])), (t, .inl (cB, n, .inl (tx u))), (h, .inr (4, [.ref res, .ref t, .int (nI z176.1), .int (nI z176.2.1), .int (wI z176.2.2), .int a.2.2.2.2.2.2.2, .int ma, .int ex, .ref ki]))] : va_W) ++ (alC cO o191 ++ (alC cO a.2.2.2.2.1 ++ (pl191 ++ [])))) := by rw [hpl191]; simp only [List.append_assoc]
            rw [hPe] at hP hD
            have hm191 : ∀ q ∈ a.2.2.2.2.2.2.1, q ∈ pl191 := fun q hq => by rw [hpl191]; exact List.mem_append_left _ hq
            have E191 : elS t n pl191 o191 (a.1.2.1 ++ [(z165.2.1, z165.2.2)]) := hj4.snoc hm191 hi191 hf191 hv191 (by rw [hpl191]; exact List.mem_append_right _ (List.mem_singleton.mpr rfl)) (by omega) (by omega)
            have E191_ar := hj5.mono hm191
            have hpm := fun q hq => hm191 q (hj6 q hq)
            refine lv_pop hx hb d_CertificateReader_readNames_194 rfl ?_
            refine lv_iinc (v := nI (a.2.1 + 1)) (lv' := [(3, .int (nI (a.2.1 + 1))), (4, .ref q165), (0, .ref h), (2, .int (nI z4.2))]) hx hb d_CertificateReader_readNames_195 hl (k := 3) rfl (nI_1 _) (by decide) rfl (fun ls hl => ?_)
            refine lv_goto (tgt := 10) hx hb d_CertificateReader_readNames_198 (by decide) ?_
            have e9 : rb_nms u n z4.2 a.1 = (z176, (a.1.2.1 ++ [(z165.2.1, z165.2.2)]), a.1.2.2) := by
              subst hz176
              subst hz165
              exact ((if_neg p37).trans ((if_neg p87).trans ((if_neg p137).trans rfl)))
            have hpr := nmb_st2 u n z4.2 a.1
            rw [e9] at hpr
            have hpr : st2 a.1.1 z176 z4.2 := hpr
            obtain ⟨⟨hq1, hq2, hq3⟩, hq4⟩ := hpr
            have hlp := loop_go hj3 hk2 hcond
            rw [e9] at hlp
            refine W.widen (k := (2 * (a.2.1 + 1))) (n := (3 * (a.2.1 + 1) + 4 * (alK o191 - alK o1) + 4 * (alK a.2.2.2.2.1 - alK o2))) (by omega) (by omega) ?_
            exact ih ((z176, (a.1.2.1 ++ [(z165.2.1, z165.2.2)]), a.1.2.2), a.2.1 + 1, o191, m191, a.2.2.2.2.1, a.2.2.2.2.2.1, pl191, a.2.2.2.2.2.2.2) _ _ ls (by show 2048 - (a.2.1 + 1) < 2048 - a.2.1; omega) (⟨hi176, hk2, hlp, E191, E191_ar, hpm, ⟨by show alK o1 ≤ alK o191; omega, by have h1 := mxU hj7b; have h2 := mxU hj8b; have := mxU hk191; show alK o191 ≤ max (alK o1) (10 + 2 * (a.1.2.1 ++ [(z165.2.1, z165.2.2)]).length); omega⟩, ⟨by show alK o2 ≤ alK a.2.2.2.2.1; omega, by have h1 := mxU hj7b; have h2 := mxU hj8b; have := mxU hk191; show alK a.2.2.2.2.1 ≤ max (alK o2) (10 + 2 * a.1.2.2.length); omega⟩, ⟨by show (a.1.2.1 ++ [(z165.2.1, z165.2.2)]).length ≤ D.length + (a.2.1 + 1); omega, by show a.1.2.2.length ≤ R.length + (a.2.1 + 1); omega⟩, ⟨by show z176.1 ≤ z4.2; omega, by show z4.1.1 ≤ z176.1; omega, by show z4.1.1 + 2 * (a.2.1 + 1) ≤ z176.1 + 2; omega, fun q9 => by have := hq4 q9; have := hj13 (hq3 q9); show z4.1.1 + 2 * (a.2.1 + 1) ≤ z176.1; omega⟩⟩) (hP.part [5, 4, 0, 1, 2, 3] rfl) (hD.part [5, 4, 0, 1, 2, 3] (by decide) rfl) hS (lv_sub hl [2, 3, 0] rfl)
          · have p137 : a.1.1.2.2 = none ∧ a.1.1.1 < z4.2 ∧ u a.1.1.1 = 129 := (zP_1 c137)
            refine lv_aload_n hx hb d_CertificateReader_readNames_140 rfl (lv_at hl 0 rfl) ?_
            refine lv_aload_n hx hb d_CertificateReader_readNames_141 rfl (lv_at hl 0 rfl) ?_
            refine lv_sipush (v := 129) hx hb d_CertificateReader_readNames_142 (by decide) ?_
            refine lv_iconst (v := 1) hx hb d_CertificateReader_readNames_145 (by decide) ?_
            refine lv_iload_n hx hb d_CertificateReader_readNames_146 rfl (lv_at hl 1 rfl) ?_
            have hFc := va_free (wc := [(h, .inr (4, [.ref res, .ref t, .int (nI a.1.1.1), .int (nI a.1.1.2.1), .int (wI a.1.1.2.2), .int a.2.2.2.2.2.2.2, .int ma, .int ex, .ref ki])), (t, .inl (cB, n, .inl (tx u)))]) hD hS hA [0, 1] rfl
            refine va_callr (mu_runU (As := [.int 129, .int 1, .int (nI z4.2)]) (rest := [.ref h]) ⟨hx, hb, hml, hown, hts⟩ (cC_plain l dC dI sb h res t ki n a.1.1 a.2.2.2.2.2.2.2 ma ex ie cB u 129 1 z4.2 HL10.size hu hn hj1 (by omega) (by decide) (by decide)) (cu_of (n := 3) hts tbin q4_81 q4_82 q4_85 q4_84 q1_15 q4_86 rfl (by decide +kernel) ⟨rfl, rfl⟩ ⟨Nat.le_of_ble_eq_true rfl, Nat.le_of_ble_eq_true rfl⟩) rfl ⟨by omega, by omega⟩ hN (hT0.keep hS hAs) hAs (Nat.le_trans hB0 hS.1) hK hP hD [0, 1] (by decide) rfl [0] rfl 0 4 rfl rfl rfl hl.1 rfl (Nat.le_of_ble_eq_true rfl) d_CertificateReader_readNames_147) hS (fun q _ h => hFc q h) hFc (fun u147 q147 tS H147 locs ht hvm hw147 hB hz1 hk1 hS => ?_)
            obtain ⟨x147, rfl⟩ : ∃ z, z = u147 := ⟨_, rfl⟩
            obtain ⟨hP1, hK1, hD1⟩ := hB
            rw [ht] at hP1
            obtain ⟨hP, hD⟩ := va_joinQ (X := [(h, .inr (4, [.ref res, .ref t, .int (nI a.1.1.1), .int (nI a.1.1.2.1), .int (wI a.1.1.2.2), .int a.2.2.2.2.2.2.2, .int ma, .int ex, .ref ki])), (t, .inl (cB, n, .inl (tx u))), (res, .inr (3, [.ref ns, .ref k1, .ref k2, .ref k3, .ref k4, .ref k5, .ref k6, .ref k7, .int k8, .int k9, .int k10, .int k11, .int k12, .int k13, .int k14, .int k15, .int k16, .int k17, .int k18, .ref k19, .ref k20, .ref k21, .ref k22, .ref k23, .ref k24, .long k25, .long k26, .int k27])), (ns, .inr (1, [.ref ad, .ref ar])), (ad, .inr (11, [.ref (alO sb a.2.2.1), .int (nI a.1.2.1.length), .int a.2.2.2.1])), (ar, .inr (11, [.ref (alO sb a.2.2.2.2.1), .int (nI a.1.2.2.length), .int a.2.2.2.2.2.1]))]) (pl := (alC cO a.2.2.1 ++ (alC cO a.2.2.2.2.1 ++ (a.2.2.2.2.2.2.1 ++ [])))) (wr := [(res, .inr (3, [.ref ns, .ref k1, .ref k2, .ref k3, .ref k4, .ref k5, .ref k6, .ref k7, .int k8, .int k9, .int k10, .int k11, .int k12, .int k13, .int k14, .int k15, .int k16, .int k17, .int k18, .ref k19, .ref k20, .ref k21, .ref k22, .ref k23, .ref k24, .long k25, .long k26, .int k27])), (ns, .inr (1, [.ref ad, .ref ar])), (ad, .inr (11, [.ref (alO sb a.2.2.1), .int (nI a.1.2.1.length), .int a.2.2.2.1])), (ar, .inr (11, [.ref (alO sb a.2.2.2.2.1), .int (nI a.1.2.2.length), .int a.2.2.2.2.2.1]))]) (w1 := [(h, .inr (4, [.ref res, .ref t, .int (nI x147.1), .int (nI x147.2.1), .int (wI x147.2.2), .int a.2.2.2.2.2.2.2, .int ma, .int ex, .ref ki])), (t, .inl (cB, n, .inl (tx u))), (q147, .inr (0, [.ref t, .int (nI ((rd_plain u n a.1.1 129 1 z4.2).2.1)), .int (nI ((rd_plain u n a.1.1 129 1 z4.2).2.2))]))]) hP hD [0, 1] [2, 3, 4, 5] rfl rfl (by decide) (by decide) hk1 hFc hP1 hD1
            have hP : va_P (dC, dI) classes (([(res, .inr (3, [.ref ns, .ref k1, .ref k2, .ref k3, .ref k4, .ref k5, .ref k6, .ref k7, .int k8, .int k9, .int k10, .int k11, .int k12, .int k13, .int k14, .int k15, .int k16, .int k17, .int k18, .ref k19, .ref k20, .ref k21, .ref k22, .ref k23, .ref k24, .long k25, .long k26, .int k27])), (ns, .inr (1, [.ref ad, .ref ar])), (ad, .inr (11, [.ref (alO sb a.2.2.1), .int (nI a.1.2.1.length), .int a.2.2.2.1])), (ar, .inr (11, [.ref (alO sb a.2.2.2.2.1), .int (nI a.1.2.2.length), .int a.2.2.2.2.2.1])), (h, .inr (4, [.ref res, .ref t, .int (nI x147.1), .int (nI x147.2.1), .int (wI x147.2.2), .int a.2.2.2.2.2.2.2, .int ma, .int ex, .ref ki])), (t, .inl (cB, n, .inl (tx u))), (q147, .inr (0, [.ref t, .int (nI ((rd_plain u n a.1.1 129 1 z4.2).2.1)), .int (nI ((rd_plain u n a.1.1 129 1 z4.2).2.2))]))] : va_W) ++ (alC cO a.2.2.1 ++ (alC cO a.2.2.2.2.1 ++ (a.2.2.2.2.2.2.1 ++ [])))) H147 := hP
            have hD : va_D A (([(res, .inr (3, [.ref ns, .ref k1, .ref k2, .ref k3, .ref k4, .ref k5, .ref k6, .ref k7, .int k8, .int k9, .int k10, .int k11, .int k12, .int k13, .int k14, .int k15, .int k16, .int k17, .int k18, .ref k19, .ref k20, .ref k21, .ref k22, .ref k23, .ref k24, .long k25, .long k26, .int k27])), (ns, .inr (1, [.ref ad, .ref ar])), (ad, .inr (11, [.ref (alO sb a.2.2.1), .int (nI a.1.2.1.length), .int a.2.2.2.1])), (ar, .inr (11, [.ref (alO sb a.2.2.2.2.1), .int (nI a.1.2.2.length), .int a.2.2.2.2.2.1])), (h, .inr (4, [.ref res, .ref t, .int (nI x147.1), .int (nI x147.2.1), .int (wI x147.2.2), .int a.2.2.2.2.2.2.2, .int ma, .int ex, .ref ki])), (t, .inl (cB, n, .inl (tx u))), (q147, .inr (0, [.ref t, .int (nI ((rd_plain u n a.1.1 129 1 z4.2).2.1)), .int (nI ((rd_plain u n a.1.1 129 1 z4.2).2.2))]))] : va_W) ++ (alC cO a.2.2.1 ++ (alC cO a.2.2.2.2.1 ++ (a.2.2.2.2.2.2.1 ++ [])))) := hD
            have hi147 := plain_inv (u := u) (tg := 129) (le := 1) hj1 (show z4.2 ≤ n by omega)
            obtain ⟨z147, hz147⟩ : ∃ o, o = rd_plain u n a.1.1 129 1 z4.2 := ⟨_, rfl⟩
            rw [← hz147] at hw147 hi147 hP hD
            subst hw147
            have hb147 : z147.1.1 ≤ n := hi147.1.1
            have hc147 := hi147.2.1
            have hd147 := hi147.2.2
            have hP : va_P (dC, dI) classes (([(res, .inr (3, [.ref ns, .ref k1, .ref k2, .ref k3, .ref k4, .ref k5, .ref k6, .ref k7, .int k8, .int k9, .int k10, .int k11, .int k12, .int k13, .int k14, .int k15, .int k16, .int k17, .int k18, .ref k19, .ref k20, .ref k21, .ref k22, .ref k23, .ref k24, .long k25, .long k26, .int k27])), (ns, .inr (1, [.ref ad, .ref ar])), (ad, .inr (11, [.ref (alO sb a.2.2.1), .int (nI a.1.2.1.length), .int a.2.2.2.1])), (ar, .inr (11, [.ref (alO sb a.2.2.2.2.1), .int (nI a.1.2.2.length), .int a.2.2.2.2.2.1])), (h, .inr (4, [.ref res, .ref t, .int (nI z147.1.1), .int (nI z147.1.2.1), .int (wI z147.1.2.2), .int a.2.2.2.2.2.2.2, .int ma, .int ex, .ref ki])), (t, .inl (cB, n, .inl (tx u))), (q147, .inr (0, [.ref t, .int (nI z147.2.1), .int (nI z147.2.2)]))] : va_W) ++ (alC cO a.2.2.1 ++ (alC cO a.2.2.2.2.1 ++ (a.2.2.2.2.2.2.1 ++ [])))) H147 := hP
            have hD : va_D A (([(res, .inr (3, [.ref ns, .ref k1, .ref k2, .ref k3, .ref k4, .ref k5, .ref k6, .ref k7, .int k8, .int k9, .int k10, .int k11, .int k12, .int k13, .int k14, .int k15, .int k16, .int k17, .int k18, .ref k19, .ref k20, .ref k21, .ref k22, .ref k23, .ref k24, .long k25, .long k26, .int k27])), (ns, .inr (1, [.ref ad, .ref ar])), (ad, .inr (11, [.ref (alO sb a.2.2.1), .int (nI a.1.2.1.length), .int a.2.2.2.1])), (ar, .inr (11, [.ref (alO sb a.2.2.2.2.1), .int (nI a.1.2.2.length), .int a.2.2.2.2.2.1])), (h, .inr (4, [.ref res, .ref t, .int (nI z147.1.1), .int (nI z147.1.2.1), .int (wI z147.1.2.2), .int a.2.2.2.2.2.2.2, .int ma, .int ex, .ref ki])), (t, .inl (cB, n, .inl (tx u))), (q147, .inr (0, [.ref t, .int (nI z147.2.1), .int (nI z147.2.2)]))] : va_W) ++ (alC cO a.2.2.1 ++ (alC cO a.2.2.2.2.1 ++ (a.2.2.2.2.2.2.1 ++ [])))) := hD
            refine vp_callSi (pu_callS (As := [.ref q147]) (rest := [.ref h]) ⟨hx, hb, hml, hown, hts⟩ tbin (c_isVisible l dC dI sb q147 t z147.2.1 z147.2.2 n cB u hu (by omega) (by omega) hn) q4_164 q4_165 q1_16 q4_166 (n := 1) (by decide +kernel) rfl ⟨rfl, rfl⟩ ⟨Nat.le_of_ble_eq_true rfl, Nat.le_of_ble_eq_true rfl⟩ ⟨by omega, by omega⟩ hN (hT0.keep hS hAs) hK hP [6, 5] rfl [0] rfl hl.1 rfl (Nat.le_of_ble_eq_true rfl) d_CertificateReader_readNames_150) (fun r150 hr150 => ?_)
            obtain rfl := bz_zP hr150
            have hFc := va_free (wc := [(h, .inr (4, [.ref res, .ref t, .int (nI z147.1.1), .int (nI z147.1.2.1), .int (wI z147.1.2.2), .int a.2.2.2.2.2.2.2, .int ma, .int ex, .ref ki]))]) hD hS hA [4] rfl
            refine va_callv (mu_runU (As := [.int (zP (visN u z147.2.1 z147.2.2))]) (rest := []) ⟨hx, hb, hml, hown, hts⟩ (cC_require l dC dI sb h res t ki z147.1.1 z147.1.2.1 n z147.1.2.2 a.2.2.2.2.2.2.2 ma ex ie cB u (zP (visN u z147.2.1 z147.2.2)) H147.size ((hi147.1).w hn)) (cu_of (n := 1) hts tbin q3_153 q3_154 q3_157 q3_156 q1_15 q3_158 rfl (by decide +kernel) ⟨rfl, rfl⟩ ⟨Nat.le_of_ble_eq_true rfl, Nat.le_of_ble_eq_true rfl⟩) rfl ⟨by omega, by omega⟩ hN (hT0.keep hS hAs) hAs (Nat.le_trans hB0 hS.1) hK hP hD [4] (by decide) rfl [] rfl 4 4 rfl rfl rfl hl.1 rfl (Nat.le_of_ble_eq_true rfl) d_CertificateReader_readNames_153) hS (fun q _ h => hFc q h) hFc (fun u153 tS H153 locs ht hvm hw153 hB hz1 hk1 hS => ?_)
            obtain ⟨z153, rfl⟩ : ∃ z, z = u153 := ⟨_, rfl⟩
            obtain ⟨hP1, hK1, hD1⟩ := hB
            rw [ht] at hP1
            obtain ⟨hP, hD⟩ := va_joinQ (X := [(res, .inr (3, [.ref ns, .ref k1, .ref k2, .ref k3, .ref k4, .ref k5, .ref k6, .ref k7, .int k8, .int k9, .int k10, .int k11, .int k12, .int k13, .int k14, .int k15, .int k16, .int k17, .int k18, .ref k19, .ref k20, .ref k21, .ref k22, .ref k23, .ref k24, .long k25, .long k26, .int k27])), (ns, .inr (1, [.ref ad, .ref ar])), (ad, .inr (11, [.ref (alO sb a.2.2.1), .int (nI a.1.2.1.length), .int a.2.2.2.1])), (ar, .inr (11, [.ref (alO sb a.2.2.2.2.1), .int (nI a.1.2.2.length), .int a.2.2.2.2.2.1])), (h, .inr (4, [.ref res, .ref t, .int (nI z147.1.1), .int (nI z147.1.2.1), .int (wI z147.1.2.2), .int a.2.2.2.2.2.2.2, .int ma, .int ex, .ref ki])), (t, .inl (cB, n, .inl (tx u))), (q147, .inr (0, [.ref t, .int (nI z147.2.1), .int (nI z147.2.2)]))]) (pl := (alC cO a.2.2.1 ++ (alC cO a.2.2.2.2.1 ++ (a.2.2.2.2.2.2.1 ++ [])))) (wr := [(res, .inr (3, [.ref ns, .ref k1, .ref k2, .ref k3, .ref k4, .ref k5, .ref k6, .ref k7, .int k8, .int k9, .int k10, .int k11, .int k12, .int k13, .int k14, .int k15, .int k16, .int k17, .int k18, .ref k19, .ref k20, .ref k21, .ref k22, .ref k23, .ref k24, .long k25, .long k26, .int k27])), (ns, .inr (1, [.ref ad, .ref ar])), (ad, .inr (11, [.ref (alO sb a.2.2.1), .int (nI a.1.2.1.length), .int a.2.2.2.1])), (ar, .inr (11, [.ref (alO sb a.2.2.2.2.1), .int (nI a.1.2.2.length), .int a.2.2.2.2.2.1])), (t, .inl (cB, n, .inl (tx u))), (q147, .inr (0, [.ref t, .int (nI z147.2.1), .int (nI z147.2.2)]))]) (w1 := [(h, .inr (4, [.ref res, .ref t, .int (nI z153.1), .int (nI z153.2.1), .int (wI z153.2.2), .int a.2.2.2.2.2.2.2, .int ma, .int ex, .ref ki]))]) hP hD [4] [0, 1, 2, 3, 5, 6] rfl rfl (by decide) (by decide) hk1 hFc hP1 hD1
            have hP : va_P (dC, dI) classes (([(res, .inr (3, [.ref ns, .ref k1, .ref k2, .ref k3, .ref k4, .ref k5, .ref k6, .ref k7, .int k8, .int k9, .int k10, .int k11, .int k12, .int k13, .int k14, .int k15, .int k16, .int k17, .int k18, .ref k19, .ref k20, .ref k21, .ref k22, .ref k23, .ref k24, .long k25, .long k26, .int k27])), (ns, .inr (1, [.ref ad, .ref ar])), (ad, .inr (11, [.ref (alO sb a.2.2.1), .int (nI a.1.2.1.length), .int a.2.2.2.1])), (ar, .inr (11, [.ref (alO sb a.2.2.2.2.1), .int (nI a.1.2.2.length), .int a.2.2.2.2.2.1])), (t, .inl (cB, n, .inl (tx u))), (q147, .inr (0, [.ref t, .int (nI z147.2.1), .int (nI z147.2.2)])), (h, .inr (4, [.ref res, .ref t, .int (nI z153.1), .int (nI z153.2.1), .int (wI z153.2.2), .int a.2.2.2.2.2.2.2, .int ma, .int ex, .ref ki]))] : va_W) ++ (alC cO a.2.2.1 ++ (alC cO a.2.2.2.2.1 ++ (a.2.2.2.2.2.2.1 ++ [])))) H153 := hP
            have hD : va_D A (([(res, .inr (3, [.ref ns, .ref k1, .ref k2, .ref k3, .ref k4, .ref k5, .ref k6, .ref k7, .int k8, .int k9, .int k10, .int k11, .int k12, .int k13, .int k14, .int k15, .int k16, .int k17, .int k18, .ref k19, .ref k20, .ref k21, .ref k22, .ref k23, .ref k24, .long k25, .long k26, .int k27])), (ns, .inr (1, [.ref ad, .ref ar])), (ad, .inr (11, [.ref (alO sb a.2.2.1), .int (nI a.1.2.1.length), .int a.2.2.2.1])), (ar, .inr (11, [.ref (alO sb a.2.2.2.2.1), .int (nI a.1.2.2.length), .int a.2.2.2.2.2.1])), (t, .inl (cB, n, .inl (tx u))), (q147, .inr (0, [.ref t, .int (nI z147.2.1), .int (nI z147.2.2)])), (h, .inr (4, [.ref res, .ref t, .int (nI z153.1), .int (nI z153.2.1), .int (wI z153.2.2), .int a.2.2.2.2.2.2.2, .int ma, .int ex, .ref ki]))] : va_W) ++ (alC cO a.2.2.1 ++ (alC cO a.2.2.2.2.1 ++ (a.2.2.2.2.2.2.1 ++ [])))) := hD
            have hz153 : z153 = rd_req z147.1 (zP (visN u z147.2.1 z147.2.2)) := hw153
            have hi153 : rdInv n z153 := by rw [hz153]; exact req_inv hi147.1
            have hb153 : z153.1 ≤ n := hi153.1
            refine lv_goto (tgt := 195) hx hb d_CertificateReader_readNames_156 (by decide) ?_
            refine lv_iinc (v := nI (a.2.1 + 1)) (lv' := [(3, .int (nI (a.2.1 + 1))), (0, .ref h), (2, .int (nI z4.2))]) hx hb d_CertificateReader_readNames_195 hl (k := 2) rfl (nI_1 _) (by decide) rfl (fun ls hl => ?_)
            refine lv_goto (tgt := 10) hx hb d_CertificateReader_readNames_198 (by decide) ?_
            have e9 : rb_nms u n z4.2 a.1 = (z153, a.1.2.1, a.1.2.2) := by
              subst hz153
              subst hz147
              exact ((if_neg p37).trans ((if_neg p87).trans ((if_pos p137).trans rfl)))
            have hpr := nmb_st2 u n z4.2 a.1
            rw [e9] at hpr
            have hpr : st2 a.1.1 z153 z4.2 := hpr
            obtain ⟨⟨hq1, hq2, hq3⟩, hq4⟩ := hpr
            have hlp := loop_go hj3 hk2 hcond
            rw [e9] at hlp
            refine W.widen (k := (2 * (a.2.1 + 1))) (n := (3 * (a.2.1 + 1) + 4 * (alK a.2.2.1 - alK o1) + 4 * (alK a.2.2.2.2.1 - alK o2))) (by omega) (by omega) ?_
            exact ih ((z153, a.1.2.1, a.1.2.2), a.2.1 + 1, a.2.2.1, a.2.2.2.1, a.2.2.2.2.1, a.2.2.2.2.2.1, a.2.2.2.2.2.2.1, a.2.2.2.2.2.2.2) _ _ ls (by show 2048 - (a.2.1 + 1) < 2048 - a.2.1; omega) (⟨hi153, hk2, hlp, hj4, hj5, hj6, ⟨by show alK o1 ≤ alK a.2.2.1; omega, by have h1 := mxU hj7b; have h2 := mxU hj8b; show alK a.2.2.1 ≤ max (alK o1) (10 + 2 * a.1.2.1.length); omega⟩, ⟨by show alK o2 ≤ alK a.2.2.2.2.1; omega, by have h1 := mxU hj7b; have h2 := mxU hj8b; show alK a.2.2.2.2.1 ≤ max (alK o2) (10 + 2 * a.1.2.2.length); omega⟩, ⟨by show a.1.2.1.length ≤ D.length + (a.2.1 + 1); omega, by show a.1.2.2.length ≤ R.length + (a.2.1 + 1); omega⟩, ⟨by show z153.1 ≤ z4.2; omega, by show z4.1.1 ≤ z153.1; omega, by show z4.1.1 + 2 * (a.2.1 + 1) ≤ z153.1 + 2; omega, fun q9 => by have := hq4 q9; have := hj13 (hq3 q9); show z4.1.1 + 2 * (a.2.1 + 1) ≤ z153.1; omega⟩⟩) (hP.part [6, 4, 0, 1, 2, 3] rfl) (hD.part [6, 4, 0, 1, 2, 3] (by decide) rfl) hS (lv_sub hl [1, 2, 0] rfl)
        · have p87 : a.1.1.2.2 = none ∧ a.1.1.1 < z4.2 ∧ u a.1.1.1 = 135 := (zP_1 c87)
          refine lv_aload_n hx hb d_CertificateReader_readNames_90 rfl (lv_at hl 0 rfl) ?_
          refine lv_sipush (v := 135) hx hb d_CertificateReader_readNames_91 (by decide) ?_
          refine lv_iconst (v := 1) hx hb d_CertificateReader_readNames_94 (by decide) ?_
          refine lv_iload_n hx hb d_CertificateReader_readNames_95 rfl (lv_at hl 1 rfl) ?_
          have hFc := va_free (wc := [(h, .inr (4, [.ref res, .ref t, .int (nI a.1.1.1), .int (nI a.1.1.2.1), .int (wI a.1.1.2.2), .int a.2.2.2.2.2.2.2, .int ma, .int ex, .ref ki])), (t, .inl (cB, n, .inl (tx u)))]) hD hS hA [0, 1] rfl
          refine va_callr (mu_runU (As := [.int 135, .int 1, .int (nI z4.2)]) (rest := []) ⟨hx, hb, hml, hown, hts⟩ (cC_plain l dC dI sb h res t ki n a.1.1 a.2.2.2.2.2.2.2 ma ex ie cB u 135 1 z4.2 HL10.size hu hn hj1 (by omega) (by decide) (by decide)) (cu_of (n := 3) hts tbin q4_81 q4_82 q4_85 q4_84 q1_15 q4_86 rfl (by decide +kernel) ⟨rfl, rfl⟩ ⟨Nat.le_of_ble_eq_true rfl, Nat.le_of_ble_eq_true rfl⟩) rfl ⟨by omega, by omega⟩ hN (hT0.keep hS hAs) hAs (Nat.le_trans hB0 hS.1) hK hP hD [0, 1] (by decide) rfl [0] rfl 0 4 rfl rfl rfl hl.1 rfl (Nat.le_of_ble_eq_true rfl) d_CertificateReader_readNames_96) hS (fun q _ h => hFc q h) hFc (fun u96 q96 tS H96 locs ht hvm hw96 hB hz1 hk1 hS => ?_)
          obtain ⟨x96, rfl⟩ : ∃ z, z = u96 := ⟨_, rfl⟩
          obtain ⟨hP1, hK1, hD1⟩ := hB
          rw [ht] at hP1
          obtain ⟨hP, hD⟩ := va_joinQ (X := [(h, .inr (4, [.ref res, .ref t, .int (nI a.1.1.1), .int (nI a.1.1.2.1), .int (wI a.1.1.2.2), .int a.2.2.2.2.2.2.2, .int ma, .int ex, .ref ki])), (t, .inl (cB, n, .inl (tx u))), (res, .inr (3, [.ref ns, .ref k1, .ref k2, .ref k3, .ref k4, .ref k5, .ref k6, .ref k7, .int k8, .int k9, .int k10, .int k11, .int k12, .int k13, .int k14, .int k15, .int k16, .int k17, .int k18, .ref k19, .ref k20, .ref k21, .ref k22, .ref k23, .ref k24, .long k25, .long k26, .int k27])), (ns, .inr (1, [.ref ad, .ref ar])), (ad, .inr (11, [.ref (alO sb a.2.2.1), .int (nI a.1.2.1.length), .int a.2.2.2.1])), (ar, .inr (11, [.ref (alO sb a.2.2.2.2.1), .int (nI a.1.2.2.length), .int a.2.2.2.2.2.1]))]) (pl := (alC cO a.2.2.1 ++ (alC cO a.2.2.2.2.1 ++ (a.2.2.2.2.2.2.1 ++ [])))) (wr := [(res, .inr (3, [.ref ns, .ref k1, .ref k2, .ref k3, .ref k4, .ref k5, .ref k6, .ref k7, .int k8, .int k9, .int k10, .int k11, .int k12, .int k13, .int k14, .int k15, .int k16, .int k17, .int k18, .ref k19, .ref k20, .ref k21, .ref k22, .ref k23, .ref k24, .long k25, .long k26, .int k27])), (ns, .inr (1, [.ref ad, .ref ar])), (ad, .inr (11, [.ref (alO sb a.2.2.1), .int (nI a.1.2.1.length), .int a.2.2.2.1])), (ar, .inr (11, [.ref (alO sb a.2.2.2.2.1), .int (nI a.1.2.2.length), .int a.2.2.2.2.2.1]))]) (w1 := [(h, .inr (4, [.ref res, .ref t, .int (nI x96.1), .int (nI x96.2.1), .int (wI x96.2.2), .int a.2.2.2.2.2.2.2, .int ma, .int ex, .ref ki])), (t, .inl (cB, n, .inl (tx u))), (q96, .inr (0, [.ref t, .int (nI ((rd_plain u n a.1.1 135 1 z4.2).2.1)), .int (nI ((rd_plain u n a.1.1 135 1 z4.2).2.2))]))]) hP hD [0, 1] [2, 3, 4, 5] rfl rfl (by decide) (by decide) hk1 hFc hP1 hD1
          have hP : va_P (dC, dI) classes (([(res, .inr (3, [.ref ns, .ref k1, .ref k2, .ref k3, .ref k4, .ref k5, .ref k6, .ref k7, .int k8, .int k9, .int k10, .int k11, .int k12, .int k13, .int k14, .int k15, .int k16, .int k17, .int k18, .ref k19, .ref k20, .ref k21, .ref k22, .ref k23, .ref k24, .long k25, .long k26, .int k27])), (ns, .inr (1, [.ref ad, .ref ar])), (ad, .inr (11, [.ref (alO sb a.2.2.1), .int (nI a.1.2.1.length), .int a.2.2.2.1])), (ar, .inr (11, [.ref (alO sb a.2.2.2.2.1), .int (nI a.1.2.2.length), .int a.2.2.2.2.2.1])), (h, .inr (4, [.ref res, .ref t, .int (nI x96.1), .int (nI x96.2.1), .int (wI x96.2.2), .int a.2.2.2.2.2.2.2, .int ma, .int ex, .ref ki])), (t, .inl (cB, n, .inl (tx u))), (q96, .inr (0, [.ref t, .int (nI ((rd_plain u n a.1.1 135 1 z4.2).2.1)), .int (nI ((rd_plain u n a.1.1 135 1 z4.2).2.2))]))] : va_W) ++ (alC cO a.2.2.1 ++ (alC cO a.2.2.2.2.1 ++ (a.2.2.2.2.2.2.1 ++ [])))) H96 := hP
          have hD : va_D A (([(res, .inr (3, [.ref ns, .ref k1, .ref k2, .ref k3, .ref k4, .ref k5, .ref k6, .ref k7, .int k8, .int k9, .int k10, .int k11, .int k12, .int k13, .int k14, .int k15, .int k16, .int k17, .int k18, .ref k19, .ref k20, .ref k21, .ref k22, .ref k23, .ref k24, .long k25, .long k26, .int k27])), (ns, .inr (1, [.ref ad, .ref ar])), (ad, .inr (11, [.ref (alO sb a.2.2.1), .int (nI a.1.2.1.length), .int a.2.2.2.1])), (ar, .inr (11, [.ref (alO sb a.2.2.2.2.1), .int (nI a.1.2.2.length), .int a.2.2.2.2.2.1])), (h, .inr (4, [.ref res, .ref t, .int (nI x96.1), .int (nI x96.2.1), .int (wI x96.2.2), .int a.2.2.2.2.2.2.2, .int ma, .int ex, .ref ki])), (t, .inl (cB, n, .inl (tx u))), (q96, .inr (0, [.ref t, .int (nI ((rd_plain u n a.1.1 135 1 z4.2).2.1)), .int (nI ((rd_plain u n a.1.1 135 1 z4.2).2.2))]))] : va_W) ++ (alC cO a.2.2.1 ++ (alC cO a.2.2.2.2.1 ++ (a.2.2.2.2.2.2.1 ++ [])))) := hD
          have hi96 := plain_inv (u := u) (tg := 135) (le := 1) hj1 (show z4.2 ≤ n by omega)
          obtain ⟨z96, hz96⟩ : ∃ o, o = rd_plain u n a.1.1 135 1 z4.2 := ⟨_, rfl⟩
          rw [← hz96] at hw96 hi96 hP hD
          subst hw96
          have hb96 : z96.1.1 ≤ n := hi96.1.1
          have hc96 := hi96.2.1
          have hd96 := hi96.2.2
          have hP : va_P (dC, dI) classes (([(res, .inr (3, [.ref ns, .ref k1, .ref k2, .ref k3, .ref k4, .ref k5, .ref k6, .ref k7, .int k8, .int k9, .int k10, .int k11, .int k12, .int k13, .int k14, .int k15, .int k16, .int k17, .int k18, .ref k19, .ref k20, .ref k21, .ref k22, .ref k23, .ref k24, .long k25, .long k26, .int k27])), (ns, .inr (1, [.ref ad, .ref ar])), (ad, .inr (11, [.ref (alO sb a.2.2.1), .int (nI a.1.2.1.length), .int a.2.2.2.1])), (ar, .inr (11, [.ref (alO sb a.2.2.2.2.1), .int (nI a.1.2.2.length), .int a.2.2.2.2.2.1])), (h, .inr (4, [.ref res, .ref t, .int (nI z96.1.1), .int (nI z96.1.2.1), .int (wI z96.1.2.2), .int a.2.2.2.2.2.2.2, .int ma, .int ex, .ref ki])), (t, .inl (cB, n, .inl (tx u))), (q96, .inr (0, [.ref t, .int (nI z96.2.1), .int (nI z96.2.2)]))] : va_W) ++ (alC cO a.2.2.1 ++ (alC cO a.2.2.2.2.1 ++ (a.2.2.2.2.2.2.1 ++ [])))) H96 := hP
          have hD : va_D A (([(res, .inr (3, [.ref ns, .ref k1, .ref k2, .ref k3, .ref k4, .ref k5, .ref k6, .ref k7, .int k8, .int k9, .int k10, .int k11, .int k12, .int k13, .int k14, .int k15, .int k16, .int k17, .int k18, .ref k19, .ref k20, .ref k21, .ref k22, .ref k23, .ref k24, .long k25, .long k26, .int k27])), (ns, .inr (1, [.ref ad, .ref ar])), (ad, .inr (11, [.ref (alO sb a.2.2.1), .int (nI a.1.2.1.length), .int a.2.2.2.1])), (ar, .inr (11, [.ref (alO sb a.2.2.2.2.1), .int (nI a.1.2.2.length), .int a.2.2.2.2.2.1])), (h, .inr (4, [.ref res, .ref t, .int (nI z96.1.1), .int (nI z96.1.2.1), .int (wI z96.1.2.2), .int a.2.2.2.2.2.2.2, .int ma, .int ex, .ref ki])), (t, .inl (cB, n, .inl (tx u))), (q96, .inr (0, [.ref t, .int (nI z96.2.1), .int (nI z96.2.2)]))] : va_W) ++ (alC cO a.2.2.1 ++ (alC cO a.2.2.2.2.1 ++ (a.2.2.2.2.2.2.1 ++ [])))) := hD
          refine vp_callSi (pu_callV (As := []) (rest := []) ⟨hx, hb, hml, hown, hts⟩ tbin (c_Slice_length l dC dI sb q96 t z96.2.1 z96.2.2 (by omega)) q4_49 q3_144 q3_145 q1_22 q3_146 (n := 0) (by decide +kernel) rfl ⟨rfl, rfl⟩ ⟨Nat.le_of_ble_eq_true rfl, Nat.le_of_ble_eq_true rfl⟩ ⟨by omega, by omega⟩ hN (hT0.keep hS hAs) hK hP [6] rfl [] rfl 6 0 rfl rfl rfl hl.1 rfl (Nat.le_of_ble_eq_true rfl) d_CertificateReader_readNames_99) (fun r99 hr99 => ?_)
          subst hr99
          refine lv_istore (lv' := [(4, .int (nI (z96.2.2 - z96.2.1))), (0, .ref h), (2, .int (nI z4.2)), (3, .int (nI a.2.1))]) hx hb d_CertificateReader_readNames_102 hl (by decide) rfl (fun ls hl => ?_)
          refine lv_aload_n hx hb d_CertificateReader_readNames_104 rfl (lv_at hl 1 rfl) ?_
          refine lv_iload hx hb d_CertificateReader_readNames_105 (lv_at hl 0 rfl) ?_
          refine lv_iconst (v := 4) hx hb d_CertificateReader_readNames_107 (by decide) ?_
          refine w_join (J := fun v9 => v9 = zP (((z96.2.2 - z96.2.1) = 4) ∨ ((z96.2.2 - z96.2.1) = 16))) (pc := 123) (ls := ls) (rest := [.ref h]) (fun v9 hv9 => ?_) (fun k123 => ?_)
          · subst hv9
            have hFc := va_free (wc := [(h, .inr (4, [.ref res, .ref t, .int (nI z96.1.1), .int (nI z96.1.2.1), .int (wI z96.1.2.2), .int a.2.2.2.2.2.2.2, .int ma, .int ex, .ref ki]))]) hD hS hA [4] rfl
            refine va_callv (mu_runU (As := [.int (zP (((z96.2.2 - z96.2.1) = 4) ∨ ((z96.2.2 - z96.2.1) = 16)))]) (rest := []) ⟨hx, hb, hml, hown, hts⟩ (cC_require l dC dI sb h res t ki z96.1.1 z96.1.2.1 n z96.1.2.2 a.2.2.2.2.2.2.2 ma ex ie cB u (zP (((z96.2.2 - z96.2.1) = 4) ∨ ((z96.2.2 - z96.2.1) = 16))) H96.size ((hi96.1).w hn)) (cu_of (n := 1) hts tbin q3_153 q3_154 q3_157 q3_156 q1_15 q3_158 rfl (by decide +kernel) ⟨rfl, rfl⟩ ⟨Nat.le_of_ble_eq_true rfl, Nat.le_of_ble_eq_true rfl⟩) rfl ⟨by omega, by omega⟩ hN (hT0.keep hS hAs) hAs (Nat.le_trans hB0 hS.1) hK hP hD [4] (by decide) rfl [] rfl 4 4 rfl rfl rfl hl.1 rfl (Nat.le_of_ble_eq_true rfl) d_CertificateReader_readNames_123) hS (fun q _ h => hFc q h) hFc (fun u123 tS H123 locs ht hvm hw123 hB hz1 hk1 hS => ?_)
            obtain ⟨z123, rfl⟩ : ∃ z, z = u123 := ⟨_, rfl⟩
            obtain ⟨hP1, hK1, hD1⟩ := hB
            rw [ht] at hP1
            obtain ⟨hP, hD⟩ := va_joinQ (X := [(res, .inr (3, [.ref ns, .ref k1, .ref k2, .ref k3, .ref k4, .ref k5, .ref k6, .ref k7, .int k8, .int k9, .int k10, .int k11, .int k12, .int k13, .int k14, .int k15, .int k16, .int k17, .int k18, .ref k19, .ref k20, .ref k21, .ref k22, .ref k23, .ref k24, .long k25, .long k26, .int k27])), (ns, .inr (1, [.ref ad, .ref ar])), (ad, .inr (11, [.ref (alO sb a.2.2.1), .int (nI a.1.2.1.length), .int a.2.2.2.1])), (ar, .inr (11, [.ref (alO sb a.2.2.2.2.1), .int (nI a.1.2.2.length), .int a.2.2.2.2.2.1])), (h, .inr (4, [.ref res, .ref t, .int (nI z96.1.1), .int (nI z96.1.2.1), .int (wI z96.1.2.2), .int a.2.2.2.2.2.2.2, .int ma, .int ex, .ref ki])), (t, .inl (cB, n, .inl (tx u))), (q96, .inr (0, [.ref t, .int (nI z96.2.1), .int (nI z96.2.2)]))]) (pl := (alC cO a.2.2.1 ++ (alC cO a.2.2.2.2.1 ++ (a.2.2.2.2.2.2.1 ++ [])))) (wr := [(res, .inr (3, [.ref ns, .ref k1, .ref k2, .ref k3, .ref k4, .ref k5, .ref k6, .ref k7, .int k8, .int k9, .int k10, .int k11, .int k12, .int k13, .int k14, .int k15, .int k16, .int k17, .int k18, .ref k19, .ref k20, .ref k21, .ref k22, .ref k23, .ref k24, .long k25, .long k26, .int k27])), (ns, .inr (1, [.ref ad, .ref ar])), (ad, .inr (11, [.ref (alO sb a.2.2.1), .int (nI a.1.2.1.length), .int a.2.2.2.1])), (ar, .inr (11, [.ref (alO sb a.2.2.2.2.1), .int (nI a.1.2.2.length), .int a.2.2.2.2.2.1])), (t, .inl (cB, n, .inl (tx u))), (q96, .inr (0, [.ref t, .int (nI z96.2.1), .int (nI z96.2.2)]))]) (w1 := [(h, .inr (4, [.ref res, .ref t, .int (nI z123.1), .int (nI z123.2.1), .int (wI z123.2.2), .int a.2.2.2.2.2.2.2, .int ma, .int ex, .ref ki]))]) hP hD [4] [0, 1, 2, 3, 5, 6] rfl rfl (by decide) (by decide) hk1 hFc hP1 hD1
            have hP : va_P (dC, dI) classes (([(res, .inr (3, [.ref ns, .ref k1, .ref k2, .ref k3, .ref k4, .ref k5, .ref k6, .ref k7, .int k8, .int k9, .int k10, .int k11, .int k12, .int k13, .int k14, .int k15, .int k16, .int k17, .int k18, .ref k19, .ref k20, .ref k21, .ref k22, .ref k23, .ref k24, .long k25, .long k26, .int k27])), (ns, .inr (1, [.ref ad, .ref ar])), (ad, .inr (11, [.ref (alO sb a.2.2.1), .int (nI a.1.2.1.length), .int a.2.2.2.1])), (ar, .inr (11, [.ref (alO sb a.2.2.2.2.1), .int (nI a.1.2.2.length), .int a.2.2.2.2.2.1])), (t, .inl (cB, n, .inl (tx u))), (q96, .inr (0, [.ref t, .int (nI z96.2.1), .int (nI z96.2.2)])), (h, .inr (4, [.ref res, .ref t, .int (nI z123.1), .int (nI z123.2.1), .int (wI z123.2.2), .int a.2.2.2.2.2.2.2, .int ma, .int ex, .ref ki]))] : va_W) ++ (alC cO a.2.2.1 ++ (alC cO a.2.2.2.2.1 ++ (a.2.2.2.2.2.2.1 ++ [])))) H123 := hP
            have hD : va_D A (([(res, .inr (3, [.ref ns, .ref k1, .ref k2, .ref k3, .ref k4, .ref k5, .ref k6, .ref k7, .int k8, .int k9, .int k10, .int k11, .int k12, .int k13, .int k14, .int k15, .int k16, .int k17, .int k18, .ref k19, .ref k20, .ref k21, .ref k22, .ref k23, .ref k24, .long k25, .long k26, .int k27])), (ns, .inr (1, [.ref ad, .ref ar])), (ad, .inr (11, [.ref (alO sb a.2.2.1), .int (nI a.1.2.1.length), .int a.2.2.2.1])), (ar, .inr (11, [.ref (alO sb a.2.2.2.2.1), .int (nI a.1.2.2.length), .int a.2.2.2.2.2.1])), (t, .inl (cB, n, .inl (tx u))), (q96, .inr (0, [.ref t, .int (nI z96.2.1), .int (nI z96.2.2)])), (h, .inr (4, [.ref res, .ref t, .int (nI z123.1), .int (nI z123.2.1), .int (wI z123.2.2), .int a.2.2.2.2.2.2.2, .int ma, .int ex, .ref ki]))] : va_W) ++ (alC cO a.2.2.1 ++ (alC cO a.2.2.2.2.1 ++ (a.2.2.2.2.2.2.1 ++ [])))) := hD
            have hz123 : z123 = rd_req z96.1 (zP (((z96.2.2 - z96.2.1) = 4) ∨ ((z96.2.2 - z96.2.1) = 16))) := hw123
            have hi123 : rdInv n z123 := by rw [hz123]; exact req_inv hi96.1
            have hb123 : z123.1 ≤ n := hi123.1
            refine lv_goto (tgt := 195) hx hb d_CertificateReader_readNames_126 (by decide) ?_
            refine lv_iinc (v := nI (a.2.1 + 1)) (lv' := [(3, .int (nI (a.2.1 + 1))), (4, .int (nI (z96.2.2 - z96.2.1))), (0, .ref h), (2, .int (nI z4.2))]) hx hb d_CertificateReader_readNames_195 hl (k := 3) rfl (nI_1 _) (by decide) rfl (fun ls hl => ?_)
            refine lv_goto (tgt := 10) hx hb d_CertificateReader_readNames_198 (by decide) ?_
            have e9 : rb_nms u n z4.2 a.1 = (z123, a.1.2.1, a.1.2.2) := by
              subst hz123
              subst hz96
              exact ((if_neg p37).trans ((if_pos p87).trans rfl))
            have hpr := nmb_st2 u n z4.2 a.1
            rw [e9] at hpr
            have hpr : st2 a.1.1 z123 z4.2 := hpr
            obtain ⟨⟨hq1, hq2, hq3⟩, hq4⟩ := hpr
            have hlp := loop_go hj3 hk2 hcond
            rw [e9] at hlp
            refine W.widen (k := (2 * (a.2.1 + 1))) (n := (3 * (a.2.1 + 1) + 4 * (alK a.2.2.1 - alK o1) + 4 * (alK a.2.2.2.2.1 - alK o2))) (by omega) (by omega) ?_
            exact ih ((z123, a.1.2.1, a.1.2.2), a.2.1 + 1, a.2.2.1, a.2.2.2.1, a.2.2.2.2.1, a.2.2.2.2.2.1, a.2.2.2.2.2.2.1, a.2.2.2.2.2.2.2) _ _ ls (by show 2048 - (a.2.1 + 1) < 2048 - a.2.1; omega) (⟨hi123, hk2, hlp, hj4, hj5, hj6, ⟨by show alK o1 ≤ alK a.2.2.1; omega, by have h1 := mxU hj7b; have h2 := mxU hj8b; show alK a.2.2.1 ≤ max (alK o1) (10 + 2 * a.1.2.1.length); omega⟩, ⟨by show alK o2 ≤ alK a.2.2.2.2.1; omega, by have h1 := mxU hj7b; have h2 := mxU hj8b; show alK a.2.2.2.2.1 ≤ max (alK o2) (10 + 2 * a.1.2.2.length); omega⟩, ⟨by show a.1.2.1.length ≤ D.length + (a.2.1 + 1); omega, by show a.1.2.2.length ≤ R.length + (a.2.1 + 1); omega⟩, ⟨by show z123.1 ≤ z4.2; omega, by show z4.1.1 ≤ z123.1; omega, by show z4.1.1 + 2 * (a.2.1 + 1) ≤ z123.1 + 2; omega, fun q9 => by have := hq4 q9; have := hj13 (hq3 q9); show z4.1.1 + 2 * (a.2.1 + 1) ≤ z123.1; omega⟩⟩) (hP.part [6, 4, 0, 1, 2, 3] rfl) (hD.part [6, 4, 0, 1, 2, 3] (by decide) rfl) hS (lv_sub hl [2, 3, 0] rfl)
          · skip
            refine lv_icmp_eq (tgt := 118) hx hb d_CertificateReader_readNames_108 (by decide) (fun c108 => ?_) (fun c108 => ?_)
            · have p108 : (z96.2.2 - z96.2.1) = 4 := ((nI_eq (a := (z96.2.2 - z96.2.1)) (b := 4) (by omega) (by omega)).mp c108)
              refine lv_iconst (v := 1) hx hb d_CertificateReader_readNames_118 (by decide) ?_
              refine lv_goto (tgt := 123) hx hb d_CertificateReader_readNames_119 (by decide) ?_
              exact k123 _ (zP_t (Or.inl p108))
            · have p108 : ¬ ((z96.2.2 - z96.2.1) = 4) := (fun q9 => c108 ((nI_eq (a := (z96.2.2 - z96.2.1)) (b := 4) (by omega) (by omega)).mpr q9))
              refine lv_iload hx hb d_CertificateReader_readNames_111 (lv_at hl 0 rfl) ?_
              refine lv_bipush (v := 16) hx hb d_CertificateReader_readNames_113 (by decide) ?_
              refine lv_icmp_ne (tgt := 122) hx hb d_CertificateReader_readNames_115 (by decide) (fun c115 => ?_) (fun c115 => ?_)
              · have p115 : ¬ ((z96.2.2 - z96.2.1) = 16) := (fun q9 => c115 ((nI_eq (a := (z96.2.2 - z96.2.1)) (b := 16) (by omega) (by omega)).mpr q9))
                refine lv_iconst (v := 0) hx hb d_CertificateReader_readNames_122 (by decide) ?_
                exact k123 _ (zP_f (fun z => z.elim p108 p115))
              · have p115 : (z96.2.2 - z96.2.1) = 16 := ((nI_eq (a := (z96.2.2 - z96.2.1)) (b := 16) (by omega) (by omega)).mp c115)
                refine lv_iconst (v := 1) hx hb d_CertificateReader_readNames_118 (by decide) ?_
                refine lv_goto (tgt := 123) hx hb d_CertificateReader_readNames_119 (by decide) ?_
                exact k123 _ (zP_t (Or.inr p115))
      · have p37 : a.1.1.2.2 = none ∧ a.1.1.1 < z4.2 ∧ u a.1.1.1 = 164 := (zP_1 c37)
        refine lv_aload_n hx hb d_CertificateReader_readNames_40 rfl (lv_at hl 0 rfl) ?_
        refine lv_sipush (v := 164) hx hb d_CertificateReader_readNames_41 (by decide) ?_
        refine lv_iload_n hx hb d_CertificateReader_readNames_44 rfl (lv_at hl 1 rfl) ?_
        have hFc := va_free (wc := [(h, .inr (4, [.ref res, .ref t, .int (nI a.1.1.1), .int (nI a.1.1.2.1), .int (wI a.1.1.2.2), .int a.2.2.2.2.2.2.2, .int ma, .int ex, .ref ki])), (t, .inl (cB, n, .inl (tx u)))]) hD hS hA [0, 1] rfl
        refine va_calli (mu_runU (As := [.int 164, .int (nI z4.2)]) (rest := []) ⟨hx, hb, hml, hown, hts⟩ (cC_open l dC dI sb h res t ki a.1.1.1 a.1.1.2.1 n a.1.1.2.2 a.2.2.2.2.2.2.2 ma ex ie cB u 164 z4.2 HL10.size hu hn ((hj1).w hn) (by omega) (hj1).1 (by decide)) (cu_of (n := 2) hts tbin q3_108 q3_109 q3_112 q3_111 q1_15 q3_113 rfl (by decide +kernel) ⟨rfl, rfl⟩ ⟨Nat.le_of_ble_eq_true rfl, Nat.le_of_ble_eq_true rfl⟩) rfl ⟨by omega, by omega⟩ hN (hT0.keep hS hAs) hAs (Nat.le_trans hB0 hS.1) hK hP hD [0, 1] (by decide) rfl [0] rfl 0 4 rfl rfl rfl hl.1 rfl (Nat.le_of_ble_eq_true rfl) d_CertificateReader_readNames_45) hS (fun q _ h => hFc q h) hFc (fun r45 u45 tS H45 locs ht hvm hw45 hB hz1 hk1 hS => ?_)
        obtain ⟨x45, rfl⟩ : ∃ z, z = u45 := ⟨_, rfl⟩
        obtain ⟨hP1, hK1, hD1⟩ := hB
        rw [ht] at hP1
        obtain ⟨hP, hD⟩ := va_joinQ (X := [(h, .inr (4, [.ref res, .ref t, .int (nI a.1.1.1), .int (nI a.1.1.2.1), .int (wI a.1.1.2.2), .int a.2.2.2.2.2.2.2, .int ma, .int ex, .ref ki])), (t, .inl (cB, n, .inl (tx u))), (res, .inr (3, [.ref ns, .ref k1, .ref k2, .ref k3, .ref k4, .ref k5, .ref k6, .ref k7, .int k8, .int k9, .int k10, .int k11, .int k12, .int k13, .int k14, .int k15, .int k16, .int k17, .int k18, .ref k19, .ref k20, .ref k21, .ref k22, .ref k23, .ref k24, .long k25, .long k26, .int k27])), (ns, .inr (1, [.ref ad, .ref ar])), (ad, .inr (11, [.ref (alO sb a.2.2.1), .int (nI a.1.2.1.length), .int a.2.2.2.1])), (ar, .inr (11, [.ref (alO sb a.2.2.2.2.1), .int (nI a.1.2.2.length), .int a.2.2.2.2.2.1]))]) (pl := (alC cO a.2.2.1 ++ (alC cO a.2.2.2.2.1 ++ (a.2.2.2.2.2.2.1 ++ [])))) (wr := [(res, .inr (3, [.ref ns, .ref k1, .ref k2, .ref k3, .ref k4, .ref k5, .ref k6, .ref k7, .int k8, .int k9, .int k10, .int k11, .int k12, .int k13, .int k14, .int k15, .int k16, .int k17, .int k18, .ref k19, .ref k20, .ref k21, .ref k22, .ref k23, .ref k24, .long k25, .long k26, .int k27])), (ns, .inr (1, [.ref ad, .ref ar])), (ad, .inr (11, [.ref (alO sb a.2.2.1), .int (nI a.1.2.1.length), .int a.2.2.2.1])), (ar, .inr (11, [.ref (alO sb a.2.2.2.2.1), .int (nI a.1.2.2.length), .int a.2.2.2.2.2.1]))]) (w1 := [(h, .inr (4, [.ref res, .ref t, .int (nI x45.1), .int (nI x45.2.1), .int (wI x45.2.2), .int a.2.2.2.2.2.2.2, .int ma, .int ex, .ref ki])), (t, .inl (cB, n, .inl (tx u)))]) hP hD [0, 1] [2, 3, 4, 5] rfl rfl (by decide) (by decide) hk1 hFc hP1 hD1
        have hP : va_P (dC, dI) classes (([(res, .inr (3, [.ref ns, .ref k1, .ref k2, .ref k3, .ref k4, .ref k5, .ref k6, .ref k7, .int k8, .int k9, .int k10, .int k11, .int k12, .int k13, .int k14, .int k15, .int k16, .int k17, .int k18, .ref k19, .ref k20, .ref k21, .ref k22, .ref k23, .ref k24, .long k25, .long k26, .int k27])), (ns, .inr (1, [.ref ad, .ref ar])), (ad, .inr (11, [.ref (alO sb a.2.2.1), .int (nI a.1.2.1.length), .int a.2.2.2.1])), (ar, .inr (11, [.ref (alO sb a.2.2.2.2.1), .int (nI a.1.2.2.length), .int a.2.2.2.2.2.1])), (h, .inr (4, [.ref res, .ref t, .int (nI x45.1), .int (nI x45.2.1), .int (wI x45.2.2), .int a.2.2.2.2.2.2.2, .int ma, .int ex, .ref ki])), (t, .inl (cB, n, .inl (tx u)))] : va_W) ++ (alC cO a.2.2.1 ++ (alC cO a.2.2.2.2.1 ++ (a.2.2.2.2.2.2.1 ++ [])))) H45 := hP
        have hD : va_D A (([(res, .inr (3, [.ref ns, .ref k1, .ref k2, .ref k3, .ref k4, .ref k5, .ref k6, .ref k7, .int k8, .int k9, .int k10, .int k11, .int k12, .int k13, .int k14, .int k15, .int k16, .int k17, .int k18, .ref k19, .ref k20, .ref k21, .ref k22, .ref k23, .ref k24, .long k25, .long k26, .int k27])), (ns, .inr (1, [.ref ad, .ref ar])), (ad, .inr (11, [.ref (alO sb a.2.2.1), .int (nI a.1.2.1.length), .int a.2.2.2.1])), (ar, .inr (11, [.ref (alO sb a.2.2.2.2.1), .int (nI a.1.2.2.length), .int a.2.2.2.2.2.1])), (h, .inr (4, [.ref res, .ref t, .int (nI x45.1), .int (nI x45.2.1), .int (wI x45.2.2), .int a.2.2.2.2.2.2.2, .int ma, .int ex, .ref ki])), (t, .inl (cB, n, .inl (tx u)))] : va_W) ++ (alC cO a.2.2.1 ++ (alC cO a.2.2.2.2.1 ++ (a.2.2.2.2.2.2.1 ++ [])))) := hD
        have hw45 : x45 = (rd_opn u n a.1.1 164 z4.2).1 ∧ r45 = nI (rd_opn u n a.1.1 164 z4.2).2 := hw45
        have hi45 := opn_inv (u := u) (tg := 164) hj1 (show z4.2 ≤ n by omega)
        obtain ⟨z45, hz45⟩ : ∃ o, o = rd_opn u n a.1.1 164 z4.2 := ⟨_, rfl⟩
        rw [← hz45] at hw45 hi45
        obtain ⟨rfl, rfl⟩ := hw45
        have hb45 : z45.1.1 ≤ n := hi45.1.1
        have hc45 : z45.1.1 ≤ z45.2 := hi45.2.1
        have hd45 : z45.2 ≤ n := hi45.2.2.1
        have hP : va_P (dC, dI) classes (([(res, .inr (3, [.ref ns, .ref k1, .ref k2, .ref k3, .ref k4, .ref k5, .ref k6, .ref k7, .int k8, .int k9, .int k10, .int k11, .int k12, .int k13, .int k14, .int k15, .int k16, .int k17, .int k18, .ref k19, .ref k20, .ref k21, .ref k22, .ref k23, .ref k24, .long k25, .long k26, .int k27])), (ns, .inr (1, [.ref ad, .ref ar])), (ad, .inr (11, [.ref (alO sb a.2.2.1), .int (nI a.1.2.1.length), .int a.2.2.2.1])), (ar, .inr (11, [.ref (alO sb a.2.2.2.2.1), .int (nI a.1.2.2.length), .int a.2.2.2.2.2.1])), (h, .inr (4, [.ref res, .ref t, .int (nI z45.1.1), .int (nI z45.1.2.1), .int (wI z45.1.2.2), .int a.2.2.2.2.2.2.2, .int ma, .int ex, .ref ki])), (t, .inl (cB, n, .inl (tx u)))] : va_W) ++ (alC cO a.2.2.1 ++ (alC cO a.2.2.2.2.1 ++ (a.2.2.2.2.2.2.1 ++ [])))) H45 := hP
        have hD : va_D A (([(res, .inr (3, [.ref ns, .ref k1, .ref k2, .ref k3, .ref k4, .ref k5, .ref k6, .ref k7, .int k8, .int k9, .int k10, .int k11, .int k12, .int k13, .int k14, .int k15, .int k16, .int k17, .int k18, .ref k19, .ref k20, .ref k21, .ref k22, .ref k23, .ref k24, .long k25, .long k26, .int k27])), (ns, .inr (1, [.ref ad, .ref ar])), (ad, .inr (11, [.ref (alO sb a.2.2.1), .int (nI a.1.2.1.length), .int a.2.2.2.1])), (ar, .inr (11, [.ref (alO sb a.2.2.2.2.1), .int (nI a.1.2.2.length), .int a.2.2.2.2.2.1])), (h, .inr (4, [.ref res, .ref t, .int (nI z45.1.1), .int (nI z45.1.2.1), .int (wI z45.1.2.2), .int a.2.2.2.2.2.2.2, .int ma, .int ex, .ref ki])), (t, .inl (cB, n, .inl (tx u)))] : va_W) ++ (alC cO a.2.2.1 ++ (alC cO a.2.2.2.2.1 ++ (a.2.2.2.2.2.2.1 ++ [])))) := hD
        refine lv_istore (lv' := [(4, .int (nI z45.2)), (0, .ref h), (2, .int (nI z4.2)), (3, .int (nI a.2.1))]) hx hb d_CertificateReader_readNames_48 hl (by decide) rfl (fun ls hl => ?_)
        refine lv_aload_n hx hb d_CertificateReader_readNames_50 rfl (lv_at hl 1 rfl) ?_
        refine va_get (v := .ref res) hx hb htb i_CertificateReader hown hK hP 4 rfl rfl 0 (by decide) (htb _ q3_55) (fun _ h9 => h9) rfl d_CertificateReader_readNames_51 ?_
        refine va_get (v := .ref ns) hx hb htb i_Certificate hown hK hP 0 rfl rfl 0 (by decide) (htb _ q2_141) (fun _ h9 => h9) rfl d_CertificateReader_readNames_54 ?_
        refine va_getN (v := .ref ar) hx hb htb i_NameSet hown hK hP 1 rfl rfl 1 (by decide) (va_Nw.use rfl (hN.1 _ qn2_133)) (fun _ h9 => h9) rfl d_CertificateReader_readNames_57 ?_
        refine lv_aload_n hx hb d_CertificateReader_readNames_60 rfl (lv_at hl 1 rfl) ?_
        refine lv_iload hx hb d_CertificateReader_readNames_61 (lv_at hl 0 rfl) ?_
        have hFc := va_free (wc := [(h, .inr (4, [.ref res, .ref t, .int (nI z45.1.1), .int (nI z45.1.2.1), .int (wI z45.1.2.2), .int a.2.2.2.2.2.2.2, .int ma, .int ex, .ref ki])), (t, .inl (cB, n, .inl (tx u)))]) hD hS hA [4, 5] rfl
        refine va_callr (mu_runU (As := [.int (nI z45.2)]) (rest := [.ref ar]) ⟨hx, hb, hml, hown, hts⟩ (cC_name l dC dI sb h res t ki n z45.1 a.2.2.2.2.2.2.2 ma ex ie cB u z45.2 H45.size hu hn hi45.1 (by omega)) (cu_of (n := 1) hts tbin q4_22 q4_23 q3_191 q4_25 q1_15 q3_195 rfl (by decide +kernel) ⟨rfl, rfl⟩ ⟨Nat.le_of_ble_eq_true rfl, Nat.le_of_ble_eq_true rfl⟩) rfl ⟨by omega, by omega⟩ hN (hT0.keep hS hAs) hAs (Nat.le_trans hB0 hS.1) hK hP hD [4, 5] (by decide) rfl [0] rfl 4 4 rfl rfl rfl hl.1 rfl (Nat.le_of_ble_eq_true rfl) d_CertificateReader_readNames_63) hS (fun q _ h => hFc q h) hFc (fun u63 q63 tS H63 locs ht hvm hw63 hB hz1 hk1 hS => ?_)
        obtain ⟨x63, n63⟩ := u63
        obtain ⟨hP1, hK1, hD1⟩ := hB
        rw [ht] at hP1
        obtain ⟨hP, hD⟩ := va_joinQ (X := [(res, .inr (3, [.ref ns, .ref k1, .ref k2, .ref k3, .ref k4, .ref k5, .ref k6, .ref k7, .int k8, .int k9, .int k10, .int k11, .int k12, .int k13, .int k14, .int k15, .int k16, .int k17, .int k18, .ref k19, .ref k20, .ref k21, .ref k22, .ref k23, .ref k24, .long k25, .long k26, .int k27])), (ns, .inr (1, [.ref ad, .ref ar])), (ad, .inr (11, [.ref (alO sb a.2.2.1), .int (nI a.1.2.1.length), .int a.2.2.2.1])), (ar, .inr (11, [.ref (alO sb a.2.2.2.2.1), .int (nI a.1.2.2.length), .int a.2.2.2.2.2.1])), (h, .inr (4, [.ref res, .ref t, .int (nI z45.1.1), .int (nI z45.1.2.1), .int (wI z45.1.2.2), .int a.2.2.2.2.2.2.2, .int ma, .int ex, .ref ki])), (t, .inl (cB, n, .inl (tx u)))]) (pl := (alC cO a.2.2.1 ++ (alC cO a.2.2.2.2.1 ++ (a.2.2.2.2.2.2.1 ++ [])))) (wr := [(res, .inr (3, [.ref ns, .ref k1, .ref k2, .ref k3, .ref k4, .ref k5, .ref k6, .ref k7, .int k8, .int k9, .int k10, .int k11, .int k12, .int k13, .int k14, .int k15, .int k16, .int k17, .int k18, .ref k19, .ref k20, .ref k21, .ref k22, .ref k23, .ref k24, .long k25, .long k26, .int k27])), (ns, .inr (1, [.ref ad, .ref ar])), (ad, .inr (11, [.ref (alO sb a.2.2.1), .int (nI a.1.2.1.length), .int a.2.2.2.1])), (ar, .inr (11, [.ref (alO sb a.2.2.2.2.1), .int (nI a.1.2.2.length), .int a.2.2.2.2.2.1]))]) (w1 := [(h, .inr (4, [.ref res, .ref t, .int (nI x63.1), .int (nI x63.2.1), .int (wI x63.2.2), .int (nI n63), .int ma, .int ex, .ref ki])), (t, .inl (cB, n, .inl (tx u))), (q63, .inr (0, [.ref t, .int (nI ((rd_nam u n z45.1 z45.2).2.2.1)), .int (nI ((rd_nam u n z45.1 z45.2).2.2.2))]))]) hP hD [4, 5] [0, 1, 2, 3] rfl rfl (by decide) (by decide) hk1 hFc hP1 hD1
        have hP : va_P (dC, dI) classes (([(res, .inr (3, [.ref ns, .ref k1, .ref k2, .ref k3, .ref k4, .ref k5, .ref k6, .ref k7, .int k8, .int k9, .int k10, .int k11, .int k12, .int k13, .int k14, .int k15, .int k16, .int k17, .int k18, .ref k19, .ref k20, .ref k21, .ref k22, .ref k23, .ref k24, .long k25, .long k26, .int k27])), (ns, .inr (1, [.ref ad, .ref ar])), (ad, .inr (11, [.ref (alO sb a.2.2.1), .int (nI a.1.2.1.length), .int a.2.2.2.1])), (ar, .inr (11, [.ref (alO sb a.2.2.2.2.1), .int (nI a.1.2.2.length), .int a.2.2.2.2.2.1])), (h, .inr (4, [.ref res, .ref t, .int (nI x63.1), .int (nI x63.2.1), .int (wI x63.2.2), .int (nI n63), .int ma, .int ex, .ref ki])), (t, .inl (cB, n, .inl (tx u))), (q63, .inr (0, [.ref t, .int (nI ((rd_nam u n z45.1 z45.2).2.2.1)), .int (nI ((rd_nam u n z45.1 z45.2).2.2.2))]))] : va_W) ++ (alC cO a.2.2.1 ++ (alC cO a.2.2.2.2.1 ++ (a.2.2.2.2.2.2.1 ++ [])))) H63 := hP
        have hD : va_D A (([(res, .inr (3, [.ref ns, .ref k1, .ref k2, .ref k3, .ref k4, .ref k5, .ref k6, .ref k7, .int k8, .int k9, .int k10, .int k11, .int k12, .int k13, .int k14, .int k15, .int k16, .int k17, .int k18, .ref k19, .ref k20, .ref k21, .ref k22, .ref k23, .ref k24, .long k25, .long k26, .int k27])), (ns, .inr (1, [.ref ad, .ref ar])), (ad, .inr (11, [.ref (alO sb a.2.2.1), .int (nI a.1.2.1.length), .int a.2.2.2.1])), (ar, .inr (11, [.ref (alO sb a.2.2.2.2.1), .int (nI a.1.2.2.length), .int a.2.2.2.2.2.1])), (h, .inr (4, [.ref res, .ref t, .int (nI x63.1), .int (nI x63.2.1), .int (wI x63.2.2), .int (nI n63), .int ma, .int ex, .ref ki])), (t, .inl (cB, n, .inl (tx u))), (q63, .inr (0, [.ref t, .int (nI ((rd_nam u n z45.1 z45.2).2.2.1)), .int (nI ((rd_nam u n z45.1 z45.2).2.2.2))]))] : va_W) ++ (alC cO a.2.2.1 ++ (alC cO a.2.2.2.2.1 ++ (a.2.2.2.2.2.2.1 ++ [])))) := hD
        have hi63 := nam_inv (u := u) hi45.1 (show z45.2 ≤ n by omega)
        obtain ⟨z63, hz63⟩ : ∃ o, o = rd_nam u n z45.1 z45.2 := ⟨_, rfl⟩
        have hw63 : x63 = (rd_nam u n z45.1 z45.2).1 ∧ n63 = (rd_nam u n z45.1 z45.2).2.1 := hw63
        rw [← hz63] at hw63 hi63 hP hD
        obtain ⟨rfl, rfl⟩ := hw63
        have hb63 : z63.1.1 ≤ n := hi63.1.1
        have hc63 : z63.2.2.1 ≤ z63.2.2.2 := hi63.2.1
        have hd63 : z63.2.2.2 ≤ n := hi63.2.2
        have hP : va_P (dC, dI) classes (([(res, .inr (3, [.ref ns, .ref k1, .ref k2, .ref k3, .ref k4, .ref k5, .ref k6, .ref k7, .int k8, .int k9, .int k10, .int k11, .int k12, .int k13, .int k14, .int k15, .int k16, .int k17, .int k18, .ref k19, .ref k20, .ref k21, .ref k22, .ref k23, .ref k24, .long k25, .long k26, .int k27])), (ns, .inr (1, [.ref ad, .ref ar])), (ad, .inr (11, [.ref (alO sb a.2.2.1), .int (nI a.1.2.1.length), .int a.2.2.2.1])), (ar, .inr (11, [.ref (alO sb a.2.2.2.2.1), .int (nI a.1.2.2.length), .int a.2.2.2.2.2.1])), (h, .inr (4, [.ref res, .ref t, .int (nI z63.1.1), .int (nI z63.1.2.1), .int (wI z63.1.2.2), .int (nI z63.2.1), .int ma, .int ex, .ref ki])), (t, .inl (cB, n, .inl (tx u))), (q63, .inr (0, [.ref t, .int (nI z63.2.2.1), .int (nI z63.2.2.2)]))] : va_W) ++ (alC cO a.2.2.1 ++ (alC cO a.2.2.2.2.1 ++ (a.2.2.2.2.2.2.1 ++ [])))) H63 := hP
        have hD : va_D A (([(res, .inr (3, [.ref ns, .ref k1, .ref k2, .ref k3, .ref k4, .ref k5, .ref k6, .ref k7, .int k8, .int k9, .int k10, .int k11, .int k12, .int k13, .int k14, .int k15, .int k16, .int k17, .int k18, .ref k19, .ref k20, .ref k21, .ref k22, .ref k23, .ref k24, .long k25, .long k26, .int k27])), (ns, .inr (1, [.ref ad, .ref ar])), (ad, .inr (11, [.ref (alO sb a.2.2.1), .int (nI a.1.2.1.length), .int a.2.2.2.1])), (ar, .inr (11, [.ref (alO sb a.2.2.2.2.1), .int (nI a.1.2.2.length), .int a.2.2.2.2.2.1])), (h, .inr (4, [.ref res, .ref t, .int (nI z63.1.1), .int (nI z63.1.2.1), .int (wI z63.1.2.2), .int (nI z63.2.1), .int ma, .int ex, .ref ki])), (t, .inl (cB, n, .inl (tx u))), (q63, .inr (0, [.ref t, .int (nI z63.2.2.1), .int (nI z63.2.2.2)]))] : va_W) ++ (alC cO a.2.2.1 ++ (alC cO a.2.2.2.2.1 ++ (a.2.2.2.2.2.2.1 ++ [])))) := hD
        have hPm : List.Perm ((([(res, .inr (3, [.ref ns, .ref k1, .ref k2, .ref k3, .ref k4, .ref k5, .ref k6, .ref k7, .int k8, .int k9, .int k10, .int k11, .int k12, .int k13, .int k14, .int k15, .int k16, .int k17, .int k18, .ref k19, .ref k20, .ref k21, .ref k22, .ref k23, .ref k24, .long k25, .long k26, .int k27])), (ns, .inr (1, [.ref ad, .ref ar])), (ad, .inr (11, [.ref (alO sb a.2.2.1), .int (nI a.1.2.1.length), .int a.2.2.2.1])), (ar, .inr (11, [.ref (alO sb a.2.2.2.2.1), .int (nI a.1.2.2.length), .int a.2.2.2.2.2.1])), (h, .inr (4, [.ref res, .ref t, .int (nI z63.1.1), .int (nI z63.1.2.1), .int (wI z63.1.2.2), .int (nI z63.2.1), .int ma, .int ex, .ref ki])), (t, .inl (cB, n, .inl (tx u))), (q63, .inr (0, [.ref t, .int (nI z63.2.2.1), .int (nI z63.2.2.2)]))] : va_W) ++ (alC cO a.2.2.1 ++ (alC cO a.2.2.2.2.1 ++ (a.2.2.2.2.2.2.1 ++ [])))) : va_W) ((ar, .inr (11, [.ref (alO sb a.2.2.2.2.1), .int (nI a.1.2.2.length), .int a.2.2.2.2.2.1])) :: (alC cO a.2.2.2.2.1 ++ (([(res, .inr (3, [.ref ns, .ref k1, .ref k2, .ref k3, .ref k4, .ref k5, .ref k6, .ref k7, .int k8, .int k9, .int k10, .int k11, .int k12, .int k13, .int k14, .int k15, .int k16, .int k17, .int k18, .ref k19, .ref k20, .ref k21, .ref k22, .ref k23, .ref k24, .long k25, .long k26, .int k27])), (ns, .inr (1, [.ref ad, .ref ar])), (ad, .inr (11, [.ref (alO sb a.2.2.1), .int (nI a.1.2.1.length), .int a.2.2.2.1])), (h, .inr (4, [.ref res, .ref t, .int (nI z63.1.1), .int (nI z63.1.2.1), .int (wI z63.1.2.2), .int (nI z63.2.1), .int ma, .int ex, .ref ki])), (t, .inl (cB, n, .inl (tx u))), (q63, .inr (0, [.ref t, .int (nI z63.2.2.1), .int (nI z63.2.2.2)]))] : va_W) ++ (alC cO a.2.2.1 ++ (a.2.2.2.2.2.2.1 ++ []))))) := blk_perm (fun i => ([[(res, .inr (3, [.ref ns, .ref k1, .ref k2, .ref k3, .ref k4, .ref k5, .ref k6, .ref k7, .int k8, .int k9, .int k10, .int k11, .int k12, .int k13, .int k14, .int k15, .int k16, .int k17, .int k18, .ref k19, .ref k20, .ref k21, .ref k22, .ref k23, .ref k24, .long k25, .long k26, .int k27]))], [(ns, .inr (1, [.ref ad, .ref ar]))], [(ad, .inr (11, [.ref (alO sb a.2.2.1), .int (nI a.1.2.1.length), .int a.2.2.2.1]))], [(ar, .inr (11, [.ref (alO sb a.2.2.2.2.1), .int (nI a.1.2.2.length), .int a.2.2.2.2.2.1]))], [(h, .inr (4, [.ref res, .ref t, .int (nI z63.1.1), .int (nI z63.1.2.1), .int (wI z63.1.2.2), .int (nI z63.2.1), .int ma, .int ex, .ref ki]))], [(t, .inl (cB, n, .inl (tx u)))], [(q63, .inr (0, [.ref t, .int (nI z63.2.2.1), .int (nI z63.2.2.2)]))], alC cO a.2.2.1, alC cO a.2.2.2.2.1, a.2.2.2.2.2.2.1] : List va_W).getD i []) [0, 1, 2, 3, 4, 5, 6, 7, 8, 9] [3, 8, 0, 1, 2, 4, 5, 6, 7, 9] rfl
        have hP := hP.perm hPm
        have hD := hD.perm hPm
        have hal66 : mxB (4 * alK a.2.2.2.2.1 + alS a.2.2.2.2.1 a.1.2.2.length) (4 * alK a.2.2.2.2.1) (4 * (10 + 2 * a.1.2.2.length)) := al_costM hj5.1
        have haz66 := (al_cost hj5.1).2
        refine al_add (own := "TrustChain$CertificateReader") 0 _ q63 ar a.1.2.2.length a.2.2.2.2.2.1 cO a.2.2.2.2.1 rfl qn9_238 ⟨hx, hb, hml, hown, hts⟩ tbin q4_107 hN (hT0.keep hS hAs) hAs (Nat.le_trans hB0 hS.1) hA hK 1 rfl hP hD hS hj5.1 (by omega) (hj5.toF (fun q9 hq9 => List.mem_append_right _ (List.mem_append_right _ (List.mem_append_left _ hq9)))) ⟨5, _, rfl⟩ (Nat.le_of_ble_eq_true rfl) (Nat.le_of_ble_eq_true rfl) (by omega) (by have := mxU hal66; have h1 := mxU hj7b; have h2 := mxU hj8b; omega) hl.1 (Nat.le_of_ble_eq_true rfl) d_CertificateReader_readNames_66 (fun o66 m66 H66 locs hi66 hg66 hk66 he66 hf66 hv66 hP hD hS => ?_)
        have hk66 : mxB (alK o66) (alK a.2.2.2.2.1) (10 + 2 * a.1.2.2.length) := hk66
        have hsa66 : (3 * a.2.1 + 4 * (alK a.2.2.1 - alK o1) + 4 * (alK a.2.2.2.2.1 - alK o2)) + 3 + alS a.2.2.2.2.1 a.1.2.2.length ≤ (3 * ((en - x.1) / 2 + 1) + 8 * (10 + 2 * LB)) := by have := mxU hal66; have h1 := mxU hj7b; have h2 := mxU hj8b; omega
        clear hal66
        have hln66 : a.1.2.2.length + 1 = (a.1.2.2 ++ [(z63.2.2.1, z63.2.2.2)]).length := by rw [List.length_append]; rfl
        rw [hln66] at hP hD
        have hPm : List.Perm ((ar, .inr (11, [.ref (alO sb o66), .int (nI (a.1.2.2 ++ [(z63.2.2.1, z63.2.2.2)]).length), .int m66])) :: (alC cO o66 ++ (([(res, .inr (3, [.ref ns, .ref k1, .ref k2, .ref k3, .ref k4, .ref k5, .ref k6, .ref k7, .int k8, .int k9, .int k10, .int k11, .int k12, .int k13, .int k14, .int k15, .int k16, .int k17, .int k18, .ref k19, .ref k20, .ref k21, .ref k22, .ref k23, .ref k24, .long k25, .long k26, .int k27])), (ns, .inr (1, [.ref ad, .ref ar])), (ad, .inr (11, [.ref (alO sb a.2.2.1), .int (nI a.1.2.1.length), .int a.2.2.2.1])), (h, .inr (4, [.ref res, .ref t, .int (nI z63.1.1), .int (nI z63.1.2.1), .int (wI z63.1.2.2), .int (nI z63.2.1), .int ma, .int ex, .ref ki])), (t, .inl (cB, n, .inl (tx u))), (q63, .inr (0, [.ref t, .int (nI z63.2.2.1), .int (nI z63.2.2.2)]))] : va_W) ++ (alC cO a.2.2.1 ++ (a.2.2.2.2.2.2.1 ++ [])))) : va_W) (([(res, .inr (3, [.ref ns, .ref k1, .ref k2, .ref k3, .ref k4, .ref k5, .ref k6, .ref k7, .int k8, .int k9, .int k10, .int k11, .int k12, .int k13, .int k14, .int k15, .int k16, .int k17, .int k18, .ref k19, .ref k20, .ref k21, .ref k22, .ref k23, .ref k24, .long k25, .long k26, .int k27])), (ns, .inr (1, [.ref ad, .ref ar])), (ad, .inr (11, [.ref (alO sb a.2.2.1), .int (nI a.1.2.1.length), .int a.2.2.2.1])), (ar, .inr (11, [.ref (alO sb o66), .int (nI (a.1.2.2 ++ [(z63.2.2.1, z63.2.2.2)]).length), .int m66])), (h, .inr (4, [.ref res, .ref t, .int (nI z63.1.1), .int (nI z63.1.2.1), .int (wI z63.1.2.2), .int (nI z63.2.1), .int ma, .int ex, .ref ki])), (t, .inl (cB, n, .inl (tx u)))] : va_W) ++ (alC cO a.2.2.1 ++ (alC cO o66 ++ (a.2.2.2.2.2.2.1 ++ (([(q63, .inr (0, [.ref t, .int (nI z63.2.2.1), .int (nI z63.2.2.2)]))] : va_W) ++ []))))) := blk_perm (fun i => ([[(ar, .inr (11, [.ref (alO sb o66), .int (nI (a.1.2.2 ++ [(z63.2.2.1, z63.2.2.2)]).length), .int m66]))], alC cO o66, [(res, .inr (3, [.ref ns, .ref k1, .ref k2, .ref k3, .ref k4, .ref k5, .ref k6, .ref k7, .int k8, .int k9, .int k10, .int k11, .int k12, .int k13, .int k14, .int k15, .int k16, .int k17, .int k18, .ref k19, .ref k20, .ref k21, .ref k22, .ref k23, .ref k24, .long k25, .long k26, .int k27]))], [(ns, .inr (1, [.ref ad, .ref ar]))], [(ad, .inr (11, [.ref (alO sb a.2.2.1), .int (nI a.1.2.1.length), .int a.2.2.2.1]))], [(h, .inr (4, [.ref res, .ref t, .int (nI z63.1.1), .int (nI z63.1.2.1), .int (wI z63.1.2.2), .int (nI z63.2.1), .int ma, .int ex, .ref ki]))], [(t, .inl (cB, n, .inl (tx u)))], [(q63, .inr (0, [.ref t, .int (nI z63.2.2.1), .int (nI z63.2.2.2)]))], alC cO a.2.2.1, a.2.2.2.2.2.2.1] : List va_W).getD i []) [0, 1, 2, 3, 4, 5, 6, 7, 8, 9] [2, 3, 4, 0, 5, 6, 8, 1, 9, 7] rfl
        have hP := hP.perm hPm
        have hD := hD.perm hPm
        obtain ⟨pl66, hpl66⟩ : ∃ z : va_W, z = a.2.2.2.2.2.2.1 ++ [(q63, .inr (0, [.ref t, .int (nI z63.2.2.1), .int (nI z63.2.2.2)]))] := ⟨_, rfl⟩
        have hPe : (([(res, .inr (3, [.ref ns, .ref k1, .ref k2, .ref k3, .ref k4, .ref k5, .ref k6, .ref k7, .int k8, .int k9, .int k10, .int k11, .int k12, .int k13, .int k14, .int k15, .int k16, .int k17, .int k18, .ref k19, .ref k20, .ref k21, .ref k22, .ref k23, .ref k24, .long k25, .long k26, .int k27])), (ns, .inr (1, [.ref ad, .ref ar])), (ad, .inr (11, [.ref (alO sb a.2.2.1), .int (nI a.1.2.1.length), .int a.2.2.2.1])), (ar, .inr (11, [.ref (alO sb o66), .int (nI (a.1.2.2 ++ [(z63.2.2.1, z63.2.2.2)]).length), .int m66])), (h, .inr (4, [.ref res, .ref t, .int (nI z63.1.1), .int (nI z63.1.2.1), .int (wI z63.1.2.2), .int (nI z63.2.1), .int ma, .int ex, .ref ki])), (t, .inl (cB, n, .inl (tx u)))] : va_W) ++ (alC cO a.2.2.1 ++ (alC cO o66 ++ (a.2.2.2.2.2.2.1 ++ (([(q63, .inr (0, [.ref t, .int (nI z63.2.2.1), .int (nI z63.2.2.2)]))] : va_W) ++ []))))) = (([(res, .inr (3, [.ref ns, .ref k1, .ref k2, .ref k3, .ref k4, .ref k5, .ref k6, .ref k7, .int k8, .int k9, .int k10, .int k11, .int k12, .int k13, .int k14, .int k15, .int k16, .int k17, .int k18, .ref k19, .ref k20, .ref k21, .ref k22, .ref k23, .ref k24, .long k25, .long k26, .int k27])), (ns, .inr (1, [.ref ad, .ref ar])), (ad, .inr (11, [.ref (alO sb a.2.2.1), .int (nI a.1.2.1.length), .int a.2.2.2.1])), (ar, .inr (11, [.ref (alO sb o66), .int (nI (a.1.2.2 ++ [(z63.2.2.1, z63.2.2.2)]).length), .int m66])), (h, .inr (4, [.ref res, .ref t, .int (nI z63.1.1), .int (nI z63.1.2.1), .int (wI z63.1.2.2), .int (nI z63.2.1), .int ma, .int ex, .ref ki])), (t, .inl (cB, n, .inl (tx u)))] : va_W) ++ (alC cO a.2.2.1 ++ (alC cO o66 ++ (pl66 ++ [])))) := by rw [hpl66]; simp only [List.append_assoc]
        rw [hPe] at hP hD
        have hm66 : ∀ q ∈ a.2.2.2.2.2.2.1, q ∈ pl66 := fun q hq => by rw [hpl66]; exact List.mem_append_left _ hq
        have E66 : elS t n pl66 o66 (a.1.2.2 ++ [(z63.2.2.1, z63.2.2.2)]) := hj5.snoc hm66 hi66 hf66 hv66 (by rw [hpl66]; exact List.mem_append_right _ (List.mem_singleton.mpr rfl)) (by omega) (by omega)
        have E66_ad := hj4.mono hm66
        have hpm := fun q hq => hm66 q (hj6 q hq)
        refine lv_pop hx hb d_CertificateReader_readNames_69 rfl ?_
        refine lv_aload_n hx hb d_CertificateReader_readNames_70 rfl (lv_at hl 1 rfl) ?_
        refine lv_iload hx hb d_CertificateReader_readNames_71 (lv_at hl 0 rfl) ?_
        have hFc := va_free (wc := [(h, .inr (4, [.ref res, .ref t, .int (nI z63.1.1), .int (nI z63.1.2.1), .int (wI z63.1.2.2), .int (nI z63.2.1), .int ma, .int ex, .ref ki]))]) hD hS hA [4] rfl
        refine va_callv (mu_runU (As := [.int (nI z45.2)]) (rest := []) ⟨hx, hb, hml, hown, hts⟩ (cC_finish l dC dI sb h res t ki z63.1.1 z63.1.2.1 n z63.1.2.2 (nI z63.2.1) ma ex ie cB u z45.2 H66.size ((hi63.1).w hn) (by have := (hi63.1).1; omega) (by omega)) (cu_of (n := 1) hts tbin q3_159 q3_160 q3_163 q3_162 q1_15 q3_164 rfl (by decide +kernel) ⟨rfl, rfl⟩ ⟨Nat.le_of_ble_eq_true rfl, Nat.le_of_ble_eq_true rfl⟩) rfl ⟨by omega, by omega⟩ hN (hT0.keep hS hAs) hAs (Nat.le_trans hB0 hS.1) hK hP hD [4] (by decide) rfl [] rfl 4 4 rfl rfl rfl hl.1 rfl (Nat.le_of_ble_eq_true rfl) d_CertificateReader_readNames_73) hS (fun q _ h => hFc q h) hFc (fun u73 tS H73 locs ht hvm hw73 hB hz1 hk1 hS => ?_)
        obtain ⟨z73, rfl⟩ : ∃ z, z = u73 := ⟨_, rfl⟩
        obtain ⟨hP1, hK1, hD1⟩ := hB
        rw [ht] at hP1
        obtain ⟨hP, hD⟩ := va_joinQ (X := [(res, .inr (3, [.ref ns, .ref k1, .ref k2, .ref k3, .ref k4, .ref k5, .ref k6, .ref k7, .int k8, .int k9, .int k10, .int k11, .int k12, .int k13, .int k14, .int k15, .int k16, .int k17, .int k18, .ref k19, .ref k20, .ref k21, .ref k22, .ref k23, .ref k24, .long k25, .long k26, .int k27])), (ns, .inr (1, [.ref ad, .ref ar])), (ad, .inr (11, [.ref (alO sb a.2.2.1), .int (nI a.1.2.1.length), .int a.2.2.2.1])), (ar, .inr (11, [.ref (alO sb o66), .int (nI (a.1.2.2 ++ [(z63.2.2.1, z63.2.2.2)]).length), .int m66])), (h, .inr (4, [.ref res, .ref t, .int (nI z63.1.1), .int (nI z63.1.2.1), .int (wI z63.1.2.2), .int (nI z63.2.1), .int ma, .int ex, .ref ki])), (t, .inl (cB, n, .inl (tx u)))]) (pl := (alC cO a.2.2.1 ++ (alC cO o66 ++ (pl66 ++ [])))) (wr := [(res, .inr (3, [.ref ns, .ref k1, .ref k2, .ref k3, .ref k4, .ref k5, .ref k6, .ref k7, .int k8, .int k9, .int k10, .int k11, .int k12, .int k13, .int k14, .int k15, .int k16, .int k17, .int k18, .ref k19, .ref k20, .ref k21, .ref k22, .ref k23, .ref k24, .long k25, .long k26, .int k27])), (ns, .inr (1, [.ref ad, .ref ar])), (ad, .inr (11, [.ref (alO sb a.2.2.1), .int (nI a.1.2.1.length), .int a.2.2.2.1])), (ar, .inr (11, [.ref (alO sb o66), .int (nI (a.1.2.2 ++ [(z63.2.2.1, z63.2.2.2)]).length), .int m66])), (t, .inl (cB, n, .inl (tx u)))]) (w1 := [(h, .inr (4, [.ref res, .ref t, .int (nI z73.1), .int (nI z73.2.1), .int (wI z73.2.2), .int (nI z63.2.1), .int ma, .int ex, .ref ki]))]) hP hD [4] [0, 1, 2, 3, 5] rfl rfl (by decide) (by decide) hk1 hFc hP1 hD1
        have hP : va_P (dC, dI) classes (([(res, .inr (3, [.ref ns, .ref k1, .ref k2, .ref k3, .ref k4, .ref k5, .ref k6, .ref k7, .int k8, .int k9, .int k10, .int k11, .int k12, .int k13, .int k14, .int k15, .int k16, .int k17, .int k18, .ref k19, .ref k20, .ref k21, .ref k22, .ref k23, .ref k24, .long k25, .long k26, .int k27])), (ns, .inr (1, [.ref ad, .ref ar])), (ad, .inr (11, [.ref (alO sb a.2.2.1), .int (nI a.1.2.1.length), .int a.2.2.2.1])), (ar, .inr (11, [.ref (alO sb o66), .int (nI (a.1.2.2 ++ [(z63.2.2.1, z63.2.2.2)]).length), .int m66])), (t, .inl (cB, n, .inl (tx u))), (h, .inr (4, [.ref res, .ref t, .int (nI z73.1), .int (nI z73.2.1), .int (wI z73.2.2), .int (nI z63.2.1), .int ma, .int ex, .ref ki]))] : va_W) ++ (alC cO a.2.2.1 ++ (alC cO o66 ++ (pl66 ++ [])))) H73 := hP
        have hD : va_D A (([(res, .inr (3, [.ref ns, .ref k1, .ref k2, .ref k3, .ref k4, .ref k5, .ref k6, .ref k7, .int k8, .int k9, .int k10, .int k11, .int k12, .int k13, .int k14, .int k15, .int k16, .int k17, .int k18, .ref k19, .ref k20, .ref k21, .ref k22, .ref k23, .ref k24, .long k25, .long k26, .int k27])), (ns, .inr (1, [.ref ad, .ref ar])), (ad, .inr (11, [.ref (alO sb a.2.2.1), .int (nI a.1.2.1.length), .int a.2.2.2.1])), (ar, .inr (11, [.ref (alO sb o66), .int (nI (a.1.2.2 ++ [(z63.2.2.1, z63.2.2.2)]).length), .int m66])), (t, .inl (cB, n, .inl (tx u))), (h, .inr (4, [.ref res, .ref t, .int (nI z73.1), .int (nI z73.2.1), .int (wI z73.2.2), .int (nI z63.2.1), .int ma, .int ex, .ref ki]))] : va_W) ++ (alC cO a.2.2.1 ++ (alC cO o66 ++ (pl66 ++ [])))) := hD
        have hz73 : z73 = rd_fin z63.1 z45.2 := hw73
        have hi73 : rdInv n z73 := by rw [hz73]; exact fin_inv hi63.1
        have hb73 : z73.1 ≤ n := hi73.1
        refine lv_goto (tgt := 195) hx hb d_CertificateReader_readNames_76 (by decide) ?_
        refine lv_iinc (v := nI (a.2.1 + 1)) (lv' := [(3, .int (nI (a.2.1 + 1))), (4, .int (nI z45.2)), (0, .ref h), (2, .int (nI z4.2))]) hx hb d_CertificateReader_readNames_195 hl (k := 3) rfl (nI_1 _) (by decide) rfl (fun ls hl => ?_)
        refine lv_goto (tgt := 10) hx hb d_CertificateReader_readNames_198 (by decide) ?_
        have e9 : rb_nms u n z4.2 a.1 = (z73, a.1.2.1, (a.1.2.2 ++ [(z63.2.2.1, z63.2.2.2)])) := by
          subst hz73
          subst hz63
          subst hz45
          exact ((if_pos p37).trans rfl)
        have hpr := nmb_st2 u n z4.2 a.1
        rw [e9] at hpr
        have hpr : st2 a.1.1 z73 z4.2 := hpr
        obtain ⟨⟨hq1, hq2, hq3⟩, hq4⟩ := hpr
        have hlp := loop_go hj3 hk2 hcond
        rw [e9] at hlp
        refine W.widen (k := (2 * (a.2.1 + 1))) (n := (3 * (a.2.1 + 1) + 4 * (alK a.2.2.1 - alK o1) + 4 * (alK o66 - alK o2))) (by omega) (by omega) ?_
        exact ih ((z73, a.1.2.1, (a.1.2.2 ++ [(z63.2.2.1, z63.2.2.2)])), a.2.1 + 1, a.2.2.1, a.2.2.2.1, o66, m66, pl66, nI z63.2.1) _ _ ls (by show 2048 - (a.2.1 + 1) < 2048 - a.2.1; omega) (⟨hi73, hk2, hlp, E66_ad, E66, hpm, ⟨by show alK o1 ≤ alK a.2.2.1; omega, by have h1 := mxU hj7b; have h2 := mxU hj8b; have := mxU hk66; show alK a.2.2.1 ≤ max (alK o1) (10 + 2 * a.1.2.1.length); omega⟩, ⟨by show alK o2 ≤ alK o66; omega, by have h1 := mxU hj7b; have h2 := mxU hj8b; have := mxU hk66; show alK o66 ≤ max (alK o2) (10 + 2 * (a.1.2.2 ++ [(z63.2.2.1, z63.2.2.2)]).length); omega⟩, ⟨by show a.1.2.1.length ≤ D.length + (a.2.1 + 1); omega, by show (a.1.2.2 ++ [(z63.2.2.1, z63.2.2.2)]).length ≤ R.length + (a.2.1 + 1); omega⟩, ⟨by show z73.1 ≤ z4.2; omega, by show z4.1.1 ≤ z73.1; omega, by show z4.1.1 + 2 * (a.2.1 + 1) ≤ z73.1 + 2; omega, fun q9 => by have := hq4 q9; have := hj13 (hq3 q9); show z4.1.1 + 2 * (a.2.1 + 1) ≤ z73.1; omega⟩⟩) (hP.part [5, 4, 0, 1, 2, 3] rfl) (hD.part [5, 4, 0, 1, 2, 3] (by decide) rfl) hS (lv_sub hl [2, 3, 0] rfl)
    · skip
      refine lv_iload_n hx hb d_CertificateReader_readNames_17 rfl (lv_at hl 2 rfl) ?_
      refine lv_if_eq (tgt := 29) hx hb d_CertificateReader_readNames_18 (by decide) (fun c18 => ?_) (fun c18 => ?_)
      · have p18 : a.2.1 = 0 := ((nI_eq (a := a.2.1) (b := 0) (by omega) (by omega)).mp c18)
        exact k29 ls (Or.inl (by rw [p18]; rfl)) (lv_sub hl [0, 1, 2] rfl)
      · have p18 : ¬ (a.2.1 = 0) := (fun q9 => c18 ((nI_eq (a := a.2.1) (b := 0) (by omega) (by omega)).mpr q9))
        refine lv_aload_n hx hb d_CertificateReader_readNames_21 rfl (lv_at hl 0 rfl) ?_
        refine lv_iload_n hx hb d_CertificateReader_readNames_22 rfl (lv_at hl 1 rfl) ?_
        refine vp_callSi (pu_callU (As := [.int (nI z4.2)]) (rest := []) ⟨hx, hb, hml, hown, hts⟩ (cC_more l dC dI sb h res t ki a.1.1.1 a.1.1.2.1 n a.1.1.2.2 a.2.2.2.2.2.2.2 ma ex ie cB u z4.2 ((hj1).w hn) (by have := (hj1).1; omega) (by omega)) (cu_of (n := 1) hts tbin q4_103 q4_104 q3_197 q4_106 q1_15 q3_201 rfl (by decide +kernel) ⟨rfl, rfl⟩ ⟨Nat.le_of_ble_eq_true rfl, Nat.le_of_ble_eq_true rfl⟩) rfl ⟨by omega, by omega⟩ hN (hT0.keep hS hAs) hK hP [0] rfl [] rfl 0 4 rfl rfl rfl hl.1 rfl (Nat.le_of_ble_eq_true rfl) d_CertificateReader_readNames_23) (fun r23 hr23 => ?_)
        obtain rfl := bz_zP hr23
        refine lv_if_eq (tgt := 201) hx hb d_CertificateReader_readNames_26 (by decide) (fun c26 => ?_) (fun c26 => ?_)
        · have p26 : ¬ (a.1.1.2.2 = none ∧ a.1.1.1 < z4.2) := (zP_0.mp c26)
          have hT9 : a.1 = rd_nms u n x en D R := by
              have h7 := loop_at hj3 hk2 (fun h9 => h9.elim (fun h8 => p18 (eq_of_beq h8)) (fun h8 => p26 h8))
              subst hz4
              exact h7
          refine W.widen (k := (2 * ((en - x.1) / 2 + 1))) (n := (3 * ((en - x.1) / 2 + 1) + 8 * (10 + 2 * LB))) (by have h1 := mxU hw9; have h2 := mxU hj7b; have h3 := mxU hj8b; omega) (by have h1 := mxU hw9; have h2 := mxU hj7b; have h3 := mxU hj8b; omega) ?_
          exact W.vret hx hb hr (fun t ht hW => ⟨⟨(a.1, a.2.2), rfl, ⟨hT9, hj1, hj4, hj5, hj6, ⟨by show 2 * a.1.2.1.length + x.1 ≤ 2 * D.length + a.1.1.1 + 2; omega, by show 2 * a.1.2.2.length + x.1 ≤ 2 * R.length + a.1.1.1 + 2; omega⟩, fun h9 => by have := hj13 h9; exact ⟨by show 2 * a.1.2.1.length + x.1 ≤ 2 * D.length + a.1.1.1; omega, by show 2 * a.1.2.2.length + x.1 ≤ 2 * R.length + a.1.1.1; omega⟩⟩, by rw [ht]; exact hP, va_K.moved hW.alike hK, hD⟩, hS.F ht⟩) hS.2.2 d_CertificateReader_readNames_201
        · have p26 : a.1.1.2.2 = none ∧ a.1.1.1 < z4.2 := (zP_1 c26)
          exact k29 ls (Or.inr ⟨p26.1, p26.2⟩) (lv_sub hl [0, 1, 2] rfl)
