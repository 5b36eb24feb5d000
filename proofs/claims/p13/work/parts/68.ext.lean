/-! readExtensions: what it costs. -/
def wc (k : Nat) (w : Option Nat) (c : Nat) : Nat := if k = 0 then 0 else match w with | none => 0 | some _ => c
theorem wc_0 {k : Nat} {w : Option Nat} (c : Nat) (h : k = 0 ∨ w = none) : wc k w c = 0 := by
  unfold wc
  rcases h with h | h
  · rw [if_pos h]
  · rw [h]; split <;> rfl
theorem wc_le (k : Nat) (w : Option Nat) (c : Nat) : wc k w c ≤ c := by
  unfold wc
  split
  · omega
  · split <;> omega
theorem wc_s {k : Nat} {w : Option Nat} {c : Nat} (h : w ≠ none) : wc (k + 1) w c = c := by
  unfold wc
  rw [if_neg (by omega)]
  cases w with
  | none => exact absurd rfl h
  | some j => rfl
def gLB (LB : Nat) : Nat := 16 * (10 + 2 * LB)
noncomputable def flN (u : Nat → Nat) (K : List (Nat × Nat)) (kd : Int32) : Nat := @ite _ (∃ i, i < K.length ∧ kdN u (K.getD i (0, 0)).1 (K.getD i (0, 0)).2 = kd) (Classical.propDecidable _) 1 0
theorem fl_mono (u : Nat → Nat) (K : List (Nat × Nat)) (ab : Nat × Nat) (kd : Int32) : flN u K kd ≤ flN u (K ++ [ab]) kd := by
  unfold flN
  by_cases h : ∃ i, i < K.length ∧ kdN u (K.getD i (0, 0)).1 (K.getD i (0, 0)).2 = kd
  · have h2 : ∃ i, i < (K ++ [ab]).length ∧ kdN u ((K ++ [ab]).getD i (0, 0)).1 ((K ++ [ab]).getD i (0, 0)).2 = kd := by
      obtain ⟨i, hi, e⟩ := h
      exact ⟨i, by rw [List.length_append]; omega, by rw [(getD_snoc K ab (0, 0) i).1 hi]; exact e⟩
    rw [if_pos h, if_pos h2]
    exact Nat.le_refl _
  · rw [if_neg h]
    exact Nat.zero_le _
theorem fl_last (u : Nat → Nat) (K : List (Nat × Nat)) (a b : Nat) : flN u (K ++ [(a, b)]) (kdN u a b) = 1 := by
  unfold flN
  exact if_pos ⟨K.length, by rw [List.length_append]; exact Nat.lt_succ_self _, by rw [(getD_snoc K (a, b) (0, 0) K.length).2 rfl]⟩
theorem kd_form {u : Nat → Nat} {a b : Nat} {v : Int32} (h : kdN u a b = v) (hv : v ≠ -1) : b - a = 3 ∧ u a = 85 ∧ u (a + 1) = 29 ∧ nI (u (a + 2)) = v := by
  unfold kdN at h
  split at h
  · rename_i q
    exact ⟨q.1, q.2.1, q.2.2, h⟩
  · exact absurd h.symm hv
theorem kd_same {u : Nat → Nat} (hu : ∀ j, u j < 256) {a b c d : Nat} {v : Int32} (h : kdN u a b = v) (g : kdN u c d = v) (hv : v ≠ -1) : sameS u (c, d) a b := by
  obtain ⟨h1, h2, h3, h4⟩ := kd_form h hv
  obtain ⟨g1, g2, g3, g4⟩ := kd_form g hv
  have e : u (a + 2) = u (c + 2) := (nI_eq (by have := hu (a + 2); omega) (by have := hu (c + 2); omega)).mp (h4.trans g4.symm)
  refine ⟨by show d - c = b - a; omega, ?_⟩
  show eqN u u c a (d - c)
  rw [g1]
  intro j hj
  rcases (show j = 0 ∨ j = 1 ∨ j = 2 by omega) with rfl | rfl | rfl
  · show u c = u a; omega
  · show u (c + 1) = u (a + 1); omega
  · show u (c + 2) = u (a + 2); omega
theorem fl_cost {u : Nat → Nat} (hu : ∀ j, u j < 256) {K : List (Nat × Nat)} {a b LB : Nat} (h : ¬ repP u K a b) : lbC (kdN u a b) LB + gLB LB * (flN u K 17 + flN u K 30) ≤ gLB LB * (flN u (K ++ [(a, b)]) 17 + flN u (K ++ [(a, b)]) 30) := by
  have m1 := fl_mono u K (a, b) 17
  have m2 := fl_mono u K (a, b) 30
  by_cases h1 : kdN u a b = 17 ∨ kdN u a b = 30
  · have hl : lbC (kdN u a b) LB = gLB LB := if_pos h1
    have key : flN u K 17 + flN u K 30 + 1 ≤ flN u (K ++ [(a, b)]) 17 + flN u (K ++ [(a, b)]) 30 := by
      rcases h1 with h1 | h1
      · have z : flN u K 17 = 0 := if_neg (fun ⟨i, hi, e⟩ => h ⟨i, hi, kd_same hu h1 e (by decide)⟩)
        have o : flN u (K ++ [(a, b)]) 17 = 1 := by rw [← h1]; exact fl_last u K a b
        omega
      · have z : flN u K 30 = 0 := if_neg (fun ⟨i, hi, e⟩ => h ⟨i, hi, kd_same hu h1 e (by decide)⟩)
        have o : flN u (K ++ [(a, b)]) 30 = 1 := by rw [← h1]; exact fl_last u K a b
        omega
    rw [hl]
    have := Nat.mul_le_mul_left (gLB LB) key
    rw [Nat.mul_add, Nat.mul_one] at this
    omega
  · have hl : lbC (kdN u a b) LB = 0 := if_neg h1
    rw [hl, Nat.zero_add]
    exact Nat.mul_le_mul_left _ (by omega)
theorem lb_le (kd : Int32) (LB : Nat) : lbC kd LB ≤ gLB LB := by
  unfold lbC
  split
  · exact Nat.le_refl _
  · exact Nat.zero_le _
theorem fl_le (u : Nat → Nat) (K : List (Nat × Nat)) (kd : Int32) : flN u K kd ≤ 1 := by
  unfold flN
  split <;> omega
theorem ref_some (x : rS) (k : Nat) : (rd_ref x k).2.2 ≠ none := by
  obtain ⟨p, s, w⟩ := x
  cases w with
  | none => exact fun h => by cases h
  | some j => exact fun h => by cases h
/-- on from x, and so many octets further if nothing is wrong -/
def stN (c : Nat) (x y : rS) (en : Nat) : Prop := bd x y en ∧ (y.2.2 = none → x.1 + c ≤ y.1)
theorem stN.tr {c : Nat} {x y z : rS} {en e2 : Nat} (h : stN c x y en) (g : bd y z e2) (he : e2 ≤ max x.1 en) : stN c x z en := ⟨h.1.tr g he, fun q => Nat.le_trans (h.2 (g.2.2 q)) g.1⟩
theorem fin_at {x : rS} {e : Nat} (h : (rd_fin x e).2.2 = none) : e ≤ (rd_fin x e).1 ∧ x.2.2 = none := by
  obtain ⟨p, s, w⟩ := x
  cases w with
  | some j => cases h
  | none =>
    simp only [rd_fin] at h ⊢
    split at h
    · cases h
    · rename_i q
      rw [if_neg q]
      exact ⟨by show e ≤ p; omega, by trivial⟩
theorem lea_at {x : rS} {e : Nat} {bv : Int32} (h : (rd_lea x e bv).2.2 = none) : (rd_lea x e bv).1 = e ∧ x.2.2 = none := by
  obtain ⟨p, s, w⟩ := x
  cases w with
  | some j => cases h
  | none =>
    simp only [rd_lea] at h ⊢
    split at h
    · cases h
    · rename_i q
      rw [if_neg q]
      exact ⟨rfl, by trivial⟩
theorem flag_bd (u : Nat → Nat) (n : Nat) (x : rS) (en : Nat) : bd x (rd_flag u n x en) en := by
  have h1 := opn_bd u n x 1 en
  exact h1.1.tr (lea_bd _ _ _ h1.2.2.2.1) h1.2.2.1
theorem ext_chain {x a b c d e f g h y : rS} {en ea eb ee : Nat}
    (h1 : bd x a en) (h1' : a.2.2 = none → x.1 + 2 ≤ a.1) (he1 : ea ≤ max x.1 en) (h2 : bd a b ea) (h2' : b.2.2 = none → a.1 + 2 ≤ b.1) (he2 : eb ≤ max a.1 ea) (h3 : bd b c eb) (h4 : bd c d ea) (h5 : bd d e ea) (he5 : ee ≤ max d.1 ea) (h6 : bd e f ee) (h7 : bd f g ee) (h7' : g.2.2 = none → ee ≤ g.1) (h8 : bd g h ea) (h9 : bd h y en) :
    bd x y en ∧ (y.2.2 = none → x.1 + 4 ≤ e.1 ∧ ee ≤ y.1) := by
  obtain ⟨a1, a2, a3⟩ := h1
  obtain ⟨b1, b2, b3⟩ := h2
  obtain ⟨c1, c2, c3⟩ := h3
  obtain ⟨d1, d2, d3⟩ := h4
  obtain ⟨e1, e2, e3⟩ := h5
  obtain ⟨f1, f2, f3⟩ := h6
  obtain ⟨g1, g2, g3⟩ := h7
  obtain ⟨i1, i2, i3⟩ := h8
  obtain ⟨j1, j2, j3⟩ := h9
  refine ⟨⟨by omega, by omega, fun q => a3 (b3 (c3 (d3 (e3 (f3 (g3 (i3 (j3 q))))))))⟩, fun q => ?_⟩
  have qg := i3 (j3 q)
  have q1 := h7' qg
  have qb := c3 (d3 (e3 (f3 (g3 qg))))
  have q2 := h2' qb
  have q3 := h1' (b3 qb)
  exact ⟨by omega, by omega⟩
theorem ext_cells {Z p q e p1 k n : Nat} {w w' : Option Nat} (hZ : Z ≤ p) (hc : k = 0 ∨ w = none) (h1 : p ≤ q) (h2 : w' = none → p + 4 ≤ p1 ∧ e ≤ q) (h3 : e ≤ n) (h4 : p1 ≤ e) : 4 * (p - Z) + wc k w (2 * n + 12) + (4 * ((e - p1) / 2 + 1) + 4) ≤ 4 * (q - Z) + wc (k + 1) w' (2 * n + 12) := by
  rw [wc_0 _ hc]
  cases hw : w' with
  | none => have := h2 hw; omega
  | some j => rw [wc_s (by simp)]; omega
theorem ext_slots {Z p q e p1 k n G fK fK' lb : Nat} {w w' : Option Nat} (hZ : Z ≤ p) (hc : k = 0 ∨ w = none) (h1 : p ≤ q) (h2 : w' = none → p + 4 ≤ p1 ∧ e ≤ q) (h3 : e ≤ n) (h4 : p1 ≤ e) (h5 : lb + fK ≤ fK' ∨ (w' ≠ none ∧ lb ≤ G ∧ fK ≤ fK')) : 6 * (p - Z) + fK + wc k w (2 * G + 3 * n + 20) + (6 * ((e - p1) / 2 + 1) + lb + 9) ≤ 6 * (q - Z) + fK' + wc (k + 1) w' (2 * G + 3 * n + 20) := by
  rw [wc_0 _ hc]
  cases hw : w' with
  | none =>
    have := h2 hw
    rcases h5 with h5 | h5
    · omega
    · exact absurd hw h5.1
  | some j =>
    rw [wc_s (by simp)]
    rcases h5 with h5 | h5 <;> omega
def lnB (c : Prop) (a b : Nat) : Prop := c → a ≤ b
noncomputable def fG (u : Nat → Nat) (K : List (Nat × Nat)) (LB : Nat) : Nat := gLB LB * (flN u K 17 + flN u K 30)
theorem fG_nil (u : Nat → Nat) (LB : Nat) : fG u ([] : List (Nat × Nat)) LB = 0 := by
  have z : ∀ kd, flN u [] kd = 0 := fun kd => if_neg (fun ⟨i, hi, _⟩ => absurd hi (Nat.not_lt_zero i))
  unfold fG
  rw [z, z]
  rfl
theorem fG_le (u : Nat → Nat) (K : List (Nat × Nat)) (LB : Nat) : fG u K LB ≤ 2 * gLB LB := by
  have h1 := fl_le u K 17
  have h2 := fl_le u K 30
  unfold fG
  rw [Nat.mul_comm 2]
  exact Nat.mul_le_mul_left _ (by omega)
theorem nm_bd (u : Nat → Nat) (n : Nat) (x : rS) (tg en : Nat) : bd x (rd_nm u n x tg en).1 en := by
  have h1 := opn_bd u n x tg en
  exact h1.1.tr (lea_bd _ _ _ h1.2.2.2.1) h1.2.2.1
theorem iky_bd (u : Nat → Nat) (n : Nat) (x : rS) (en : Nat) : bd x (rd_iky u n x en).1 en := by
  have h1 := opn_bd u n x 48 en
  exact (h1.1.tr (plain_bd u n _ 128 1 _).1 h1.2.2.1).tr (fin_bd _ _ en) (Nat.le_max_right _ _)
theorem use_bd (u : Nat → Nat) (n : Nat) (x : rS) (en : Nat) : bd x (rd_use u n x en).1 en := by
  have h1 := opn_bd u n x 3 en
  exact h1.1.tr (lea_bd _ _ _ h1.2.2.2.1) h1.2.2.1
theorem bas_bd (u : Nat → Nat) (n : Nat) (x : rS) (en : Nat) (k : Int32) : bd x (rd_bas u n x en k).1 en := by
  have h1 := opn_bd u n x 48 en
  unfold rd_bas
  dsimp only
  generalize rd_opn u n x 48 en = z at h1 ⊢
  repeat' split
  · exact (((h1.1.tr (flag_bd u n _ _) h1.2.2.1).tr (nm_bd u n _ 2 _) h1.2.2.1).tr (req_bd _ _ en) (Nat.le_max_right _ _)).tr (fin_bd _ _ en) (Nat.le_max_right _ _)
  · exact (h1.1.tr (flag_bd u n _ _) h1.2.2.1).tr (fin_bd _ _ en) (Nat.le_max_right _ _)
  · exact ((h1.1.tr (nm_bd u n _ 2 _) h1.2.2.1).tr (req_bd _ _ en) (Nat.le_max_right _ _)).tr (fin_bd _ _ en) (Nat.le_max_right _ _)
  · exact h1.1.tr (fin_bd _ _ en) (Nat.le_max_right _ _)
theorem knL_bd (u : Nat → Nat) (n : Nat) (ie kd : Int32) (x : rS) (en : Nat) : bd x (rd_knL u n ie kd x en).1 en := by
  unfold rd_knL
  dsimp only
  repeat' split
  all_goals first
    | exact bd.rf _ _
    | exact iky_bd u n x en
    | exact (nm_bd u n x 2 en).tr (req_bd _ _ en) (Nat.le_max_right _ _)
    | exact (nm_bd u n x 10 en).tr (req_bd _ _ en) (Nat.le_max_right _ _)
theorem kn_bd (u : Nat → Nat) (n : Nat) (kd : Int32) (en : Nat) (x : rS) (ok ik : Nat × Nat) (ca pn us : Int32) (D1 D2 D3 D4 D5 D6 : List (Nat × Nat)) : bd x (rd_kn u n kd en x ok ik ca pn us D1 D2 D3 D4 D5 D6).1.1 en := by
  have h1 := opn_bd u n x 48 en
  unfold rd_kn
  dsimp only
  repeat' split
  all_goals first
    | exact bd.rf _ _
    | exact (plain_bd u n x 4 1 en).1
    | exact use_bd u n x en
    | exact nms_bd u n x en D1 D2
    | exact bas_bd u n x en pn
    | exact iky_bd u n x en
    | exact ((h1.1.tr (trs_bd u n _ 160 _ D3 D4) h1.2.2.1).tr (trs_bd u n _ 161 _ D5 D6) h1.2.2.1).tr (fin_bd _ _ en) (Nat.le_max_right _ _)
    | exact (h1.1.tr (trs_bd u n _ 160 _ D3 D4) h1.2.2.1).tr (fin_bd _ _ en) (Nat.le_max_right _ _)
    | exact (h1.1.tr (trs_bd u n _ 161 _ D5 D6) h1.2.2.1).tr (fin_bd _ _ en) (Nat.le_max_right _ _)
    | exact h1.1.tr (fin_bd _ _ en) (Nat.le_max_right _ _)
def y_Reader_readExtensions : MethodName := ⟨"TrustChain$Reader", "readExtensions", "(I)V"⟩
abbrev b_Reader_readExtensions : ByteArray := prog_8_method_19_code
def w_Reader_readExtensions : List Cond := Cond.code y_Reader_readExtensions b_Reader_readExtensions 10 (none) :: tb
theorem d_Reader_readExtensions_0 : decode b_Reader_readExtensions 0 = .ok (.aload_n 0, 1) := by decide +kernel
theorem d_Reader_readExtensions_1 : decode b_Reader_readExtensions 1 = .ok (.bipush 48, 2) := by decide +kernel
theorem d_Reader_readExtensions_3 : decode b_Reader_readExtensions 3 = .ok (.iload_n 1, 1) := by decide +kernel
theorem d_Reader_readExtensions_4 : decode b_Reader_readExtensions 4 = .ok (.invokevirtual 49, 3) := by decide +kernel
theorem d_Reader_readExtensions_7 : decode b_Reader_readExtensions 7 = .ok (.istore_n 2, 1) := by decide +kernel
theorem d_Reader_readExtensions_8 : decode b_Reader_readExtensions 8 = .ok (.aload_n 0, 1) := by decide +kernel
theorem d_Reader_readExtensions_9 : decode b_Reader_readExtensions 9 = .ok (.getfield 33, 3) := by decide +kernel
theorem d_Reader_readExtensions_12 : decode b_Reader_readExtensions 12 = .ok (.invokevirtual 106, 3) := by decide +kernel
theorem d_Reader_readExtensions_15 : decode b_Reader_readExtensions 15 = .ok (.iconst 0, 1) := by decide +kernel
theorem d_Reader_readExtensions_16 : decode b_Reader_readExtensions 16 = .ok (.istore_n 3, 1) := by decide +kernel
theorem d_Reader_readExtensions_17 : decode b_Reader_readExtensions 17 = .ok (.iload_n 3, 1) := by decide +kernel
theorem d_Reader_readExtensions_18 : decode b_Reader_readExtensions 18 = .ok (.sipush 2048, 3) := by decide +kernel
theorem d_Reader_readExtensions_21 : decode b_Reader_readExtensions 21 = .ok (.if_icmp .ge 200, 3) := by decide +kernel
theorem d_Reader_readExtensions_24 : decode b_Reader_readExtensions 24 = .ok (.iload_n 3, 1) := by decide +kernel
theorem d_Reader_readExtensions_25 : decode b_Reader_readExtensions 25 = .ok (.ifCond .eq 11, 3) := by decide +kernel
theorem d_Reader_readExtensions_28 : decode b_Reader_readExtensions 28 = .ok (.aload_n 0, 1) := by decide +kernel
theorem d_Reader_readExtensions_29 : decode b_Reader_readExtensions 29 = .ok (.iload_n 2, 1) := by decide +kernel
theorem d_Reader_readExtensions_30 : decode b_Reader_readExtensions 30 = .ok (.invokevirtual 41, 3) := by decide +kernel
theorem d_Reader_readExtensions_33 : decode b_Reader_readExtensions 33 = .ok (.ifCond .eq 188, 3) := by decide +kernel
theorem d_Reader_readExtensions_36 : decode b_Reader_readExtensions 36 = .ok (.aload_n 0, 1) := by decide +kernel
theorem d_Reader_readExtensions_37 : decode b_Reader_readExtensions 37 = .ok (.getfield 9, 3) := by decide +kernel
theorem d_Reader_readExtensions_40 : decode b_Reader_readExtensions 40 = .ok (.istore 4, 2) := by decide +kernel
theorem d_Reader_readExtensions_42 : decode b_Reader_readExtensions 42 = .ok (.aload_n 0, 1) := by decide +kernel
theorem d_Reader_readExtensions_43 : decode b_Reader_readExtensions 43 = .ok (.bipush 48, 2) := by decide +kernel
theorem d_Reader_readExtensions_45 : decode b_Reader_readExtensions 45 = .ok (.iload_n 2, 1) := by decide +kernel
theorem d_Reader_readExtensions_46 : decode b_Reader_readExtensions 46 = .ok (.invokevirtual 49, 3) := by decide +kernel
theorem d_Reader_readExtensions_49 : decode b_Reader_readExtensions 49 = .ok (.istore 5, 2) := by decide +kernel
theorem d_Reader_readExtensions_51 : decode b_Reader_readExtensions 51 = .ok (.aload_n 0, 1) := by decide +kernel
theorem d_Reader_readExtensions_52 : decode b_Reader_readExtensions 52 = .ok (.bipush 6, 2) := by decide +kernel
theorem d_Reader_readExtensions_54 : decode b_Reader_readExtensions 54 = .ok (.iload 5, 2) := by decide +kernel
theorem d_Reader_readExtensions_56 : decode b_Reader_readExtensions 56 = .ok (.invokevirtual 49, 3) := by decide +kernel
theorem d_Reader_readExtensions_59 : decode b_Reader_readExtensions 59 = .ok (.istore 6, 2) := by decide +kernel
theorem d_Reader_readExtensions_61 : decode b_Reader_readExtensions 61 = .ok (.new 57, 3) := by decide +kernel
theorem d_Reader_readExtensions_64 : decode b_Reader_readExtensions 64 = .ok (.dup, 1) := by decide +kernel
theorem d_Reader_readExtensions_65 : decode b_Reader_readExtensions 65 = .ok (.aload_n 0, 1) := by decide +kernel
theorem d_Reader_readExtensions_66 : decode b_Reader_readExtensions 66 = .ok (.getfield 37, 3) := by decide +kernel
theorem d_Reader_readExtensions_69 : decode b_Reader_readExtensions 69 = .ok (.aload_n 0, 1) := by decide +kernel
theorem d_Reader_readExtensions_70 : decode b_Reader_readExtensions 70 = .ok (.getfield 9, 3) := by decide +kernel
theorem d_Reader_readExtensions_73 : decode b_Reader_readExtensions 73 = .ok (.iload 6, 2) := by decide +kernel
theorem d_Reader_readExtensions_75 : decode b_Reader_readExtensions 75 = .ok (.invokespecial 59, 3) := by decide +kernel
theorem d_Reader_readExtensions_78 : decode b_Reader_readExtensions 78 = .ok (.astore 7, 2) := by decide +kernel
theorem d_Reader_readExtensions_80 : decode b_Reader_readExtensions 80 = .ok (.aload_n 0, 1) := by decide +kernel
theorem d_Reader_readExtensions_81 : decode b_Reader_readExtensions 81 = .ok (.iload 6, 2) := by decide +kernel
theorem d_Reader_readExtensions_83 : decode b_Reader_readExtensions 83 = .ok (.aload_n 0, 1) := by decide +kernel
theorem d_Reader_readExtensions_84 : decode b_Reader_readExtensions 84 = .ok (.aload_n 0, 1) := by decide +kernel
theorem d_Reader_readExtensions_85 : decode b_Reader_readExtensions 85 = .ok (.getfield 9, 3) := by decide +kernel
theorem d_Reader_readExtensions_88 : decode b_Reader_readExtensions 88 = .ok (.iload 6, 2) := by decide +kernel
theorem d_Reader_readExtensions_90 : decode b_Reader_readExtensions 90 = .ok (.invokevirtual 85, 3) := by decide +kernel
theorem d_Reader_readExtensions_93 : decode b_Reader_readExtensions 93 = .ok (.invokevirtual 53, 3) := by decide +kernel
theorem d_Reader_readExtensions_96 : decode b_Reader_readExtensions 96 = .ok (.aload_n 0, 1) := by decide +kernel
theorem d_Reader_readExtensions_97 : decode b_Reader_readExtensions 97 = .ok (.iconst 1, 1) := by decide +kernel
theorem d_Reader_readExtensions_98 : decode b_Reader_readExtensions 98 = .ok (.iload 5, 2) := by decide +kernel
theorem d_Reader_readExtensions_100 : decode b_Reader_readExtensions 100 = .ok (.invokevirtual 89, 3) := by decide +kernel
theorem d_Reader_readExtensions_103 : decode b_Reader_readExtensions 103 = .ok (.istore 8, 2) := by decide +kernel
theorem d_Reader_readExtensions_105 : decode b_Reader_readExtensions 105 = .ok (.iload 8, 2) := by decide +kernel
theorem d_Reader_readExtensions_107 : decode b_Reader_readExtensions 107 = .ok (.ifCond .eq 9, 3) := by decide +kernel
theorem d_Reader_readExtensions_110 : decode b_Reader_readExtensions 110 = .ok (.aload_n 0, 1) := by decide +kernel
theorem d_Reader_readExtensions_111 : decode b_Reader_readExtensions 111 = .ok (.iload 5, 2) := by decide +kernel
theorem d_Reader_readExtensions_113 : decode b_Reader_readExtensions 113 = .ok (.invokevirtual 109, 3) := by decide +kernel
theorem d_Reader_readExtensions_116 : decode b_Reader_readExtensions 116 = .ok (.aload_n 0, 1) := by decide +kernel
theorem d_Reader_readExtensions_117 : decode b_Reader_readExtensions 117 = .ok (.iconst 4, 1) := by decide +kernel
theorem d_Reader_readExtensions_118 : decode b_Reader_readExtensions 118 = .ok (.iload 5, 2) := by decide +kernel
theorem d_Reader_readExtensions_120 : decode b_Reader_readExtensions 120 = .ok (.invokevirtual 49, 3) := by decide +kernel
theorem d_Reader_readExtensions_123 : decode b_Reader_readExtensions 123 = .ok (.istore 9, 2) := by decide +kernel
theorem d_Reader_readExtensions_125 : decode b_Reader_readExtensions 125 = .ok (.aload_n 0, 1) := by decide +kernel
theorem d_Reader_readExtensions_126 : decode b_Reader_readExtensions 126 = .ok (.aload 7, 2) := by decide +kernel
theorem d_Reader_readExtensions_128 : decode b_Reader_readExtensions 128 = .ok (.invokestatic 112, 3) := by decide +kernel
theorem d_Reader_readExtensions_131 : decode b_Reader_readExtensions 131 = .ok (.iload 9, 2) := by decide +kernel
theorem d_Reader_readExtensions_133 : decode b_Reader_readExtensions 133 = .ok (.invokevirtual 116, 3) := by decide +kernel
theorem d_Reader_readExtensions_136 : decode b_Reader_readExtensions 136 = .ok (.ifCond .eq 12, 3) := by decide +kernel
theorem d_Reader_readExtensions_139 : decode b_Reader_readExtensions 139 = .ok (.aload_n 0, 1) := by decide +kernel
theorem d_Reader_readExtensions_140 : decode b_Reader_readExtensions 140 = .ok (.iload 9, 2) := by decide +kernel
theorem d_Reader_readExtensions_142 : decode b_Reader_readExtensions 142 = .ok (.invokevirtual 81, 3) := by decide +kernel
theorem d_Reader_readExtensions_145 : decode b_Reader_readExtensions 145 = .ok (.goto 29, 3) := by decide +kernel
theorem d_Reader_readExtensions_148 : decode b_Reader_readExtensions 148 = .ok (.aload_n 0, 1) := by decide +kernel
theorem d_Reader_readExtensions_149 : decode b_Reader_readExtensions 149 = .ok (.iload 9, 2) := by decide +kernel
theorem d_Reader_readExtensions_151 : decode b_Reader_readExtensions 151 = .ok (.iconst 1, 1) := by decide +kernel
theorem d_Reader_readExtensions_152 : decode b_Reader_readExtensions 152 = .ok (.invokevirtual 53, 3) := by decide +kernel
theorem d_Reader_readExtensions_155 : decode b_Reader_readExtensions 155 = .ok (.aload_n 0, 1) := by decide +kernel
theorem d_Reader_readExtensions_156 : decode b_Reader_readExtensions 156 = .ok (.dup, 1) := by decide +kernel
theorem d_Reader_readExtensions_157 : decode b_Reader_readExtensions 157 = .ok (.getfield 24, 3) := by decide +kernel
theorem d_Reader_readExtensions_160 : decode b_Reader_readExtensions 160 = .ok (.iload 8, 2) := by decide +kernel
theorem d_Reader_readExtensions_162 : decode b_Reader_readExtensions 162 = .ok (.ifCond .eq 7, 3) := by decide +kernel
theorem d_Reader_readExtensions_165 : decode b_Reader_readExtensions 165 = .ok (.iconst 1, 1) := by decide +kernel
theorem d_Reader_readExtensions_166 : decode b_Reader_readExtensions 166 = .ok (.goto 4, 3) := by decide +kernel
theorem d_Reader_readExtensions_169 : decode b_Reader_readExtensions 169 = .ok (.iconst 0, 1) := by decide +kernel
theorem d_Reader_readExtensions_170 : decode b_Reader_readExtensions 170 = .ok (.iadd, 1) := by decide +kernel
theorem d_Reader_readExtensions_171 : decode b_Reader_readExtensions 171 = .ok (.putfield 24, 3) := by decide +kernel
theorem d_Reader_readExtensions_174 : decode b_Reader_readExtensions 174 = .ok (.aload_n 0, 1) := by decide +kernel
theorem d_Reader_readExtensions_175 : decode b_Reader_readExtensions 175 = .ok (.iload 5, 2) := by decide +kernel
theorem d_Reader_readExtensions_177 : decode b_Reader_readExtensions 177 = .ok (.invokevirtual 81, 3) := by decide +kernel
theorem d_Reader_readExtensions_180 : decode b_Reader_readExtensions 180 = .ok (.aload_n 0, 1) := by decide +kernel
theorem d_Reader_readExtensions_181 : decode b_Reader_readExtensions 181 = .ok (.aload 7, 2) := by decide +kernel
theorem d_Reader_readExtensions_183 : decode b_Reader_readExtensions 183 = .ok (.invokevirtual 119, 3) := by decide +kernel
theorem d_Reader_readExtensions_186 : decode b_Reader_readExtensions 186 = .ok (.ifCond .eq 9, 3) := by decide +kernel
theorem d_Reader_readExtensions_189 : decode b_Reader_readExtensions 189 = .ok (.aload_n 0, 1) := by decide +kernel
theorem d_Reader_readExtensions_190 : decode b_Reader_readExtensions 190 = .ok (.iload 4, 2) := by decide +kernel
theorem d_Reader_readExtensions_192 : decode b_Reader_readExtensions 192 = .ok (.invokevirtual 103, 3) := by decide +kernel
theorem d_Reader_readExtensions_195 : decode b_Reader_readExtensions 195 = .ok (.aload_n 0, 1) := by decide +kernel
theorem d_Reader_readExtensions_196 : decode b_Reader_readExtensions 196 = .ok (.getfield 33, 3) := by decide +kernel
theorem d_Reader_readExtensions_199 : decode b_Reader_readExtensions 199 = .ok (.aload 7, 2) := by decide +kernel
theorem d_Reader_readExtensions_201 : decode b_Reader_readExtensions 201 = .ok (.invokevirtual 123, 3) := by decide +kernel
theorem d_Reader_readExtensions_204 : decode b_Reader_readExtensions 204 = .ok (.pop, 1) := by decide +kernel
theorem d_Reader_readExtensions_205 : decode b_Reader_readExtensions 205 = .ok (.aload_n 0, 1) := by decide +kernel
theorem d_Reader_readExtensions_206 : decode b_Reader_readExtensions 206 = .ok (.dup, 1) := by decide +kernel
theorem d_Reader_readExtensions_207 : decode b_Reader_readExtensions 207 = .ok (.getfield 27, 3) := by decide +kernel
theorem d_Reader_readExtensions_210 : decode b_Reader_readExtensions 210 = .ok (.iconst 1, 1) := by decide +kernel
theorem d_Reader_readExtensions_211 : decode b_Reader_readExtensions 211 = .ok (.iadd, 1) := by decide +kernel
theorem d_Reader_readExtensions_212 : decode b_Reader_readExtensions 212 = .ok (.putfield 27, 3) := by decide +kernel
theorem d_Reader_readExtensions_215 : decode b_Reader_readExtensions 215 = .ok (.iinc 3 1, 3) := by decide +kernel
theorem d_Reader_readExtensions_218 : decode b_Reader_readExtensions 218 = .ok (.goto (-201), 3) := by decide +kernel
theorem d_Reader_readExtensions_221 : decode b_Reader_readExtensions 221 = .ok (.return_, 1) := by decide +kernel
set_option maxHeartbeats 4000000 in
set_option maxRecDepth 100000 in
theorem cL_readExtensions (l : Launch) (dC : Nat → ClassId) (dI : Nat → Nat → Nat) (sb : sB) (h res t ki n : Nat) (x : rS) (pa ma ex ie : Int32) (cB : ClassId) (u : Nat → Nat) (en : Nat) (D70 : List (Nat × Nat)) (o70 : alD) (m70 : Int32) (pl : va_W) (cO : ClassId) (sz : Nat) (hu : ∀ j, u j < 256) (hn : n < 2 ^ 30) (hi : rdInv n x) (he : en ≤ n) (hE70 : elS t n pl o70 D70) (hn2 : n < 2 ^ 20) : Met l y_Reader_readExtensions w_Reader_readExtensions ({ frames := 7, cells := (3 * ((en - x.1) / 4 + 1)), slots := (6 * ((en - x.1) / 4 + 1) + 4 * (10 + 2 * ((en - x.1) / 4 + 1))), locals := 230 }) (mu_P [.ref h, .int (nI en)] (dC, dI) sb (([(h, .inr (5, [.ref res, .int ie, .ref t, .int (nI x.1), .int (nI x.2.1), .int (wI x.2.2), .int pa, .int ma, .int ex, .ref ki])), (t, .inl (cB, n, .inl (tx u))), (ki, .inr (11, [.ref (alO sb o70), .int (nI D70.length), .int m70]))] : va_W) ++ (alC cO o70 ++ (pl ++ []))) [(cB, .byte), (cO, .object "java/lang/Object")] sz) (va_Qv (fun (u' : (rS × Int32 × Int32 × (List (Nat × Nat))) × alD × Int32 × va_W) => u'.1 = rd_extL u n ie x en ma ex  ∧ rdInv n u'.1.1 ∧ elS t n u'.2.2.2 u'.2.1 u'.1.2.2.2 ∧ (∀ q ∈ pl, q ∈ u'.2.2.2)) (mu_B (dC, dI) [(cB, .byte), (cO, .object "java/lang/Object")] (va_A (([(h, .inr (5, [.ref res, .int ie, .ref t, .int (nI x.1), .int (nI x.2.1), .int (wI x.2.2), .int pa, .int ma, .int ex, .ref ki])), (t, .inl (cB, n, .inl (tx u))), (ki, .inr (11, [.ref (alO sb o70), .int (nI D70.length), .int m70]))] : va_W) ++ (alC cO o70 ++ (pl ++ []))) sz) (fun u' : (rS × Int32 × Int32 × (List (Nat × Nat))) × alD × Int32 × va_W => (([(h, .inr (5, [.ref res, .int ie, .ref t, .int (nI u'.1.1.1), .int (nI u'.1.1.2.1), .int (wI u'.1.1.2.2), .int pa, .int u'.1.2.1, .int u'.1.2.2.1, .ref ki])), (t, .inl (cB, n, .inl (tx u))), (ki, .inr (11, [.ref (alO sb u'.2.1), .int (nI u'.1.2.2.2.length), .int u'.2.2.1]))] : va_W) ++ (alC cO u'.2.1 ++ (u'.2.2.2 ++ []))))) (va_A (([(h, .inr (5, [.ref res, .int ie, .ref t, .int (nI x.1), .int (nI x.2.1), .int (wI x.2.2), .int pa, .int ma, .int ex, .ref ki])), (t, .inl (cB, n, .inl (tx u))), (ki, .inr (11, [.ref (alO sb o70), .int (nI D70.length), .int m70]))] : va_W) ++ (alC cO o70 ++ (pl ++ []))) sz)) (3 * ((en - x.1) / 4 + 1)) (6 * ((en - x.1) / 4 + 1) + 4 * (10 + 2 * ((en - x.1) / 4 + 1))) (va_A (([(h, .inr (5, [.ref res, .int ie, .ref t, .int (nI x.1), .int (nI x.2.1), .int (wI x.2.2), .int pa, .int ma, .int ex, .ref ki])), (t, .inl (cB, n, .inl (tx u))), (ki, .inr (11, [.ref (alO sb o70), .int (nI D70.length), .int m70]))] : va_W) ++ (alC cO o70 ++ (pl ++ []))) sz) := by
  refine Met.ofW (cc := b_Reader_readExtensions) (maxL := 10) (ret := none) (by decide) rfl ?_
  intro p e s m args below meth c s₁ B hml hv
  obtain ⟨rfl, hsz, hB0, hP, hK, hD0, hN, hT0⟩ := hv
  have hx := B.exec
  have hb := B.bytes
  have hr := B.returns
  have hts := atoms_spec (ws := w_Reader_readExtensions) B.pre
  have tbin : ∀ w ∈ tb, w ∈ w_Reader_readExtensions := fun w h => List.mem_cons_of_mem _ h
  have htb : ∀ w ∈ tb, w.before _ s = true := fun w h => hts w (tbin w h)
  have hown : s.vm.findClass "TrustChain$Reader" = some m.cls := findClass_of_methodNamed B.named
  have hlocks := B.notSynchronized
  subst hsz
  have hD := hD0.self (sz := s.heap.size)
  generalize hAe : va_A (([(h, .inr (5, [.ref res, .int ie, .ref t, .int (nI x.1), .int (nI x.2.1), .int (wI x.2.2), .int pa, .int ma, .int ex, .ref ki])), (t, .inl (cB, n, .inl (tx u))), (ki, .inr (11, [.ref (alO sb o70), .int (nI D70.length), .int m70]))] : va_W) ++ (alC cO o70 ++ (pl ++ []))) s.heap.size = A at hD ⊢
  have hA : ∀ q : Nat, s.heap.size ≤ q → A q := fun q h => by rw [← hAe]; exact Or.inr h
  have hAs : ∀ q : Nat, A q → sb.1 ≤ q := fun q h => by
    rw [← hAe] at h
    rcases h with ⟨k, e, h⟩ | h
    · exact hD0.2 k _ h
    · exact Nat.le_trans hB0 h
  have hS : va_S A s.heap s.heap [] := va_S.rf
  have hcs : (3 * ((en - x.1) / 4 + 1)) ≤ (headSpec w_Reader_readExtensions ({ frames := 7, cells := (3 * ((en - x.1) / 4 + 1)), slots := (6 * ((en - x.1) / 4 + 1) + 4 * (10 + 2 * ((en - x.1) / 4 + 1))), locals := 230 })).room.cells ∧ (6 * ((en - x.1) / 4 + 1) + 4 * (10 + 2 * ((en - x.1) / 4 + 1))) ≤ (headSpec w_Reader_readExtensions ({ frames := 7, cells := (3 * ((en - x.1) / 4 + 1)), slots := (6 * ((en - x.1) / 4 + 1) + 4 * (10 + 2 * ((en - x.1) / 4 + 1))), locals := 230 })).room.slots := ⟨Nat.le_refl _, Nat.le_refl _⟩
  change va_P (dC, dI) classes (([(h, .inr (5, [.ref res, .int ie, .ref t, .int (nI x.1), .int (nI x.2.1), .int (wI x.2.2), .int pa, .int ma, .int ex, .ref ki])), (t, .inl (cB, n, .inl (tx u))), (ki, .inr (11, [.ref (alO sb o70), .int (nI D70.length), .int m70]))] : va_W) ++ (alC cO o70 ++ (pl ++ []))) s.heap at hP
  have hl := lv_entry ([.ref h, .int (nI en)]) (n := 10) (Nat.le_of_ble_eq_true rfl)
  rw [lg_entry_eq]
  generalize (lg_sl ([.ref h, .int (nI en)]) ++ List.replicate (10 - (lg_sl ([.ref h, .int (nI en)])).length) Slot.unset).toArray = ls at hl ⊢
  change lv_has ls 10 [(0, .ref h), (1, .int (nI en))] at hl
  refine lv_aload_n hx hb d_Reader_readExtensions_0 rfl (lv_at hl 0 rfl) ?_
  refine lv_bipush (v := 48) hx hb d_Reader_readExtensions_1 (by decide) ?_
  refine lv_iload_n hx hb d_Reader_readExtensions_3 rfl (lv_at hl 1 rfl) ?_
  have hFc := va_free (wc := [(h, .inr (5, [.ref res, .int ie, .ref t, .int (nI x.1), .int (nI x.2.1), .int (wI x.2.2), .int pa, .int ma, .int ex, .ref ki])), (t, .inl (cB, n, .inl (tx u)))]) hD hS hA [0, 1] rfl
  refine va_calli (mu_runU (As := [.int 48, .int (nI en)]) (rest := []) ⟨hx, hb, hml, hown, hts⟩ (cL_open l dC dI sb h res t ki x.1 x.2.1 n x.2.2 pa ma ex ie cB u 48 en s.heap.size hu hn ((hi).w hn) (by omega) (hi).1 (by decide)) (cu_of (n := 2) hts tbin q3_130 q9_192 q3_112 q9_194 q1_15 q3_113 rfl (by decide +kernel) ⟨rfl, rfl⟩ ⟨Nat.le_of_ble_eq_true rfl, Nat.le_of_ble_eq_true rfl⟩) rfl ⟨by omega, by omega⟩ hN (hT0.keep hS hAs) hAs (Nat.le_trans hB0 hS.1) hK hP hD [0, 1] (by decide) rfl [0] rfl 0 5 rfl rfl rfl hl.1 rfl (Nat.le_of_ble_eq_true rfl) d_Reader_readExtensions_4) hS (fun q _ h => hFc q h) hFc (fun r4 u4 tS H4 locs ht hvm hw4 hB hz1 hk1 hS => ?_)
  obtain ⟨x4, rfl⟩ : ∃ z, z = u4 := ⟨_, rfl⟩
  obtain ⟨hP1, hK1, hD1⟩ := hB
  rw [ht] at hP1
  obtain ⟨hP, hD⟩ := va_joinQ (X := [(h, .inr (5, [.ref res, .int ie, .ref t, .int (nI x.1), .int (nI x.2.1), .int (wI x.2.2), .int pa, .int ma, .int ex, .ref ki])), (t, .inl (cB, n, .inl (tx u))), (ki, .inr (11, [.ref (alO sb o70), .int (nI D70.length), .int m70]))]) (pl := (alC cO o70 ++ (pl ++ []))) (wr := [(ki, .inr (11, [.ref (alO sb o70), .int (nI D70.length), .int m70]))]) (w1 := [(h, .inr (5, [.ref res, .int ie, .ref t, .int (nI x4.1), .int (nI x4.2.1), .int (wI x4.2.2), .int pa, .int ma, .int ex, .ref ki])), (t, .inl (cB, n, .inl (tx u)))]) hP hD [0, 1] [2] rfl rfl (by decide) (by decide) hk1 hFc hP1 hD1
  change va_P (dC, dI) classes (([(ki, .inr (11, [.ref (alO sb o70), .int (nI D70.length), .int m70])), (h, .inr (5, [.ref res, .int ie, .ref t, .int (nI x4.1), .int (nI x4.2.1), .int (wI x4.2.2), .int pa, .int ma, .int ex, .ref ki])), (t, .inl (cB, n, .inl (tx u)))] : va_W) ++ (alC cO o70 ++ (pl ++ []))) H4 at hP
  change va_D A (([(ki, .inr (11, [.ref (alO sb o70), .int (nI D70.length), .int m70])), (h, .inr (5, [.ref res, .int ie, .ref t, .int (nI x4.1), .int (nI x4.2.1), .int (wI x4.2.2), .int pa, .int ma, .int ex, .ref ki])), (t, .inl (cB, n, .inl (tx u)))] : va_W) ++ (alC cO o70 ++ (pl ++ []))) at hD
  change x4 = (rd_opn u n x 48 en).1 ∧ r4 = nI (rd_opn u n x 48 en).2 at hw4
  have hi4 := opn_inv (u := u) (tg := 48) hi (show en ≤ n by omega)
  obtain ⟨z4, hz4⟩ : ∃ o, o = rd_opn u n x 48 en := ⟨_, rfl⟩
  rw [← hz4] at hw4 hi4
  obtain ⟨rfl, rfl⟩ := hw4
  have hb4 : z4.1.1 ≤ n := hi4.1.1
  have hc4 : z4.1.1 ≤ z4.2 := hi4.2.1
  have hd4 : z4.2 ≤ n := hi4.2.2.1
  change va_P (dC, dI) classes (([(ki, .inr (11, [.ref (alO sb o70), .int (nI D70.length), .int m70])), (h, .inr (5, [.ref res, .int ie, .ref t, .int (nI z4.1.1), .int (nI z4.1.2.1), .int (wI z4.1.2.2), .int pa, .int ma, .int ex, .ref ki])), (t, .inl (cB, n, .inl (tx u)))] : va_W) ++ (alC cO o70 ++ (pl ++ []))) H4 at hP
  change va_D A (([(ki, .inr (11, [.ref (alO sb o70), .int (nI D70.length), .int m70])), (h, .inr (5, [.ref res, .int ie, .ref t, .int (nI z4.1.1), .int (nI z4.1.2.1), .int (wI z4.1.2.2), .int pa, .int ma, .int ex, .ref ki])), (t, .inl (cB, n, .inl (tx u)))] : va_W) ++ (alC cO o70 ++ (pl ++ []))) at hD
  refine lv_istore_n (lv' := [(2, .int (nI z4.2)), (0, .ref h), (1, .int (nI en))]) hx hb d_Reader_readExtensions_7 rfl hl (by decide) rfl (fun ls hl => ?_)
  refine lv_aload_n hx hb d_Reader_readExtensions_8 rfl (lv_at hl 1 rfl) ?_
  refine va_get (v := .ref ki) hx hb htb i_ListReader hown hK hP 1 rfl rfl 9 (by decide) (htb _ q3_84) (fun _ h9 => h9) rfl d_Reader_readExtensions_9 ?_
  have hPm : List.Perm ((([(ki, .inr (11, [.ref (alO sb o70), .int (nI D70.length), .int m70])), (h, .inr (5, [.ref res, .int ie, .ref t, .int (nI z4.1.1), .int (nI z4.1.2.1), .int (wI z4.1.2.2), .int pa, .int ma, .int ex, .ref ki])), (t, .inl (cB, n, .inl (tx u)))] : va_W) ++ (alC cO o70 ++ (pl ++ []))) : va_W) ((ki, .inr (11, [.ref (alO sb o70), .int (nI D70.length), .int m70])) :: (alC cO o70 ++ (([(h, .inr (5, [.ref res, .int ie, .ref t, .int (nI z4.1.1), .int (nI z4.1.2.1), .int (wI z4.1.2.2), .int pa, .int ma, .int ex, .ref ki]))] : va_W) ++ (([(t, .inl (cB, n, .inl (tx u)))] : va_W) ++ (pl ++ []))))) := ((fun (b0 b1 b2 b3 b4 : va_W) => (blk_perm (fun i => ([b0, b1, b2, b3, b4] : List va_W).getD i []) [0, 1, 2, 3, 4] [0, 3, 1, 2, 4] rfl : List.Perm (b0 ++ (b1 ++ (b2 ++ (b3 ++ (b4 ++ []))))) (b0 ++ (b3 ++ (b1 ++ (b2 ++ (b4 ++ []))))))) ([(ki, .inr (11, [.ref (alO sb o70), .int (nI D70.length), .int m70]))]) ([(h, .inr (5, [.ref res, .int ie, .ref t, .int (nI z4.1.1), .int (nI z4.1.2.1), .int (wI z4.1.2.2), .int pa, .int ma, .int ex, .ref ki]))]) ([(t, .inl (cB, n, .inl (tx u)))]) (alC cO o70) (pl))
  have hP := hP.perm hPm
  have hD := hD.perm hPm
  refine al_clear (own := "TrustChain$Reader") ki D70.length m70 cO o70 ⟨hx, hb, hml, hown, hts⟩ tbin q4_62 hN (hT0.keep hS hAs) hAs (Nat.le_trans hB0 hS.1) hA hK 1 rfl hP hD hS hE70.1 (Nat.le_of_ble_eq_true rfl) (Nat.le_of_ble_eq_true rfl) (by omega) (by omega) hl.1 (Nat.le_of_ble_eq_true rfl) d_Reader_readExtensions_12 (fun o7c m7c Hc locs hic hkc hP hD hS => ?_)
  change va_P (dC, dI) classes ((ki, .inr (11, [.ref (alO sb o7c), .int (nI ([] : List (Nat × Nat)).length), .int m7c])) :: (alC cO o7c ++ (([(h, .inr (5, [.ref res, .int ie, .ref t, .int (nI z4.1.1), .int (nI z4.1.2.1), .int (wI z4.1.2.2), .int pa, .int ma, .int ex, .ref ki]))] : va_W) ++ (([(t, .inl (cB, n, .inl (tx u)))] : va_W) ++ (pl ++ []))))) Hc at hP
  change va_D A ((ki, .inr (11, [.ref (alO sb o7c), .int (nI ([] : List (Nat × Nat)).length), .int m7c])) :: (alC cO o7c ++ (([(h, .inr (5, [.ref res, .int ie, .ref t, .int (nI z4.1.1), .int (nI z4.1.2.1), .int (wI z4.1.2.2), .int pa, .int ma, .int ex, .ref ki]))] : va_W) ++ (([(t, .inl (cB, n, .inl (tx u)))] : va_W) ++ (pl ++ []))))) at hD
  have hPm : List.Perm (((ki, .inr (11, [.ref (alO sb o7c), .int (nI ([] : List (Nat × Nat)).length), .int m7c])) :: (alC cO o7c ++ (([(h, .inr (5, [.ref res, .int ie, .ref t, .int (nI z4.1.1), .int (nI z4.1.2.1), .int (wI z4.1.2.2), .int pa, .int ma, .int ex, .ref ki]))] : va_W) ++ (([(t, .inl (cB, n, .inl (tx u)))] : va_W) ++ (pl ++ []))))) : va_W) (([(ki, .inr (11, [.ref (alO sb o7c), .int (nI ([] : List (Nat × Nat)).length), .int m7c])), (h, .inr (5, [.ref res, .int ie, .ref t, .int (nI z4.1.1), .int (nI z4.1.2.1), .int (wI z4.1.2.2), .int pa, .int ma, .int ex, .ref ki])), (t, .inl (cB, n, .inl (tx u)))] : va_W) ++ (alC cO o7c ++ (pl ++ []))) := ((fun (b0 b1 b2 b3 b4 : va_W) => (blk_perm (fun i => ([b0, b1, b2, b3, b4] : List va_W).getD i []) [0, 1, 2, 3, 4] [0, 2, 3, 1, 4] rfl : List.Perm (b0 ++ (b1 ++ (b2 ++ (b3 ++ (b4 ++ []))))) (b0 ++ (b2 ++ (b3 ++ (b1 ++ (b4 ++ []))))))) ([(ki, .inr (11, [.ref (alO sb o7c), .int (nI ([] : List (Nat × Nat)).length), .int m7c]))]) (alC cO o7c) ([(h, .inr (5, [.ref res, .int ie, .ref t, .int (nI z4.1.1), .int (nI z4.1.2.1), .int (wI z4.1.2.2), .int pa, .int ma, .int ex, .ref ki]))]) ([(t, .inl (cB, n, .inl (tx u)))]) (pl))
  have hP := hP.perm hPm
  have hD := hD.perm hPm
  change va_P (dC, dI) classes (([(ki, .inr (11, [.ref (alO sb o7c), .int (nI ([] : List (Nat × Nat)).length), .int m7c])), (h, .inr (5, [.ref res, .int ie, .ref t, .int (nI z4.1.1), .int (nI z4.1.2.1), .int (wI z4.1.2.2), .int pa, .int ma, .int ex, .ref ki])), (t, .inl (cB, n, .inl (tx u)))] : va_W) ++ (alC cO o7c ++ (pl ++ []))) Hc at hP
  change va_D A (([(ki, .inr (11, [.ref (alO sb o7c), .int (nI ([] : List (Nat × Nat)).length), .int m7c])), (h, .inr (5, [.ref res, .int ie, .ref t, .int (nI z4.1.1), .int (nI z4.1.2.1), .int (wI z4.1.2.2), .int pa, .int ma, .int ex, .ref ki])), (t, .inl (cB, n, .inl (tx u)))] : va_W) ++ (alC cO o7c ++ (pl ++ []))) at hD
  have hE7c : elS t n pl o7c [] := ⟨hic, fun i hi => absurd hi (Nat.not_lt_zero i)⟩
  refine lv_iconst (v := 0) hx hb d_Reader_readExtensions_15 (by decide) ?_
  refine lv_istore_n (lv' := [(3, .int 0), (2, .int (nI z4.2)), (0, .ref h), (1, .int (nI en))]) hx hb d_Reader_readExtensions_16 rfl hl (by decide) rfl (fun ls hl => ?_)
  obtain ⟨N9, hN9⟩ : ∃ o, o = 2048 := ⟨_, rfl⟩
  refine W.widen (k := (3 * 0)) (n := (6 * 0 + 4 * (alK o7c - alK o70))) (by omega) (by omega) ?_
  refine w_loopC (α := (rS × Int32 × Int32 × (List (Nat × Nat))) × Nat × alD × Int32 × va_W) (fun a => (rdInv n a.1.1) ∧ (a.2.1 ≤ 2048) ∧ (loopF (rb_extL u n ie z4.2) (fun s => mr s.1 z4.2) (N9 - a.2.1) (a.2.1 == 0) a.1 = loopF (rb_extL u n ie z4.2) (fun s => mr s.1 z4.2) N9 true (z4.1, ma, ex, ([] : List (Nat × Nat)))) ∧ (elS t n a.2.2.2.2 a.2.2.1 a.1.2.2.2) ∧ (∀ q ∈ pl, q ∈ a.2.2.2.2) ∧ (alK o70 ≤ alK a.2.2.1) ∧ (mxB (alK a.2.2.1) (alK o70) (10 + 2 * a.1.2.2.2.length)) ∧ (a.1.2.2.2.length = a.2.1) ∧ (a.1.1.1 ≤ z4.2) ∧ (z4.1.1 ≤ a.1.1.1) ∧ (lnB (a.1.1.2.2 = none ∨ a.2.1 = 0) (z4.1.1 + 4 * a.2.1) a.1.1.1) ∧ (z4.1.1 + 4 * a.2.1 ≤ a.1.1.1 + 4)) (fun a => 2048 - a.2.1) (fun a => [(0, .ref h), (2, .int (nI z4.2)), (3, .int (nI a.2.1))]) (fun _ => []) (fun a => (([(h, .inr (5, [.ref res, .int ie, .ref t, .int (nI a.1.1.1), .int (nI a.1.1.2.1), .int (wI a.1.1.2.2), .int pa, .int a.1.2.1, .int a.1.2.2.1, .ref ki])), (t, .inl (cB, n, .inl (tx u))), (ki, .inr (11, [.ref (alO sb a.2.2.1), .int (nI a.1.2.2.2.length), .int a.2.2.2.1]))] : va_W) ++ (alC cO a.2.2.1 ++ (a.2.2.2.2 ++ [])))) (fun a => (3 * a.2.1)) (fun a => (6 * a.2.1 + 4 * (alK a.2.2.1 - alK o70))) 10 17 (fun a HL17 locs ls hJ hP hD hS hl ih => ?_) ((z4.1, ma, ex, ([] : List (Nat × Nat))), 0, o7c, m7c, pl) _ _ ls (⟨hi4.1, Nat.zero_le _, (show loopF (rb_extL u n ie z4.2) (fun s => mr s.1 z4.2) (N9 - 0) (0 == 0) (z4.1, ma, ex, ([] : List (Nat × Nat))) = loopF (rb_extL u n ie z4.2) (fun s => mr s.1 z4.2) N9 true (z4.1, ma, ex, ([] : List (Nat × Nat))) from congrArg (fun f9 => loopF (rb_extL u n ie z4.2) (fun s => mr s.1 z4.2) f9 true (z4.1, ma, ex, ([] : List (Nat × Nat)))) (Nat.sub_zero _)), hE7c, fun q hq => hq, by show alK o70 ≤ alK o7c; omega, by show alK o7c ≤ max (alK o70) _; omega, rfl, hc4, Nat.le_refl _, fun _ => by show z4.1.1 + 4 * 0 ≤ z4.1.1; omega, by show z4.1.1 + 4 * 0 ≤ z4.1.1 + 4; omega⟩) (hP.part [1, 2, 0] rfl) (hD.part [1, 2, 0] (by decide) rfl) hS (lv_sub hl [2, 1, 0] rfl)
  change va_P (dC, dI) classes (([(h, .inr (5, [.ref res, .int ie, .ref t, .int (nI a.1.1.1), .int (nI a.1.1.2.1), .int (wI a.1.1.2.2), .int pa, .int a.1.2.1, .int a.1.2.2.1, .ref ki])), (t, .inl (cB, n, .inl (tx u))), (ki, .inr (11, [.ref (alO sb a.2.2.1), .int (nI a.1.2.2.2.length), .int a.2.2.2.1]))] : va_W) ++ (alC cO a.2.2.1 ++ (a.2.2.2.2 ++ []))) HL17 at hP
  change va_D A (([(h, .inr (5, [.ref res, .int ie, .ref t, .int (nI a.1.1.1), .int (nI a.1.1.2.1), .int (wI a.1.1.2.2), .int pa, .int a.1.2.1, .int a.1.2.2.1, .ref ki])), (t, .inl (cB, n, .inl (tx u))), (ki, .inr (11, [.ref (alO sb a.2.2.1), .int (nI a.1.2.2.2.length), .int a.2.2.2.1]))] : va_W) ++ (alC cO a.2.2.1 ++ (a.2.2.2.2 ++ []))) at hD
  obtain ⟨hj0, hj1, hj2, hj3, hj4, hj5, hj6, hj7, hj8, hj9, hj10, hj11⟩ := hJ
  have hxn : a.1.1.1 ≤ n := hj0.1
  have hop9 := opn_bd u n x 48 en
  rw [← hz4] at hop9
  have hw9 : mxB z4.2 x.1 en := hop9.2.2.1
  have hw8 := hop9.1.1
  clear hop9
  have hkk : a.2.1 ≤ ((en - x.1) / 4 + 1) := by have := mxU hw9; omega
  have hsl0 : (6 * a.2.1 + 4 * (alK a.2.2.1 - alK o70)) ≤ (6 * ((en - x.1) / 4 + 1) + 4 * (10 + 2 * ((en - x.1) / 4 + 1))) := by have h1 := mxU hj6; omega
  refine lv_iload_n hx hb d_Reader_readExtensions_17 rfl (lv_at hl 2 rfl) ?_
  refine lv_sipush (v := 2048) hx hb d_Reader_readExtensions_18 (by decide) ?_
  refine lv_icmp_ge (tgt := 221) hx hb d_Reader_readExtensions_21 (by decide) (fun c21 => ?_) (fun c21 => ?_)
  · have p21 : 2048 ≤ a.2.1 := ((nI_leI (a := 2048) (b := a.2.1) (by omega) (by omega)).mp c21)
    have hT9 : a.1 = rd_extL u n ie x en ma ex  := by
        have h7 := loop_end hj2 (by omega)
        subst hN9
        subst hz4
        exact h7
    refine W.widen (k := (3 * ((en - x.1) / 4 + 1))) (n := (6 * ((en - x.1) / 4 + 1) + 4 * (10 + 2 * ((en - x.1) / 4 + 1)))) (by omega) (by omega) ?_
    exact W.vret hx hb hr (fun t ht hW => ⟨⟨(a.1, a.2.2), rfl, ⟨hT9, hj0, hj3, hj4⟩, by rw [ht]; exact hP, va_K.moved hW.alike hK, hD⟩, hS.F ht⟩) hS.2.2 d_Reader_readExtensions_221
  · have p21 : ¬ (2048 ≤ a.2.1) := (fun q9 => c21 ((nI_leI (a := 2048) (b := a.2.1) (by omega) (by omega)).mpr q9))
    have hk2 : a.2.1 < 2048 := by omega
    refine w_cutJ (J := (a.2.1 == 0) = true ∨ mr a.1.1 z4.2) (nL := 10) (lv := [(0, .ref h), (2, .int (nI z4.2)), (3, .int (nI a.2.1))]) (pcJ := 36) (st := []) (fun ls hcond hl => ?_) (fun k36 => ?_)
    · skip
      have hnk : a.2.1 = 0 ∨ a.1.1.2.2 = none := hcond.elim (fun h9 => Or.inl (eq_of_beq h9)) (fun h9 => Or.inr h9.1)
      have hp4 : z4.1.1 + 4 * a.2.1 ≤ a.1.1.1 := hj10 hnk.symm
      have hkb : a.2.1 + 1 ≤ ((en - x.1) / 4 + 1) := by
        rcases hcond with h9 | ⟨h9, h8⟩
        · have := eq_of_beq h9; omega
        · have := mxU hw9; have h8 : a.1.1.1 < _ := h8; omega
      have hsl : (6 * a.2.1 + 4 * (alK a.2.2.1 - alK o70)) + 6 ≤ (6 * ((en - x.1) / 4 + 1) + 4 * (10 + 2 * ((en - x.1) / 4 + 1))) := by have h1 := mxU hj6; omega
      refine lv_aload_n hx hb d_Reader_readExtensions_36 rfl (lv_at hl 0 rfl) ?_
      refine va_get (v := .int (nI a.1.1.1)) hx hb htb i_ListReader hown hK hP 0 rfl rfl 3 (by decide) (htb _ q3_62) (fun _ h9 => h9) rfl d_Reader_readExtensions_37 ?_
      refine lv_istore (lv' := [(4, .int (nI a.1.1.1)), (0, .ref h), (2, .int (nI z4.2)), (3, .int (nI a.2.1))]) hx hb d_Reader_readExtensions_40 hl (by decide) rfl (fun ls hl => ?_)
      refine lv_aload_n hx hb d_Reader_readExtensions_42 rfl (lv_at hl 1 rfl) ?_
      refine lv_bipush (v := 48) hx hb d_Reader_readExtensions_43 (by decide) ?_
      refine lv_iload_n hx hb d_Reader_readExtensions_45 rfl (lv_at hl 2 rfl) ?_
      have hFc := va_free (wc := [(h, .inr (5, [.ref res, .int ie, .ref t, .int (nI a.1.1.1), .int (nI a.1.1.2.1), .int (wI a.1.1.2.2), .int pa, .int a.1.2.1, .int a.1.2.2.1, .ref ki])), (t, .inl (cB, n, .inl (tx u)))]) hD hS hA [0, 1] rfl
      refine va_calli (mu_runU (As := [.int 48, .int (nI z4.2)]) (rest := []) ⟨hx, hb, hml, hown, hts⟩ (cL_open l dC dI sb h res t ki a.1.1.1 a.1.1.2.1 n a.1.1.2.2 pa a.1.2.1 a.1.2.2.1 ie cB u 48 z4.2 HL17.size hu hn ((hj0).w hn) (by omega) (hj0).1 (by decide)) (cu_of (n := 2) hts tbin q3_130 q9_192 q3_112 q9_194 q1_15 q3_113 rfl (by decide +kernel) ⟨rfl, rfl⟩ ⟨Nat.le_of_ble_eq_true rfl, Nat.le_of_ble_eq_true rfl⟩) rfl ⟨by omega, by omega⟩ hN (hT0.keep hS hAs) hAs (Nat.le_trans hB0 hS.1) hK hP hD [0, 1] (by decide) rfl [0] rfl 0 5 rfl rfl rfl hl.1 rfl (Nat.le_of_ble_eq_true rfl) d_Reader_readExtensions_46) hS (fun q _ h => hFc q h) hFc (fun r46 u46 tS H46 locs ht hvm hw46 hB hz1 hk1 hS => ?_)
      obtain ⟨x46, rfl⟩ : ∃ z, z = u46 := ⟨_, rfl⟩
      obtain ⟨hP1, hK1, hD1⟩ := hB
      rw [ht] at hP1
      obtain ⟨hP, hD⟩ := va_joinQ (X := [(h, .inr (5, [.ref res, .int ie, .ref t, .int (nI a.1.1.1), .int (nI a.1.1.2.1), .int (wI a.1.1.2.2), .int pa, .int a.1.2.1, .int a.1.2.2.1, .ref ki])), (t, .inl (cB, n, .inl (tx u))), (ki, .inr (11, [.ref (alO sb a.2.2.1), .int (nI a.1.2.2.2.length), .int a.2.2.2.1]))]) (pl := (alC cO a.2.2.1 ++ (a.2.2.2.2 ++ []))) (wr := [(ki, .inr (11, [.ref (alO sb a.2.2.1), .int (nI a.1.2.2.2.length), .int a.2.2.2.1]))]) (w1 := [(h, .inr (5, [.ref res, .int ie, .ref t, .int (nI x46.1), .int (nI x46.2.1), .int (wI x46.2.2), .int pa, .int a.1.2.1, .int a.1.2.2.1, .ref ki])), (t, .inl (cB, n, .inl (tx u)))]) hP hD [0, 1] [2] rfl rfl (by decide) (by decide) hk1 hFc hP1 hD1
      change va_P (dC, dI) classes (([(ki, .inr (11, [.ref (alO sb a.2.2.1), .int (nI a.1.2.2.2.length), .int a.2.2.2.1])), (h, .inr (5, [.ref res, .int ie, .ref t, .int (nI x46.1), .int (nI x46.2.1), .int (wI x46.2.2), .int pa, .int a.1.2.1, .int a.1.2.2.1, .ref ki])), (t, .inl (cB, n, .inl (tx u)))] : va_W) ++ (alC cO a.2.2.1 ++ (a.2.2.2.2 ++ []))) H46 at hP
      change va_D A (([(ki, .inr (11, [.ref (alO sb a.2.2.1), .int (nI a.1.2.2.2.length), .int a.2.2.2.1])), (h, .inr (5, [.ref res, .int ie, .ref t, .int (nI x46.1), .int (nI x46.2.1), .int (wI x46.2.2), .int pa, .int a.1.2.1, .int a.1.2.2.1, .ref ki])), (t, .inl (cB, n, .inl (tx u)))] : va_W) ++ (alC cO a.2.2.1 ++ (a.2.2.2.2 ++ []))) at hD
      change x46 = (rd_opn u n a.1.1 48 z4.2).1 ∧ r46 = nI (rd_opn u n a.1.1 48 z4.2).2 at hw46
      have hi46 := opn_inv (u := u) (tg := 48) hj0 (show z4.2 ≤ n by omega)
      obtain ⟨z46, hz46⟩ : ∃ o, o = rd_opn u n a.1.1 48 z4.2 := ⟨_, rfl⟩
      rw [← hz46] at hw46 hi46
      obtain ⟨rfl, rfl⟩ := hw46
      have hb46 : z46.1.1 ≤ n := hi46.1.1
      have hc46 : z46.1.1 ≤ z46.2 := hi46.2.1
      have hd46 : z46.2 ≤ n := hi46.2.2.1
      change va_P (dC, dI) classes (([(ki, .inr (11, [.ref (alO sb a.2.2.1), .int (nI a.1.2.2.2.length), .int a.2.2.2.1])), (h, .inr (5, [.ref res, .int ie, .ref t, .int (nI z46.1.1), .int (nI z46.1.2.1), .int (wI z46.1.2.2), .int pa, .int a.1.2.1, .int a.1.2.2.1, .ref ki])), (t, .inl (cB, n, .inl (tx u)))] : va_W) ++ (alC cO a.2.2.1 ++ (a.2.2.2.2 ++ []))) H46 at hP
      change va_D A (([(ki, .inr (11, [.ref (alO sb a.2.2.1), .int (nI a.1.2.2.2.length), .int a.2.2.2.1])), (h, .inr (5, [.ref res, .int ie, .ref t, .int (nI z46.1.1), .int (nI z46.1.2.1), .int (wI z46.1.2.2), .int pa, .int a.1.2.1, .int a.1.2.2.1, .ref ki])), (t, .inl (cB, n, .inl (tx u)))] : va_W) ++ (alC cO a.2.2.1 ++ (a.2.2.2.2 ++ []))) at hD
      refine lv_istore (lv' := [(5, .int (nI z46.2)), (4, .int (nI a.1.1.1)), (0, .ref h), (2, .int (nI z4.2)), (3, .int (nI a.2.1))]) hx hb d_Reader_readExtensions_49 hl (by decide) rfl (fun ls hl => ?_)
      refine lv_aload_n hx hb d_Reader_readExtensions_51 rfl (lv_at hl 2 rfl) ?_
      refine lv_bipush (v := 6) hx hb d_Reader_readExtensions_52 (by decide) ?_
      refine lv_iload hx hb d_Reader_readExtensions_54 (lv_at hl 0 rfl) ?_
      have hFc := va_free (wc := [(h, .inr (5, [.ref res, .int ie, .ref t, .int (nI z46.1.1), .int (nI z46.1.2.1), .int (wI z46.1.2.2), .int pa, .int a.1.2.1, .int a.1.2.2.1, .ref ki])), (t, .inl (cB, n, .inl (tx u)))]) hD hS hA [1, 2] rfl
      refine va_calli (mu_runU (As := [.int 6, .int (nI z46.2)]) (rest := []) ⟨hx, hb, hml, hown, hts⟩ (cL_open l dC dI sb h res t ki z46.1.1 z46.1.2.1 n z46.1.2.2 pa a.1.2.1 a.1.2.2.1 ie cB u 6 z46.2 H46.size hu hn ((hi46.1).w hn) (by omega) (hi46.1).1 (by decide)) (cu_of (n := 2) hts tbin q3_130 q9_192 q3_112 q9_194 q1_15 q3_113 rfl (by decide +kernel) ⟨rfl, rfl⟩ ⟨Nat.le_of_ble_eq_true rfl, Nat.le_of_ble_eq_true rfl⟩) rfl ⟨by omega, by omega⟩ hN (hT0.keep hS hAs) hAs (Nat.le_trans hB0 hS.1) hK hP hD [1, 2] (by decide) rfl [0] rfl 1 5 rfl rfl rfl hl.1 rfl (Nat.le_of_ble_eq_true rfl) d_Reader_readExtensions_56) hS (fun q _ h => hFc q h) hFc (fun r56 u56 tS H56 locs ht hvm hw56 hB hz1 hk1 hS => ?_)
      obtain ⟨x56, rfl⟩ : ∃ z, z = u56 := ⟨_, rfl⟩
      obtain ⟨hP1, hK1, hD1⟩ := hB
      rw [ht] at hP1
      obtain ⟨hP, hD⟩ := va_joinQ (X := [(ki, .inr (11, [.ref (alO sb a.2.2.1), .int (nI a.1.2.2.2.length), .int a.2.2.2.1])), (h, .inr (5, [.ref res, .int ie, .ref t, .int (nI z46.1.1), .int (nI z46.1.2.1), .int (wI z46.1.2.2), .int pa, .int a.1.2.1, .int a.1.2.2.1, .ref ki])), (t, .inl (cB, n, .inl (tx u)))]) (pl := (alC cO a.2.2.1 ++ (a.2.2.2.2 ++ []))) (wr := [(ki, .inr (11, [.ref (alO sb a.2.2.1), .int (nI a.1.2.2.2.length), .int a.2.2.2.1]))]) (w1 := [(h, .inr (5, [.ref res, .int ie, .ref t, .int (nI x56.1), .int (nI x56.2.1), .int (wI x56.2.2), .int pa, .int a.1.2.1, .int a.1.2.2.1, .ref ki])), (t, .inl (cB, n, .inl (tx u)))]) hP hD [1, 2] [0] rfl rfl (by decide) (by decide) hk1 hFc hP1 hD1
      change va_P (dC, dI) classes (([(ki, .inr (11, [.ref (alO sb a.2.2.1), .int (nI a.1.2.2.2.length), .int a.2.2.2.1])), (h, .inr (5, [.ref res, .int ie, .ref t, .int (nI x56.1), .int (nI x56.2.1), .int (wI x56.2.2), .int pa, .int a.1.2.1, .int a.1.2.2.1, .ref ki])), (t, .inl (cB, n, .inl (tx u)))] : va_W) ++ (alC cO a.2.2.1 ++ (a.2.2.2.2 ++ []))) H56 at hP
      change va_D A (([(ki, .inr (11, [.ref (alO sb a.2.2.1), .int (nI a.1.2.2.2.length), .int a.2.2.2.1])), (h, .inr (5, [.ref res, .int ie, .ref t, .int (nI x56.1), .int (nI x56.2.1), .int (wI x56.2.2), .int pa, .int a.1.2.1, .int a.1.2.2.1, .ref ki])), (t, .inl (cB, n, .inl (tx u)))] : va_W) ++ (alC cO a.2.2.1 ++ (a.2.2.2.2 ++ []))) at hD
      change x56 = (rd_opn u n z46.1 6 z46.2).1 ∧ r56 = nI (rd_opn u n z46.1 6 z46.2).2 at hw56
      have hi56 := opn_inv (u := u) (tg := 6) hi46.1 (show z46.2 ≤ n by omega)
      obtain ⟨z56, hz56⟩ : ∃ o, o = rd_opn u n z46.1 6 z46.2 := ⟨_, rfl⟩
      rw [← hz56] at hw56 hi56
      obtain ⟨rfl, rfl⟩ := hw56
      have hb56 : z56.1.1 ≤ n := hi56.1.1
      have hc56 : z56.1.1 ≤ z56.2 := hi56.2.1
      have hd56 : z56.2 ≤ n := hi56.2.2.1
      change va_P (dC, dI) classes (([(ki, .inr (11, [.ref (alO sb a.2.2.1), .int (nI a.1.2.2.2.length), .int a.2.2.2.1])), (h, .inr (5, [.ref res, .int ie, .ref t, .int (nI z56.1.1), .int (nI z56.1.2.1), .int (wI z56.1.2.2), .int pa, .int a.1.2.1, .int a.1.2.2.1, .ref ki])), (t, .inl (cB, n, .inl (tx u)))] : va_W) ++ (alC cO a.2.2.1 ++ (a.2.2.2.2 ++ []))) H56 at hP
      change va_D A (([(ki, .inr (11, [.ref (alO sb a.2.2.1), .int (nI a.1.2.2.2.length), .int a.2.2.2.1])), (h, .inr (5, [.ref res, .int ie, .ref t, .int (nI z56.1.1), .int (nI z56.1.2.1), .int (wI z56.1.2.2), .int pa, .int a.1.2.1, .int a.1.2.2.1, .ref ki])), (t, .inl (cB, n, .inl (tx u)))] : va_W) ++ (alC cO a.2.2.1 ++ (a.2.2.2.2 ++ []))) at hD
      refine lv_istore (lv' := [(6, .int (nI z56.2)), (5, .int (nI z46.2)), (4, .int (nI a.1.1.1)), (0, .ref h), (2, .int (nI z4.2)), (3, .int (nI a.2.1))]) hx hb d_Reader_readExtensions_59 hl (by decide) rfl (fun ls hl => ?_)
      refine va_new (ci := 0) (fs := [.null, .int 0, .int 0]) hx hb htb i_Slice t_Slice t_Slice_ok hown (htb _ q3_137) (htb _ q2_92) (htb _ q1_22) hK hP hD hS hA rfl (fun j hj => by rcases (show j = 0 ∨ j = 1 ∨ j = 2 by omega) with rfl | rfl | rfl <;> rfl) (by omega) (by omega) d_Reader_readExtensions_61 (fun q61 H61 hP hD hS => ?_)
      have hP := hP.swap
      have hD := hD.swap
      change va_P (dC, dI) classes (([(ki, .inr (11, [.ref (alO sb a.2.2.1), .int (nI a.1.2.2.2.length), .int a.2.2.2.1])), (h, .inr (5, [.ref res, .int ie, .ref t, .int (nI z56.1.1), .int (nI z56.1.2.1), .int (wI z56.1.2.2), .int pa, .int a.1.2.1, .int a.1.2.2.1, .ref ki])), (t, .inl (cB, n, .inl (tx u))), (q61, .inr (0, [.null, .int 0, .int 0]))] : va_W) ++ (alC cO a.2.2.1 ++ (a.2.2.2.2 ++ []))) H61 at hP
      change va_D A (([(ki, .inr (11, [.ref (alO sb a.2.2.1), .int (nI a.1.2.2.2.length), .int a.2.2.2.1])), (h, .inr (5, [.ref res, .int ie, .ref t, .int (nI z56.1.1), .int (nI z56.1.2.1), .int (wI z56.1.2.2), .int pa, .int a.1.2.1, .int a.1.2.2.1, .ref ki])), (t, .inl (cB, n, .inl (tx u))), (q61, .inr (0, [.null, .int 0, .int 0]))] : va_W) ++ (alC cO a.2.2.1 ++ (a.2.2.2.2 ++ []))) at hD
      refine lv_dup hx hb d_Reader_readExtensions_64 rfl ?_
      refine lv_aload_n hx hb d_Reader_readExtensions_65 rfl (lv_at hl 3 rfl) ?_
      refine va_get (v := .ref t) hx hb htb i_ListReader hown hK hP 1 rfl rfl 2 (by decide) (htb _ q3_57) (fun _ h9 => h9) rfl d_Reader_readExtensions_66 ?_
      refine lv_aload_n hx hb d_Reader_readExtensions_69 rfl (lv_at hl 3 rfl) ?_
      refine va_get (v := .int (nI z56.1.1)) hx hb htb i_ListReader hown hK hP 1 rfl rfl 3 (by decide) (htb _ q3_62) (fun _ h9 => h9) rfl d_Reader_readExtensions_70 ?_
      refine lv_iload hx hb d_Reader_readExtensions_73 (lv_at hl 0 rfl) ?_
      have hFc := va_free (wc := [(q61, .inr (0, [.null, .int 0, .int 0]))]) hD hS hA [3] rfl
      refine va_callv (mu_runI (As := [.ref t, .int (nI z56.1.1), .int (nI z56.2)]) (rest := [.ref q61]) ⟨hx, hb, hml, hown, hts⟩ tbin (c_Slice_init l dC dI sb q61 t (nI z56.1.1) (nI z56.2) H61.size) q3_138 q2_94 q1_22 q2_95 rfl (n := 3) (by decide +kernel) rfl ⟨rfl, rfl⟩ ⟨Nat.le_of_ble_eq_true rfl, Nat.le_of_ble_eq_true rfl⟩ ⟨by omega, by omega⟩ hN (hT0.keep hS hAs) hAs (Nat.le_trans hB0 hS.1) hK hP hD [3] (by decide) rfl [] rfl hl.1 rfl (Nat.le_of_ble_eq_true rfl) d_Reader_readExtensions_75) hS (fun q _ h => hFc q h) hFc (fun u75 tS H75 locs ht hvm hw75 hB hz1 hk1 hS => ?_)
      skip
      obtain ⟨hP1, hK1, hD1⟩ := hB
      rw [ht] at hP1
      obtain ⟨hP, hD⟩ := va_joinQ (X := [(ki, .inr (11, [.ref (alO sb a.2.2.1), .int (nI a.1.2.2.2.length), .int a.2.2.2.1])), (h, .inr (5, [.ref res, .int ie, .ref t, .int (nI z56.1.1), .int (nI z56.1.2.1), .int (wI z56.1.2.2), .int pa, .int a.1.2.1, .int a.1.2.2.1, .ref ki])), (t, .inl (cB, n, .inl (tx u))), (q61, .inr (0, [.null, .int 0, .int 0]))]) (pl := (alC cO a.2.2.1 ++ (a.2.2.2.2 ++ []))) (wr := [(ki, .inr (11, [.ref (alO sb a.2.2.1), .int (nI a.1.2.2.2.length), .int a.2.2.2.1])), (h, .inr (5, [.ref res, .int ie, .ref t, .int (nI z56.1.1), .int (nI z56.1.2.1), .int (wI z56.1.2.2), .int pa, .int a.1.2.1, .int a.1.2.2.1, .ref ki])), (t, .inl (cB, n, .inl (tx u)))]) (w1 := [(q61, .inr (0, [.ref t, .int (nI z56.1.1), .int (nI z56.2)]))]) hP hD [3] [0, 1, 2] rfl rfl (by decide) (by decide) hk1 hFc hP1 hD1
      change va_P (dC, dI) classes (([(ki, .inr (11, [.ref (alO sb a.2.2.1), .int (nI a.1.2.2.2.length), .int a.2.2.2.1])), (h, .inr (5, [.ref res, .int ie, .ref t, .int (nI z56.1.1), .int (nI z56.1.2.1), .int (wI z56.1.2.2), .int pa, .int a.1.2.1, .int a.1.2.2.1, .ref ki])), (t, .inl (cB, n, .inl (tx u))), (q61, .inr (0, [.ref t, .int (nI z56.1.1), .int (nI z56.2)]))] : va_W) ++ (alC cO a.2.2.1 ++ (a.2.2.2.2 ++ []))) H75 at hP
      change va_D A (([(ki, .inr (11, [.ref (alO sb a.2.2.1), .int (nI a.1.2.2.2.length), .int a.2.2.2.1])), (h, .inr (5, [.ref res, .int ie, .ref t, .int (nI z56.1.1), .int (nI z56.1.2.1), .int (wI z56.1.2.2), .int pa, .int a.1.2.1, .int a.1.2.2.1, .ref ki])), (t, .inl (cB, n, .inl (tx u))), (q61, .inr (0, [.ref t, .int (nI z56.1.1), .int (nI z56.2)]))] : va_W) ++ (alC cO a.2.2.1 ++ (a.2.2.2.2 ++ []))) at hD
      refine lv_astore (lv' := [(7, .ref q61), (6, .int (nI z56.2)), (5, .int (nI z46.2)), (4, .int (nI a.1.1.1)), (0, .ref h), (2, .int (nI z4.2)), (3, .int (nI a.2.1))]) hx hb d_Reader_readExtensions_78 hl (by decide) rfl (fun ls hl => ?_)
      refine lv_aload_n hx hb d_Reader_readExtensions_80 rfl (lv_at hl 4 rfl) ?_
      refine lv_iload hx hb d_Reader_readExtensions_81 (lv_at hl 1 rfl) ?_
      refine lv_aload_n hx hb d_Reader_readExtensions_83 rfl (lv_at hl 4 rfl) ?_
      refine lv_aload_n hx hb d_Reader_readExtensions_84 rfl (lv_at hl 4 rfl) ?_
      refine va_get (v := .int (nI z56.1.1)) hx hb htb i_ListReader hown hK hP 1 rfl rfl 3 (by decide) (htb _ q3_62) (fun _ h9 => h9) rfl d_Reader_readExtensions_85 ?_
      refine lv_iload hx hb d_Reader_readExtensions_88 (lv_at hl 1 rfl) ?_
      refine vp_callSi (pu_callU (As := [.int (nI z56.1.1), .int (nI z56.2)]) (rest := [.int (nI z56.2), .ref h]) ⟨hx, hb, hml, hown, hts⟩ (cL_isOid l dC dI sb h res t ki z56.1.1 z56.1.2.1 n z56.1.2.2 pa a.1.2.1 a.1.2.2.1 ie cB u z56.1.1 z56.2 hu hn (by omega) (by omega)) (cu_of (n := 2) hts tbin q3_202 q9_204 q3_204 qx_8 q1_15 q3_205 rfl (by decide +kernel) ⟨rfl, rfl⟩ ⟨Nat.le_of_ble_eq_true rfl, Nat.le_of_ble_eq_true rfl⟩) rfl ⟨by omega, by omega⟩ hN (hT0.keep hS hAs) hK hP [1, 2] rfl [0] rfl 1 5 rfl rfl rfl hl.1 rfl (Nat.le_of_ble_eq_true rfl) d_Reader_readExtensions_90) (fun r90 hr90 => ?_)
      obtain rfl := bz_zP hr90
      have hFc := va_free (wc := [(h, .inr (5, [.ref res, .int ie, .ref t, .int (nI z56.1.1), .int (nI z56.1.2.1), .int (wI z56.1.2.2), .int pa, .int a.1.2.1, .int a.1.2.2.1, .ref ki]))]) hD hS hA [1] rfl
      refine va_callv (mu_runU (As := [.int (nI z56.2), .int (zP (oidOK u z56.1.1 z56.2))]) (rest := []) ⟨hx, hb, hml, hown, hts⟩ (cL_leave l dC dI sb h res t ki z56.1.1 z56.1.2.1 n z56.1.2.2 pa a.1.2.1 a.1.2.2.1 ie cB u z56.2 (zP (oidOK u z56.1.1 z56.2)) H75.size ((hi56.1).w hn)) (cu_of (n := 2) hts tbin q3_131 q3_133 q3_132 q3_135 q1_15 q3_136 rfl (by decide +kernel) ⟨rfl, rfl⟩ ⟨Nat.le_of_ble_eq_true rfl, Nat.le_of_ble_eq_true rfl⟩) rfl ⟨by omega, by omega⟩ hN (hT0.keep hS hAs) hAs (Nat.le_trans hB0 hS.1) hK hP hD [1] (by decide) rfl [] rfl 1 5 rfl rfl rfl hl.1 rfl (Nat.le_of_ble_eq_true rfl) d_Reader_readExtensions_93) hS (fun q _ h => hFc q h) hFc (fun u93 tS H93 locs ht hvm hw93 hB hz1 hk1 hS => ?_)
      obtain ⟨z93, rfl⟩ : ∃ z, z = u93 := ⟨_, rfl⟩
      obtain ⟨hP1, hK1, hD1⟩ := hB
      rw [ht] at hP1
      obtain ⟨hP, hD⟩ := va_joinQ (X := [(ki, .inr (11, [.ref (alO sb a.2.2.1), .int (nI a.1.2.2.2.length), .int a.2.2.2.1])), (h, .inr (5, [.ref res, .int ie, .ref t, .int (nI z56.1.1), .int (nI z56.1.2.1), .int (wI z56.1.2.2), .int pa, .int a.1.2.1, .int a.1.2.2.1, .ref ki])), (t, .inl (cB, n, .inl (tx u))), (q61, .inr (0, [.ref t, .int (nI z56.1.1), .int (nI z56.2)]))]) (pl := (alC cO a.2.2.1 ++ (a.2.2.2.2 ++ []))) (wr := [(ki, .inr (11, [.ref (alO sb a.2.2.1), .int (nI a.1.2.2.2.length), .int a.2.2.2.1])), (t, .inl (cB, n, .inl (tx u))), (q61, .inr (0, [.ref t, .int (nI z56.1.1), .int (nI z56.2)]))]) (w1 := [(h, .inr (5, [.ref res, .int ie, .ref t, .int (nI z93.1), .int (nI z93.2.1), .int (wI z93.2.2), .int pa, .int a.1.2.1, .int a.1.2.2.1, .ref ki]))]) hP hD [1] [0, 2, 3] rfl rfl (by decide) (by decide) hk1 hFc hP1 hD1
      change va_P (dC, dI) classes (([(ki, .inr (11, [.ref (alO sb a.2.2.1), .int (nI a.1.2.2.2.length), .int a.2.2.2.1])), (t, .inl (cB, n, .inl (tx u))), (q61, .inr (0, [.ref t, .int (nI z56.1.1), .int (nI z56.2)])), (h, .inr (5, [.ref res, .int ie, .ref t, .int (nI z93.1), .int (nI z93.2.1), .int (wI z93.2.2), .int pa, .int a.1.2.1, .int a.1.2.2.1, .ref ki]))] : va_W) ++ (alC cO a.2.2.1 ++ (a.2.2.2.2 ++ []))) H93 at hP
      change va_D A (([(ki, .inr (11, [.ref (alO sb a.2.2.1), .int (nI a.1.2.2.2.length), .int a.2.2.2.1])), (t, .inl (cB, n, .inl (tx u))), (q61, .inr (0, [.ref t, .int (nI z56.1.1), .int (nI z56.2)])), (h, .inr (5, [.ref res, .int ie, .ref t, .int (nI z93.1), .int (nI z93.2.1), .int (wI z93.2.2), .int pa, .int a.1.2.1, .int a.1.2.2.1, .ref ki]))] : va_W) ++ (alC cO a.2.2.1 ++ (a.2.2.2.2 ++ []))) at hD
      have hz93 : z93 = rd_lea z56.1 z56.2 (zP (oidOK u z56.1.1 z56.2)) := hw93
      have hi93 : rdInv n z93 := by rw [hz93]; exact lea_inv hi56.1 (by omega)
      have hb93 : z93.1 ≤ n := hi93.1
      refine lv_aload_n hx hb d_Reader_readExtensions_96 rfl (lv_at hl 4 rfl) ?_
      refine lv_iconst (v := 1) hx hb d_Reader_readExtensions_97 (by decide) ?_
      refine lv_iload hx hb d_Reader_readExtensions_98 (lv_at hl 2 rfl) ?_
      refine vp_callSi (pu_callU (As := [.int 1, .int (nI z46.2)]) (rest := []) ⟨hx, hb, hml, hown, hts⟩ (cL_nextIs l dC dI sb h res t ki z93.1 z93.2.1 n z93.2.2 pa a.1.2.1 a.1.2.2.1 ie cB u 1 z46.2 hu hn ((hi93).w hn) (by omega) (hi93).1 (by decide)) (cu_of (n := 2) hts tbin q3_206 q3_208 q3_207 q3_210 q1_15 q3_211 rfl (by decide +kernel) ⟨rfl, rfl⟩ ⟨Nat.le_of_ble_eq_true rfl, Nat.le_of_ble_eq_true rfl⟩) rfl ⟨by omega, by omega⟩ hN (hT0.keep hS hAs) hK hP [3, 1] rfl [0] rfl 3 5 rfl rfl rfl hl.1 rfl (Nat.le_of_ble_eq_true rfl) d_Reader_readExtensions_100) (fun r100 hr100 => ?_)
      obtain rfl := bz_zP hr100
      refine lv_istore (lv' := [(8, .int (zP (z93.2.2 = none ∧ z93.1 < z46.2 ∧ u z93.1 = 1))), (7, .ref q61), (6, .int (nI z56.2)), (5, .int (nI z46.2)), (4, .int (nI a.1.1.1)), (0, .ref h), (2, .int (nI z4.2)), (3, .int (nI a.2.1))]) hx hb d_Reader_readExtensions_103 hl (by decide) rfl (fun ls hl => ?_)
      refine lv_iload hx hb d_Reader_readExtensions_105 (lv_at hl 0 rfl) ?_
      refine lv_if_eq (tgt := 116) hx hb d_Reader_readExtensions_107 (by decide) (fun c107 => ?_) (fun c107 => ?_)
      · have p107 : ¬ (z93.2.2 = none ∧ z93.1 < z46.2 ∧ u z93.1 = 1) := (zP_0.mp c107)
        refine lv_aload_n hx hb d_Reader_readExtensions_116 rfl (lv_at hl 5 rfl) ?_
        refine lv_iconst (v := 4) hx hb d_Reader_readExtensions_117 (by decide) ?_
        refine lv_iload hx hb d_Reader_readExtensions_118 (lv_at hl 3 rfl) ?_
        have hFc := va_free (wc := [(h, .inr (5, [.ref res, .int ie, .ref t, .int (nI z93.1), .int (nI z93.2.1), .int (wI z93.2.2), .int pa, .int a.1.2.1, .int a.1.2.2.1, .ref ki])), (t, .inl (cB, n, .inl (tx u)))]) hD hS hA [3, 1] rfl
        refine va_calli (mu_runU (As := [.int 4, .int (nI z46.2)]) (rest := []) ⟨hx, hb, hml, hown, hts⟩ (cL_open l dC dI sb h res t ki z93.1 z93.2.1 n z93.2.2 pa a.1.2.1 a.1.2.2.1 ie cB u 4 z46.2 H93.size hu hn ((hi93).w hn) (by omega) (hi93).1 (by decide)) (cu_of (n := 2) hts tbin q3_130 q9_192 q3_112 q9_194 q1_15 q3_113 rfl (by decide +kernel) ⟨rfl, rfl⟩ ⟨Nat.le_of_ble_eq_true rfl, Nat.le_of_ble_eq_true rfl⟩) rfl ⟨by omega, by omega⟩ hN (hT0.keep hS hAs) hAs (Nat.le_trans hB0 hS.1) hK hP hD [3, 1] (by decide) rfl [0] rfl 3 5 rfl rfl rfl hl.1 rfl (Nat.le_of_ble_eq_true rfl) d_Reader_readExtensions_120) hS (fun q _ h => hFc q h) hFc (fun r120 u120 tS H120 locs ht hvm hw120 hB hz1 hk1 hS => ?_)
        obtain ⟨x120, rfl⟩ : ∃ z, z = u120 := ⟨_, rfl⟩
        obtain ⟨hP1, hK1, hD1⟩ := hB
        rw [ht] at hP1
        obtain ⟨hP, hD⟩ := va_joinQ (X := [(ki, .inr (11, [.ref (alO sb a.2.2.1), .int (nI a.1.2.2.2.length), .int a.2.2.2.1])), (t, .inl (cB, n, .inl (tx u))), (q61, .inr (0, [.ref t, .int (nI z56.1.1), .int (nI z56.2)])), (h, .inr (5, [.ref res, .int ie, .ref t, .int (nI z93.1), .int (nI z93.2.1), .int (wI z93.2.2), .int pa, .int a.1.2.1, .int a.1.2.2.1, .ref ki]))]) (pl := (alC cO a.2.2.1 ++ (a.2.2.2.2 ++ []))) (wr := [(ki, .inr (11, [.ref (alO sb a.2.2.1), .int (nI a.1.2.2.2.length), .int a.2.2.2.1])), (q61, .inr (0, [.ref t, .int (nI z56.1.1), .int (nI z56.2)]))]) (w1 := [(h, .inr (5, [.ref res, .int ie, .ref t, .int (nI x120.1), .int (nI x120.2.1), .int (wI x120.2.2), .int pa, .int a.1.2.1, .int a.1.2.2.1, .ref ki])), (t, .inl (cB, n, .inl (tx u)))]) hP hD [3, 1] [0, 2] rfl rfl (by decide) (by decide) hk1 hFc hP1 hD1
        change va_P (dC, dI) classes (([(ki, .inr (11, [.ref (alO sb a.2.2.1), .int (nI a.1.2.2.2.length), .int a.2.2.2.1])), (q61, .inr (0, [.ref t, .int (nI z56.1.1), .int (nI z56.2)])), (h, .inr (5, [.ref res, .int ie, .ref t, .int (nI x120.1), .int (nI x120.2.1), .int (wI x120.2.2), .int pa, .int a.1.2.1, .int a.1.2.2.1, .ref ki])), (t, .inl (cB, n, .inl (tx u)))] : va_W) ++ (alC cO a.2.2.1 ++ (a.2.2.2.2 ++ []))) H120 at hP
        change va_D A (([(ki, .inr (11, [.ref (alO sb a.2.2.1), .int (nI a.1.2.2.2.length), .int a.2.2.2.1])), (q61, .inr (0, [.ref t, .int (nI z56.1.1), .int (nI z56.2)])), (h, .inr (5, [.ref res, .int ie, .ref t, .int (nI x120.1), .int (nI x120.2.1), .int (wI x120.2.2), .int pa, .int a.1.2.1, .int a.1.2.2.1, .ref ki])), (t, .inl (cB, n, .inl (tx u)))] : va_W) ++ (alC cO a.2.2.1 ++ (a.2.2.2.2 ++ []))) at hD
        change x120 = (rd_opn u n z93 4 z46.2).1 ∧ r120 = nI (rd_opn u n z93 4 z46.2).2 at hw120
        have hi120 := opn_inv (u := u) (tg := 4) hi93 (show z46.2 ≤ n by omega)
        obtain ⟨z120, hz120⟩ : ∃ o, o = rd_opn u n z93 4 z46.2 := ⟨_, rfl⟩
        rw [← hz120] at hw120 hi120
        obtain ⟨rfl, rfl⟩ := hw120
        have hb120 : z120.1.1 ≤ n := hi120.1.1
        have hc120 : z120.1.1 ≤ z120.2 := hi120.2.1
        have hd120 : z120.2 ≤ n := hi120.2.2.1
        change va_P (dC, dI) classes (([(ki, .inr (11, [.ref (alO sb a.2.2.1), .int (nI a.1.2.2.2.length), .int a.2.2.2.1])), (q61, .inr (0, [.ref t, .int (nI z56.1.1), .int (nI z56.2)])), (h, .inr (5, [.ref res, .int ie, .ref t, .int (nI z120.1.1), .int (nI z120.1.2.1), .int (wI z120.1.2.2), .int pa, .int a.1.2.1, .int a.1.2.2.1, .ref ki])), (t, .inl (cB, n, .inl (tx u)))] : va_W) ++ (alC cO a.2.2.1 ++ (a.2.2.2.2 ++ []))) H120 at hP
        change va_D A (([(ki, .inr (11, [.ref (alO sb a.2.2.1), .int (nI a.1.2.2.2.length), .int a.2.2.2.1])), (q61, .inr (0, [.ref t, .int (nI z56.1.1), .int (nI z56.2)])), (h, .inr (5, [.ref res, .int ie, .ref t, .int (nI z120.1.1), .int (nI z120.1.2.1), .int (wI z120.1.2.2), .int pa, .int a.1.2.1, .int a.1.2.2.1, .ref ki])), (t, .inl (cB, n, .inl (tx u)))] : va_W) ++ (alC cO a.2.2.1 ++ (a.2.2.2.2 ++ []))) at hD
        refine lv_istore (lv' := [(9, .int (nI z120.2)), (8, .int (zP (z93.2.2 = none ∧ z93.1 < z46.2 ∧ u z93.1 = 1))), (7, .ref q61), (6, .int (nI z56.2)), (5, .int (nI z46.2)), (4, .int (nI a.1.1.1)), (0, .ref h), (2, .int (nI z4.2)), (3, .int (nI a.2.1))]) hx hb d_Reader_readExtensions_123 hl (by decide) rfl (fun ls hl => ?_)
        refine lv_aload_n hx hb d_Reader_readExtensions_125 rfl (lv_at hl 6 rfl) ?_
        refine lv_aload hx hb d_Reader_readExtensions_126 (lv_at hl 2 rfl) ?_
        refine vp_callSi (pu_callS (As := [.ref q61]) (rest := [.ref h]) ⟨hx, hb, hml, hown, hts⟩ tbin (c_kindNumber l dC dI sb q61 t z56.1.1 z56.2 n cB u hu (by omega) (by omega) (by omega)) q4_72 q4_73 q1_15 q4_74 (n := 1) (by decide +kernel) rfl ⟨rfl, rfl⟩ ⟨Nat.le_of_ble_eq_true rfl, Nat.le_of_ble_eq_true rfl⟩ ⟨by omega, by omega⟩ hN (hT0.keep hS hAs) hK hP [1, 3] rfl [0] rfl hl.1 rfl (Nat.le_of_ble_eq_true rfl) d_Reader_readExtensions_128) (fun r128 hr128 => ?_)
        subst hr128
        refine lv_iload hx hb d_Reader_readExtensions_131 (lv_at hl 0 rfl) ?_
        have hFc := va_free (wc := [(h, .inr (5, [.ref res, .int ie, .ref t, .int (nI z120.1.1), .int (nI z120.1.2.1), .int (wI z120.1.2.2), .int pa, .int a.1.2.1, .int a.1.2.2.1, .ref ki])), (t, .inl (cB, n, .inl (tx u)))]) hD hS hA [2, 3] rfl
        refine va_calli (mu_runU (As := [.int (kdN u z56.1.1 z56.2), .int (nI z120.2)]) (rest := []) ⟨hx, hb, hml, hown, hts⟩ (cL_readKnown l dC dI sb h res t ki n z120.1 pa a.1.2.1 a.1.2.2.1 ie cB u z120.2 (kdN u z56.1.1 z56.2) H120.size hu hn hi120.1 (by omega)) (cu_abs (n := 2) hts tbin q4_75 q4_77 q4_188 q4_187 q1_31 q4_189 (hN.1 _ qn4_76) (by decide +kernel) ⟨rfl, rfl⟩ ⟨Nat.le_of_ble_eq_true rfl, Nat.le_of_ble_eq_true rfl⟩) rfl ⟨by omega, by omega⟩ hN (hT0.keep hS hAs) hAs (Nat.le_trans hB0 hS.1) hK hP hD [2, 3] (by decide) rfl [0] rfl 2 5 rfl rfl rfl hl.1 rfl (Nat.le_of_ble_eq_true rfl) d_Reader_readExtensions_133) hS (fun q _ h => hFc q h) hFc (fun r133 u133 tS H133 locs ht hvm hw133 hB hz1 hk1 hS => ?_)
        obtain ⟨s133, rfl⟩ : ∃ z, z = u133 := ⟨_, rfl⟩
        obtain ⟨hP1, hK1, hD1⟩ := hB
        rw [ht] at hP1
        obtain ⟨hP, hD⟩ := va_joinQ (X := [(ki, .inr (11, [.ref (alO sb a.2.2.1), .int (nI a.1.2.2.2.length), .int a.2.2.2.1])), (q61, .inr (0, [.ref t, .int (nI z56.1.1), .int (nI z56.2)])), (h, .inr (5, [.ref res, .int ie, .ref t, .int (nI z120.1.1), .int (nI z120.1.2.1), .int (wI z120.1.2.2), .int pa, .int a.1.2.1, .int a.1.2.2.1, .ref ki])), (t, .inl (cB, n, .inl (tx u)))]) (pl := (alC cO a.2.2.1 ++ (a.2.2.2.2 ++ []))) (wr := [(ki, .inr (11, [.ref (alO sb a.2.2.1), .int (nI a.1.2.2.2.length), .int a.2.2.2.1])), (q61, .inr (0, [.ref t, .int (nI z56.1.1), .int (nI z56.2)]))]) (w1 := [(h, .inr (5, [.ref res, .int ie, .ref t, .int (nI s133.1), .int (nI s133.2.1), .int (wI s133.2.2), .int pa, .int a.1.2.1, .int a.1.2.2.1, .ref ki])), (t, .inl (cB, n, .inl (tx u)))]) hP hD [2, 3] [0, 1] rfl rfl (by decide) (by decide) hk1 hFc hP1 hD1
        change va_P (dC, dI) classes (([(ki, .inr (11, [.ref (alO sb a.2.2.1), .int (nI a.1.2.2.2.length), .int a.2.2.2.1])), (q61, .inr (0, [.ref t, .int (nI z56.1.1), .int (nI z56.2)])), (h, .inr (5, [.ref res, .int ie, .ref t, .int (nI s133.1), .int (nI s133.2.1), .int (wI s133.2.2), .int pa, .int a.1.2.1, .int a.1.2.2.1, .ref ki])), (t, .inl (cB, n, .inl (tx u)))] : va_W) ++ (alC cO a.2.2.1 ++ (a.2.2.2.2 ++ []))) H133 at hP
        change va_D A (([(ki, .inr (11, [.ref (alO sb a.2.2.1), .int (nI a.1.2.2.2.length), .int a.2.2.2.1])), (q61, .inr (0, [.ref t, .int (nI z56.1.1), .int (nI z56.2)])), (h, .inr (5, [.ref res, .int ie, .ref t, .int (nI s133.1), .int (nI s133.2.1), .int (wI s133.2.2), .int pa, .int a.1.2.1, .int a.1.2.2.1, .ref ki])), (t, .inl (cB, n, .inl (tx u)))] : va_W) ++ (alC cO a.2.2.1 ++ (a.2.2.2.2 ++ []))) at hD
        obtain ⟨hw133, hi133⟩ : (s133, r133) = rd_knL u n ie (kdN u z56.1.1 z56.2) z120.1 z120.2 ∧ rdInv n s133 := hw133
        obtain ⟨z133, hz133⟩ : ∃ o, o = rd_knL u n ie (kdN u z56.1.1 z56.2) z120.1 z120.2 := ⟨_, rfl⟩
        rw [← hz133] at hw133
        obtain ⟨rfl, rfl⟩ : s133 = z133.1 ∧ r133 = z133.2 := by rw [← hw133]; exact ⟨rfl, rfl⟩
        have hb133 : z133.1.1 ≤ n := hi133.1
        change va_P (dC, dI) classes (([(ki, .inr (11, [.ref (alO sb a.2.2.1), .int (nI a.1.2.2.2.length), .int a.2.2.2.1])), (q61, .inr (0, [.ref t, .int (nI z56.1.1), .int (nI z56.2)])), (h, .inr (5, [.ref res, .int ie, .ref t, .int (nI z133.1.1), .int (nI z133.1.2.1), .int (wI z133.1.2.2), .int pa, .int a.1.2.1, .int a.1.2.2.1, .ref ki])), (t, .inl (cB, n, .inl (tx u)))] : va_W) ++ (alC cO a.2.2.1 ++ (a.2.2.2.2 ++ []))) H133 at hP
        change va_D A (([(ki, .inr (11, [.ref (alO sb a.2.2.1), .int (nI a.1.2.2.2.length), .int a.2.2.2.1])), (q61, .inr (0, [.ref t, .int (nI z56.1.1), .int (nI z56.2)])), (h, .inr (5, [.ref res, .int ie, .ref t, .int (nI z133.1.1), .int (nI z133.1.2.1), .int (wI z133.1.2.2), .int pa, .int a.1.2.1, .int a.1.2.2.1, .ref ki])), (t, .inl (cB, n, .inl (tx u)))] : va_W) ++ (alC cO a.2.2.1 ++ (a.2.2.2.2 ++ []))) at hD
        refine lv_if_eq (tgt := 148) hx hb d_Reader_readExtensions_136 (by decide) (fun c136 => ?_) (fun c136 => ?_)
        · have p136 : z133.2 = (0 : Int32) := c136
          refine lv_aload_n hx hb d_Reader_readExtensions_148 rfl (lv_at hl 6 rfl) ?_
          refine lv_iload hx hb d_Reader_readExtensions_149 (lv_at hl 0 rfl) ?_
          refine lv_iconst (v := 1) hx hb d_Reader_readExtensions_151 (by decide) ?_
          have hFc := va_free (wc := [(h, .inr (5, [.ref res, .int ie, .ref t, .int (nI z133.1.1), .int (nI z133.1.2.1), .int (wI z133.1.2.2), .int pa, .int a.1.2.1, .int a.1.2.2.1, .ref ki]))]) hD hS hA [2] rfl
          refine va_callv (mu_runU (As := [.int (nI z120.2), .int 1]) (rest := []) ⟨hx, hb, hml, hown, hts⟩ (cL_leave l dC dI sb h res t ki z133.1.1 z133.1.2.1 n z133.1.2.2 pa a.1.2.1 a.1.2.2.1 ie cB u z120.2 (1 : Int32) H133.size ((hi133).w hn)) (cu_of (n := 2) hts tbin q3_131 q3_133 q3_132 q3_135 q1_15 q3_136 rfl (by decide +kernel) ⟨rfl, rfl⟩ ⟨Nat.le_of_ble_eq_true rfl, Nat.le_of_ble_eq_true rfl⟩) rfl ⟨by omega, by omega⟩ hN (hT0.keep hS hAs) hAs (Nat.le_trans hB0 hS.1) hK hP hD [2] (by decide) rfl [] rfl 2 5 rfl rfl rfl hl.1 rfl (Nat.le_of_ble_eq_true rfl) d_Reader_readExtensions_152) hS (fun q _ h => hFc q h) hFc (fun u152 tS H152 locs ht hvm hw152 hB hz1 hk1 hS => ?_)
          obtain ⟨z152, rfl⟩ : ∃ z, z = u152 := ⟨_, rfl⟩
          obtain ⟨hP1, hK1, hD1⟩ := hB
          rw [ht] at hP1
          obtain ⟨hP, hD⟩ := va_joinQ (X := [(ki, .inr (11, [.ref (alO sb a.2.2.1), .int (nI a.1.2.2.2.length), .int a.2.2.2.1])), (q61, .inr (0, [.ref t, .int (nI z56.1.1), .int (nI z56.2)])), (h, .inr (5, [.ref res, .int ie, .ref t, .int (nI z133.1.1), .int (nI z133.1.2.1), .int (wI z133.1.2.2), .int pa, .int a.1.2.1, .int a.1.2.2.1, .ref ki])), (t, .inl (cB, n, .inl (tx u)))]) (pl := (alC cO a.2.2.1 ++ (a.2.2.2.2 ++ []))) (wr := [(ki, .inr (11, [.ref (alO sb a.2.2.1), .int (nI a.1.2.2.2.length), .int a.2.2.2.1])), (q61, .inr (0, [.ref t, .int (nI z56.1.1), .int (nI z56.2)])), (t, .inl (cB, n, .inl (tx u)))]) (w1 := [(h, .inr (5, [.ref res, .int ie, .ref t, .int (nI z152.1), .int (nI z152.2.1), .int (wI z152.2.2), .int pa, .int a.1.2.1, .int a.1.2.2.1, .ref ki]))]) hP hD [2] [0, 1, 3] rfl rfl (by decide) (by decide) hk1 hFc hP1 hD1
          change va_P (dC, dI) classes (([(ki, .inr (11, [.ref (alO sb a.2.2.1), .int (nI a.1.2.2.2.length), .int a.2.2.2.1])), (q61, .inr (0, [.ref t, .int (nI z56.1.1), .int (nI z56.2)])), (t, .inl (cB, n, .inl (tx u))), (h, .inr (5, [.ref res, .int ie, .ref t, .int (nI z152.1), .int (nI z152.2.1), .int (wI z152.2.2), .int pa, .int a.1.2.1, .int a.1.2.2.1, .ref ki]))] : va_W) ++ (alC cO a.2.2.1 ++ (a.2.2.2.2 ++ []))) H152 at hP
          change va_D A (([(ki, .inr (11, [.ref (alO sb a.2.2.1), .int (nI a.1.2.2.2.length), .int a.2.2.2.1])), (q61, .inr (0, [.ref t, .int (nI z56.1.1), .int (nI z56.2)])), (t, .inl (cB, n, .inl (tx u))), (h, .inr (5, [.ref res, .int ie, .ref t, .int (nI z152.1), .int (nI z152.2.1), .int (wI z152.2.2), .int pa, .int a.1.2.1, .int a.1.2.2.1, .ref ki]))] : va_W) ++ (alC cO a.2.2.1 ++ (a.2.2.2.2 ++ []))) at hD
          have hz152 : z152 = rd_lea z133.1 z120.2 (1 : Int32) := hw152
          have hi152 : rdInv n z152 := by rw [hz152]; exact lea_inv hi133 (by omega)
          have hb152 : z152.1 ≤ n := hi152.1
          refine lv_aload_n hx hb d_Reader_readExtensions_155 rfl (lv_at hl 6 rfl) ?_
          refine lv_dup hx hb d_Reader_readExtensions_156 rfl ?_
          refine va_get (v := .int a.1.2.1) hx hb htb i_ListReader hown hK hP 3 rfl rfl 7 (by decide) (htb _ q3_76) (fun _ h9 => h9) rfl d_Reader_readExtensions_157 ?_
          refine lv_iload hx hb d_Reader_readExtensions_160 (lv_at hl 1 rfl) ?_
          refine lv_if_eq (tgt := 169) hx hb d_Reader_readExtensions_162 (by decide) (fun c162 => ?_) (fun c162 => ?_)
          rotate_left
          · exact absurd c162 (by rw [← (zP_f p107)]; decide)
          refine lv_iconst (v := 0) hx hb d_Reader_readExtensions_169 (by decide) ?_
          refine lv_iadd hx hb d_Reader_readExtensions_170 ?_
          refine va_put (v := .int (a.1.2.1 + 0)) (ty := .int) hx hb htb i_ListReader t_ListReader t_ListReader_ok n_ListReader hown hK hP hD hS 3 rfl rfl 7 (by decide) (htb _ q3_76) (fun _ h9 => h9) rfl (by decide +kernel) rfl rfl (Nat.le_of_ble_eq_true rfl) d_Reader_readExtensions_171 (fun H171 locs hP hD hS => ?_)
          change va_P (dC, dI) classes (([(ki, .inr (11, [.ref (alO sb a.2.2.1), .int (nI a.1.2.2.2.length), .int a.2.2.2.1])), (q61, .inr (0, [.ref t, .int (nI z56.1.1), .int (nI z56.2)])), (t, .inl (cB, n, .inl (tx u))), (h, .inr (5, [.ref res, .int ie, .ref t, .int (nI z152.1), .int (nI z152.2.1), .int (wI z152.2.2), .int pa, .int (a.1.2.1 + 0), .int a.1.2.2.1, .ref ki]))] : va_W) ++ (alC cO a.2.2.1 ++ (a.2.2.2.2 ++ []))) H171 at hP
          change va_D A (([(ki, .inr (11, [.ref (alO sb a.2.2.1), .int (nI a.1.2.2.2.length), .int a.2.2.2.1])), (q61, .inr (0, [.ref t, .int (nI z56.1.1), .int (nI z56.2)])), (t, .inl (cB, n, .inl (tx u))), (h, .inr (5, [.ref res, .int ie, .ref t, .int (nI z152.1), .int (nI z152.2.1), .int (wI z152.2.2), .int pa, .int (a.1.2.1 + 0), .int a.1.2.2.1, .ref ki]))] : va_W) ++ (alC cO a.2.2.1 ++ (a.2.2.2.2 ++ []))) at hD
          refine lv_aload_n hx hb d_Reader_readExtensions_174 rfl (lv_at hl 6 rfl) ?_
          refine lv_iload hx hb d_Reader_readExtensions_175 (lv_at hl 4 rfl) ?_
          have hFc := va_free (wc := [(h, .inr (5, [.ref res, .int ie, .ref t, .int (nI z152.1), .int (nI z152.2.1), .int (wI z152.2.2), .int pa, .int (a.1.2.1 + 0), .int a.1.2.2.1, .ref ki]))]) hD hS hA [3] rfl
          refine va_callv (mu_runU (As := [.int (nI z46.2)]) (rest := []) ⟨hx, hb, hml, hown, hts⟩ (cL_finish l dC dI sb h res t ki z152.1 z152.2.1 n z152.2.2 pa (a.1.2.1 + 0) a.1.2.2.1 ie cB u z46.2 H171.size ((hi152).w hn) (by have := (hi152).1; omega) (by omega)) (cu_of (n := 1) hts tbin q3_183 q9_201 q3_163 q9_203 q1_15 q3_164 rfl (by decide +kernel) ⟨rfl, rfl⟩ ⟨Nat.le_of_ble_eq_true rfl, Nat.le_of_ble_eq_true rfl⟩) rfl ⟨by omega, by omega⟩ hN (hT0.keep hS hAs) hAs (Nat.le_trans hB0 hS.1) hK hP hD [3] (by decide) rfl [] rfl 3 5 rfl rfl rfl hl.1 rfl (Nat.le_of_ble_eq_true rfl) d_Reader_readExtensions_177) hS (fun q _ h => hFc q h) hFc (fun u177 tS H177 locs ht hvm hw177 hB hz1 hk1 hS => ?_)
          obtain ⟨z177, rfl⟩ : ∃ z, z = u177 := ⟨_, rfl⟩
          obtain ⟨hP1, hK1, hD1⟩ := hB
          rw [ht] at hP1
          obtain ⟨hP, hD⟩ := va_joinQ (X := [(ki, .inr (11, [.ref (alO sb a.2.2.1), .int (nI a.1.2.2.2.length), .int a.2.2.2.1])), (q61, .inr (0, [.ref t, .int (nI z56.1.1), .int (nI z56.2)])), (t, .inl (cB, n, .inl (tx u))), (h, .inr (5, [.ref res, .int ie, .ref t, .int (nI z152.1), .int (nI z152.2.1), .int (wI z152.2.2), .int pa, .int (a.1.2.1 + 0), .int a.1.2.2.1, .ref ki]))]) (pl := (alC cO a.2.2.1 ++ (a.2.2.2.2 ++ []))) (wr := [(ki, .inr (11, [.ref (alO sb a.2.2.1), .int (nI a.1.2.2.2.length), .int a.2.2.2.1])), (q61, .inr (0, [.ref t, .int (nI z56.1.1), .int (nI z56.2)])), (t, .inl (cB, n, .inl (tx u)))]) (w1 := [(h, .inr (5, [.ref res, .int ie, .ref t, .int (nI z177.1), .int (nI z177.2.1), .int (wI z177.2.2), .int pa, .int (a.1.2.1 + 0), .int a.1.2.2.1, .ref ki]))]) hP hD [3] [0, 1, 2] rfl rfl (by decide) (by decide) hk1 hFc hP1 hD1
          change va_P (dC, dI) classes (([(ki, .inr (11, [.ref (alO sb a.2.2.1), .int (nI a.1.2.2.2.length), .int a.2.2.2.1])), (q61, .inr (0, [.ref t, .int (nI z56.1.1), .int (nI z56.2)])), (t, .inl (cB, n, .inl (tx u))), (h, .inr (5, [.ref res, .int ie, .ref t, .int (nI z177.1), .int (nI z177.2.1), .int (wI z177.2.2), .int pa, .int (a.1.2.1 + 0), .int a.1.2.2.1, .ref ki]))] : va_W) ++ (alC cO a.2.2.1 ++ (a.2.2.2.2 ++ []))) H177 at hP
          change va_D A (([(ki, .inr (11, [.ref (alO sb a.2.2.1), .int (nI a.1.2.2.2.length), .int a.2.2.2.1])), (q61, .inr (0, [.ref t, .int (nI z56.1.1), .int (nI z56.2)])), (t, .inl (cB, n, .inl (tx u))), (h, .inr (5, [.ref res, .int ie, .ref t, .int (nI z177.1), .int (nI z177.2.1), .int (wI z177.2.2), .int pa, .int (a.1.2.1 + 0), .int a.1.2.2.1, .ref ki]))] : va_W) ++ (alC cO a.2.2.1 ++ (a.2.2.2.2 ++ []))) at hD
          have hz177 : z177 = rd_fin z152 z46.2 := hw177
          have hi177 : rdInv n z177 := by rw [hz177]; exact fin_inv hi152
          have hb177 : z177.1 ≤ n := hi177.1
          refine lv_aload_n hx hb d_Reader_readExtensions_180 rfl (lv_at hl 6 rfl) ?_
          refine lv_aload hx hb d_Reader_readExtensions_181 (lv_at hl 2 rfl) ?_
          have hPc : va_P (dC, dI) classes (([(h, .inr (5, [.ref res, .int ie, .ref t, .int (nI z177.1), .int (nI z177.2.1), .int (wI z177.2.2), .int pa, .int (a.1.2.1 + 0), .int a.1.2.2.1, .ref ki])), (t, .inl (cB, n, .inl (tx u))), (q61, .inr (0, [.ref t, .int (nI z56.1.1), .int (nI z56.2)])), (ki, .inr (11, [.ref (alO sb a.2.2.1), .int (nI a.1.2.2.2.length), .int a.2.2.2.1]))] : va_W) ++ (alC cO a.2.2.1 ++ (a.2.2.2.2 ++ []))) H177 := by
            have hPm : List.Perm ((([(ki, .inr (11, [.ref (alO sb a.2.2.1), .int (nI a.1.2.2.2.length), .int a.2.2.2.1])), (q61, .inr (0, [.ref t, .int (nI z56.1.1), .int (nI z56.2)])), (t, .inl (cB, n, .inl (tx u))), (h, .inr (5, [.ref res, .int ie, .ref t, .int (nI z177.1), .int (nI z177.2.1), .int (wI z177.2.2), .int pa, .int (a.1.2.1 + 0), .int a.1.2.2.1, .ref ki]))] : va_W) ++ (alC cO a.2.2.1 ++ (a.2.2.2.2 ++ []))) : va_W) (([(h, .inr (5, [.ref res, .int ie, .ref t, .int (nI z177.1), .int (nI z177.2.1), .int (wI z177.2.2), .int pa, .int (a.1.2.1 + 0), .int a.1.2.2.1, .ref ki]))] : va_W) ++ (([(t, .inl (cB, n, .inl (tx u)))] : va_W) ++ (([(q61, .inr (0, [.ref t, .int (nI z56.1.1), .int (nI z56.2)]))] : va_W) ++ (([(ki, .inr (11, [.ref (alO sb a.2.2.1), .int (nI a.1.2.2.2.length), .int a.2.2.2.1]))] : va_W) ++ (alC cO a.2.2.1 ++ (a.2.2.2.2 ++ [])))))) := ((fun (b0 b1 b2 b3 b4 b5 : va_W) => (blk_perm (fun i => ([b0, b1, b2, b3, b4, b5] : List va_W).getD i []) [0, 1, 2, 3, 4, 5] [3, 2, 1, 0, 4, 5] rfl : List.Perm (b0 ++ (b1 ++ (b2 ++ (b3 ++ (b4 ++ (b5 ++ [])))))) (b3 ++ (b2 ++ (b1 ++ (b0 ++ (b4 ++ (b5 ++ [])))))))) ([(ki, .inr (11, [.ref (alO sb a.2.2.1), .int (nI a.1.2.2.2.length), .int a.2.2.2.1]))]) ([(q61, .inr (0, [.ref t, .int (nI z56.1.1), .int (nI z56.2)]))]) ([(t, .inl (cB, n, .inl (tx u)))]) ([(h, .inr (5, [.ref res, .int ie, .ref t, .int (nI z177.1), .int (nI z177.2.1), .int (wI z177.2.2), .int pa, .int (a.1.2.1 + 0), .int a.1.2.2.1, .ref ki]))]) (alC cO a.2.2.1) (a.2.2.2.2))
            have hPe : (([(h, .inr (5, [.ref res, .int ie, .ref t, .int (nI z177.1), .int (nI z177.2.1), .int (wI z177.2.2), .int pa, .int (a.1.2.1 + 0), .int a.1.2.2.1, .ref ki]))] : va_W) ++ (([(t, .inl (cB, n, .inl (tx u)))] : va_W) ++ (([(q61, .inr (0, [.ref t, .int (nI z56.1.1), .int (nI z56.2)]))] : va_W) ++ (([(ki, .inr (11, [.ref (alO sb a.2.2.1), .int (nI a.1.2.2.2.length), .int a.2.2.2.1]))] : va_W) ++ (alC cO a.2.2.1 ++ (a.2.2.2.2 ++ [])))))) = (([(h, .inr (5, [.ref res, .int ie, .ref t, .int (nI z177.1), .int (nI z177.2.1), .int (wI z177.2.2), .int pa, .int (a.1.2.1 + 0), .int a.1.2.2.1, .ref ki])), (t, .inl (cB, n, .inl (tx u))), (q61, .inr (0, [.ref t, .int (nI z56.1.1), .int (nI z56.2)])), (ki, .inr (11, [.ref (alO sb a.2.2.1), .int (nI a.1.2.2.2.length), .int a.2.2.2.1]))] : va_W) ++ (alC cO a.2.2.1 ++ (a.2.2.2.2 ++ []))) ++ [] := ((fun (b0 b1 b2 b3 b4 b5 : va_W) => (by simp only [List.append_assoc, List.nil_append, List.append_nil] : (b0 ++ (b1 ++ (b2 ++ (b3 ++ (b4 ++ (b5 ++ [])))))) = (b0 ++ (b1 ++ (b2 ++ (b3 ++ (b4 ++ (b5 ++ [])))))) ++ [])) ([(h, .inr (5, [.ref res, .int ie, .ref t, .int (nI z177.1), .int (nI z177.2.1), .int (wI z177.2.2), .int pa, .int (a.1.2.1 + 0), .int a.1.2.2.1, .ref ki]))]) ([(t, .inl (cB, n, .inl (tx u)))]) ([(q61, .inr (0, [.ref t, .int (nI z56.1.1), .int (nI z56.2)]))]) ([(ki, .inr (11, [.ref (alO sb a.2.2.1), .int (nI a.1.2.2.2.length), .int a.2.2.2.1]))]) (alC cO a.2.2.1) (a.2.2.2.2))
            have h9 := hP.perm hPm
            rw [hPe] at h9
            exact h9.front
          refine vp_callSi (pd_callU (As := [.ref q61]) (rest := []) ⟨hx, hb, hml, hown, hts⟩ (cL_isRepeated l dC dI sb h res t ki n z177 pa (a.1.2.1 + 0) a.1.2.2.1 ie cB u q61 z56.1.1 z56.2 a.2.2.2.1 cO a.2.2.1 a.1.2.2.2 a.2.2.2.2 hu hn hi177 (by omega) (by omega) hj3) (cu_of (n := 1) hts tbin q4_204 q9_212 q4_206 qx_11 q1_15 q4_207 rfl (by decide +kernel) ⟨rfl, rfl⟩ ⟨Nat.le_of_ble_eq_true rfl, Nat.le_of_ble_eq_true rfl⟩) rfl ⟨by omega, by omega⟩ hN (hT0.keep hS hAs) hK hP hPc [0, 1] rfl 3 5 rfl rfl rfl hl.1 rfl (Nat.le_of_ble_eq_true rfl) d_Reader_readExtensions_183) (fun r183 hr183 => ?_)
          obtain rfl := bz_zP hr183
          clear hPc
          refine lv_if_eq (tgt := 195) hx hb d_Reader_readExtensions_186 (by decide) (fun c186 => ?_) (fun c186 => ?_)
          · have p186 : ¬ (repP u a.1.2.2.2 z56.1.1 z56.2) := (zP_0.mp c186)
            refine lv_aload_n hx hb d_Reader_readExtensions_195 rfl (lv_at hl 6 rfl) ?_
            refine va_get (v := .ref ki) hx hb htb i_ListReader hown hK hP 3 rfl rfl 9 (by decide) (htb _ q3_84) (fun _ h9 => h9) rfl d_Reader_readExtensions_196 ?_
            refine lv_aload hx hb d_Reader_readExtensions_199 (lv_at hl 2 rfl) ?_
            have hPm : List.Perm ((([(ki, .inr (11, [.ref (alO sb a.2.2.1), .int (nI a.1.2.2.2.length), .int a.2.2.2.1])), (q61, .inr (0, [.ref t, .int (nI z56.1.1), .int (nI z56.2)])), (t, .inl (cB, n, .inl (tx u))), (h, .inr (5, [.ref res, .int ie, .ref t, .int (nI z177.1), .int (nI z177.2.1), .int (wI z177.2.2), .int pa, .int (a.1.2.1 + 0), .int a.1.2.2.1, .ref ki]))] : va_W) ++ (alC cO a.2.2.1 ++ (a.2.2.2.2 ++ []))) : va_W) ((ki, .inr (11, [.ref (alO sb a.2.2.1), .int (nI a.1.2.2.2.length), .int a.2.2.2.1])) :: (alC cO a.2.2.1 ++ (([(q61, .inr (0, [.ref t, .int (nI z56.1.1), .int (nI z56.2)])), (t, .inl (cB, n, .inl (tx u))), (h, .inr (5, [.ref res, .int ie, .ref t, .int (nI z177.1), .int (nI z177.2.1), .int (wI z177.2.2), .int pa, .int (a.1.2.1 + 0), .int a.1.2.2.1, .ref ki]))] : va_W) ++ (a.2.2.2.2 ++ [])))) := ((fun (b0 b1 b2 b3 b4 b5 : va_W) => (blk_perm (fun i => ([b0, b1, b2, b3, b4, b5] : List va_W).getD i []) [0, 1, 2, 3, 4, 5] [0, 4, 1, 2, 3, 5] rfl : List.Perm (b0 ++ (b1 ++ (b2 ++ (b3 ++ (b4 ++ (b5 ++ [])))))) (b0 ++ (b4 ++ (b1 ++ (b2 ++ (b3 ++ (b5 ++ [])))))))) ([(ki, .inr (11, [.ref (alO sb a.2.2.1), .int (nI a.1.2.2.2.length), .int a.2.2.2.1]))]) ([(q61, .inr (0, [.ref t, .int (nI z56.1.1), .int (nI z56.2)]))]) ([(t, .inl (cB, n, .inl (tx u)))]) ([(h, .inr (5, [.ref res, .int ie, .ref t, .int (nI z177.1), .int (nI z177.2.1), .int (wI z177.2.2), .int pa, .int (a.1.2.1 + 0), .int a.1.2.2.1, .ref ki]))]) (alC cO a.2.2.1) (a.2.2.2.2))
            have hP := hP.perm hPm
            have hD := hD.perm hPm
            have hal201 : mxB (4 * alK a.2.2.1 + alS a.2.2.1 a.1.2.2.2.length) (4 * alK a.2.2.1) (4 * (10 + 2 * a.1.2.2.2.length)) := al_costM hj3.1
            have haz201 := (al_cost hj3.1).2
            refine al_add (own := "TrustChain$Reader") 0 _ q61 ki a.1.2.2.2.length a.2.2.2.1 cO a.2.2.1 rfl qn9_238 ⟨hx, hb, hml, hown, hts⟩ tbin q4_224 hN (hT0.keep hS hAs) hAs (Nat.le_trans hB0 hS.1) hA hK 1 rfl hP hD hS hj3.1 (by omega) (hj3.toF (fun q9 hq9 => List.mem_append_right _ (List.mem_append_left _ hq9))) ⟨0, _, rfl⟩ (Nat.le_of_ble_eq_true rfl) (Nat.le_of_ble_eq_true rfl) (by omega) (by have := mxU hal201; have h1 := mxU hj6; omega) hl.1 (Nat.le_of_ble_eq_true rfl) d_Reader_readExtensions_201 (fun o201 m201 H201 locs hi201 hg201 hk201 he201 hf201 hv201 hP hD hS => ?_)
            change mxB (alK o201) (alK a.2.2.1) (10 + 2 * a.1.2.2.2.length) at hk201
            have hsa201 : (6 * a.2.1 + 4 * (alK a.2.2.1 - alK o70)) + 6 + alS a.2.2.1 a.1.2.2.2.length ≤ (6 * ((en - x.1) / 4 + 1) + 4 * (10 + 2 * ((en - x.1) / 4 + 1))) := by have := mxU hal201; have h1 := mxU hj6; omega
            clear hal201
            have hln201 : a.1.2.2.2.length + 1 = (a.1.2.2.2 ++ [(z56.1.1, z56.2)]).length := by rw [List.length_append]; rfl
            rw [hln201] at hP hD
            have hPm : List.Perm ((ki, .inr (11, [.ref (alO sb o201), .int (nI (a.1.2.2.2 ++ [(z56.1.1, z56.2)]).length), .int m201])) :: (alC cO o201 ++ (([(q61, .inr (0, [.ref t, .int (nI z56.1.1), .int (nI z56.2)])), (t, .inl (cB, n, .inl (tx u))), (h, .inr (5, [.ref res, .int ie, .ref t, .int (nI z177.1), .int (nI z177.2.1), .int (wI z177.2.2), .int pa, .int (a.1.2.1 + 0), .int a.1.2.2.1, .ref ki]))] : va_W) ++ (a.2.2.2.2 ++ []))) : va_W) (([(ki, .inr (11, [.ref (alO sb o201), .int (nI (a.1.2.2.2 ++ [(z56.1.1, z56.2)]).length), .int m201])), (t, .inl (cB, n, .inl (tx u))), (h, .inr (5, [.ref res, .int ie, .ref t, .int (nI z177.1), .int (nI z177.2.1), .int (wI z177.2.2), .int pa, .int (a.1.2.1 + 0), .int a.1.2.2.1, .ref ki]))] : va_W) ++ (alC cO o201 ++ (a.2.2.2.2 ++ (([(q61, .inr (0, [.ref t, .int (nI z56.1.1), .int (nI z56.2)]))] : va_W) ++ [])))) := ((fun (b0 b1 b2 b3 b4 b5 : va_W) => (blk_perm (fun i => ([b0, b1, b2, b3, b4, b5] : List va_W).getD i []) [0, 1, 2, 3, 4, 5] [0, 3, 4, 1, 5, 2] rfl : List.Perm (b0 ++ (b1 ++ (b2 ++ (b3 ++ (b4 ++ (b5 ++ [])))))) (b0 ++ (b3 ++ (b4 ++ (b1 ++ (b5 ++ (b2 ++ [])))))))) ([(ki, .inr (11, [.ref (alO sb o201), .int (nI (a.1.2.2.2 ++ [(z56.1.1, z56.2)]).length), .int m201]))]) (alC cO o201) ([(q61, .inr (0, [.ref t, .int (nI z56.1.1), .int (nI z56.2)]))]) ([(t, .inl (cB, n, .inl (tx u)))]) ([(h, .inr (5, [.ref res, .int ie, .ref t, .int (nI z177.1), .int (nI z177.2.1), .int (wI z177.2.2), .int pa, .int (a.1.2.1 + 0), .int a.1.2.2.1, .ref ki]))]) (a.2.2.2.2))
            have hP := hP.perm hPm
            have hD := hD.perm hPm
            obtain ⟨pl201, hpl201⟩ : ∃ z : va_W, z = a.2.2.2.2 ++ [(q61, .inr (0, [.ref t, .int (nI z56.1.1), .int (nI z56.2)]))] := ⟨_, rfl⟩
            have hPe : (([(ki, .inr (11, [.ref (alO sb o201), .int (nI (a.1.2.2.2 ++ [(z56.1.1, z56.2)]).length), .int m201])), (t, .inl (cB, n, .inl (tx u))), (h, .inr (5, [.ref res, .int ie, .ref t, .int (nI z177.1), .int (nI z177.2.1), .int (wI z177.2.2), .int pa, .int (a.1.2.1 + 0), .int a.1.2.2.1, .ref ki]))] : va_W) ++ (alC cO o201 ++ (a.2.2.2.2 ++ (([(q61, .inr (0, [.ref t, .int (nI z56.1.1), .int (nI z56.2)]))] : va_W) ++ [])))) = (([(ki, .inr (11, [.ref (alO sb o201), .int (nI (a.1.2.2.2 ++ [(z56.1.1, z56.2)]).length), .int m201])), (t, .inl (cB, n, .inl (tx u))), (h, .inr (5, [.ref res, .int ie, .ref t, .int (nI z177.1), .int (nI z177.2.1), .int (wI z177.2.2), .int pa, .int (a.1.2.1 + 0), .int a.1.2.2.1, .ref ki]))] : va_W) ++ (alC cO o201 ++ (pl201 ++ []))) := by
              subst hpl201
              exact ((fun (b0 b1 b2 b3 b4 b5 : va_W) => (by simp only [List.append_assoc] : (b0 ++ (b1 ++ (b2 ++ (b3 ++ (b4 ++ (b5 ++ [])))))) = (b0 ++ (b1 ++ (b2 ++ (b3 ++ ((b4 ++ b5) ++ []))))))) ([(ki, .inr (11, [.ref (alO sb o201), .int (nI (a.1.2.2.2 ++ [(z56.1.1, z56.2)]).length), .int m201]))]) ([(t, .inl (cB, n, .inl (tx u)))]) ([(h, .inr (5, [.ref res, .int ie, .ref t, .int (nI z177.1), .int (nI z177.2.1), .int (wI z177.2.2), .int pa, .int (a.1.2.1 + 0), .int a.1.2.2.1, .ref ki]))]) (alC cO o201) (a.2.2.2.2) ([(q61, .inr (0, [.ref t, .int (nI z56.1.1), .int (nI z56.2)]))]))
            rw [hPe] at hP hD
            have hm201 : ∀ q ∈ a.2.2.2.2, q ∈ pl201 := fun q hq => by rw [hpl201]; exact List.mem_append_left _ hq
            have E201 : elS t n pl201 o201 (a.1.2.2.2 ++ [(z56.1.1, z56.2)]) := hj3.snoc hm201 hi201 hf201 hv201 (by rw [hpl201]; exact List.mem_append_right _ (List.mem_singleton.mpr rfl)) (by omega) (by omega)
            have hpm := fun q hq => hm201 q (hj4 q hq)
            refine lv_pop hx hb d_Reader_readExtensions_204 rfl ?_
            refine lv_aload_n hx hb d_Reader_readExtensions_205 rfl (lv_at hl 6 rfl) ?_
            refine lv_dup hx hb d_Reader_readExtensions_206 rfl ?_
            refine va_get (v := .int a.1.2.2.1) hx hb htb i_ListReader hown hK hP 2 rfl rfl 8 (by decide) (htb _ q3_81) (fun _ h9 => h9) rfl d_Reader_readExtensions_207 ?_
            refine lv_iconst (v := 1) hx hb d_Reader_readExtensions_210 (by decide) ?_
            refine lv_iadd hx hb d_Reader_readExtensions_211 ?_
            refine va_put (v := .int (a.1.2.2.1 + 1)) (ty := .int) hx hb htb i_ListReader t_ListReader t_ListReader_ok n_ListReader hown hK hP hD hS 2 rfl rfl 8 (by decide) (htb _ q3_81) (fun _ h9 => h9) rfl (by decide +kernel) rfl rfl (Nat.le_of_ble_eq_true rfl) d_Reader_readExtensions_212 (fun H212 locs hP hD hS => ?_)
            change va_P (dC, dI) classes (([(ki, .inr (11, [.ref (alO sb o201), .int (nI (a.1.2.2.2 ++ [(z56.1.1, z56.2)]).length), .int m201])), (t, .inl (cB, n, .inl (tx u))), (h, .inr (5, [.ref res, .int ie, .ref t, .int (nI z177.1), .int (nI z177.2.1), .int (wI z177.2.2), .int pa, .int (a.1.2.1 + 0), .int (a.1.2.2.1 + 1), .ref ki]))] : va_W) ++ (alC cO o201 ++ (pl201 ++ []))) H212 at hP
            change va_D A (([(ki, .inr (11, [.ref (alO sb o201), .int (nI (a.1.2.2.2 ++ [(z56.1.1, z56.2)]).length), .int m201])), (t, .inl (cB, n, .inl (tx u))), (h, .inr (5, [.ref res, .int ie, .ref t, .int (nI z177.1), .int (nI z177.2.1), .int (wI z177.2.2), .int pa, .int (a.1.2.1 + 0), .int (a.1.2.2.1 + 1), .ref ki]))] : va_W) ++ (alC cO o201 ++ (pl201 ++ []))) at hD
            refine lv_iinc (v := nI (a.2.1 + 1)) (lv' := [(3, .int (nI (a.2.1 + 1))), (9, .int (nI z120.2)), (8, .int (zP (z93.2.2 = none ∧ z93.1 < z46.2 ∧ u z93.1 = 1))), (7, .ref q61), (6, .int (nI z56.2)), (5, .int (nI z46.2)), (4, .int (nI a.1.1.1)), (0, .ref h), (2, .int (nI z4.2))]) hx hb d_Reader_readExtensions_215 hl (k := 8) rfl (nI_1 _) (by decide) rfl (fun ls hl => ?_)
            refine lv_goto (tgt := 17) hx hb d_Reader_readExtensions_218 (by decide) ?_
            have e9 : rb_extL u n ie z4.2 a.1 = (z177, a.1.2.1 + 0, a.1.2.2.1 + 1, (a.1.2.2.2 ++ [(z56.1.1, z56.2)])) := by
              subst hz177
              subst hz152
              subst hz133
              subst hz120
              subst hz93
              subst hz56
              subst hz46
              exact ((if_neg p107).trans ((if_pos p136).trans ((if_neg p186).trans rfl)))
            have B46 := opn_bd u n a.1.1 48 z4.2
            rw [← hz46] at B46
            have B56 := opn_bd u n z46.1 6 z46.2
            rw [← hz56] at B56
            have B93 := lea_bd z56.1 z56.2 (zP (oidOK u z56.1.1 z56.2)) hc56
            rw [← hz93] at B93
            have B120 := opn_bd u n z93 4 z46.2
            rw [← hz120] at B120
            have B133 := (knL_bd u n ie (kdN u z56.1.1 z56.2) z120.1 z120.2)
            rw [← hz133] at B133
            have B7 := lea_bd z133.1 z120.2 (1 : Int32) (by have := B133.2.1; omega)
            rw [← hz152] at B7
            have B7' : z152.2.2 = none → z120.2 ≤ z152.1 := fun q => by rw [hz152] at q ⊢; exact Nat.le_of_eq (lea_at q).1.symm
            have B8 := fin_bd z152 z46.2 z46.2
            rw [← hz177] at B8
            have hch := ext_chain B46.1 (fun q => (B46.2.2.2.2 q).1) B46.2.2.1 B56.1 (fun q => (B56.2.2.2.2 q).1) B56.2.2.1 B93 (bd.rf z93 z46.2) B120.1 B120.2.2.1 B133 B7 B7' B8 (bd.rf z177 z4.2)
            clear B46 B56 B93 B120 B133 B7 B7' B8
            change bd a.1.1 z177 z4.2 ∧ (z177.2.2 = none → a.1.1.1 + 4 ≤ z120.1.1 ∧ z120.2 ≤ z177.1) at hch
            obtain ⟨⟨hq1, hq2, hq3⟩, hq4⟩ := hch
            have hq2 : z177.1 ≤ z4.2 := by omega
            have hlp := loop_go hj2 (by omega) hcond
            rw [e9] at hlp
            refine W.widen (k := (3 * (a.2.1 + 1))) (n := (6 * (a.2.1 + 1) + 4 * (alK o201 - alK o70))) (by omega) (by omega) ?_
            exact ih ((z177, a.1.2.1 + 0, a.1.2.2.1 + 1, (a.1.2.2.2 ++ [(z56.1.1, z56.2)])), a.2.1 + 1, o201, m201, pl201) _ _ ls (by show 2048 - (a.2.1 + 1) < 2048 - a.2.1; omega) (⟨hi177, hk2, hlp, E201, hpm, by show alK o70 ≤ alK o201; omega, by have h1 := mxU hj6; have h2 := mxU hk201; show alK o201 ≤ max (alK o70) (10 + 2 * (a.1.2.2.2 ++ [(z56.1.1, z56.2)]).length); omega, by show (a.1.2.2.2 ++ [(z56.1.1, z56.2)]).length = a.2.1 + 1; omega, by show z177.1 ≤ z4.2; omega, by show z4.1.1 ≤ z177.1; omega, fun q => q.elim (fun q => by have := hq4 q; show z4.1.1 + 4 * (a.2.1 + 1) ≤ z177.1; omega) (fun q => absurd q (Nat.succ_ne_zero _)), by show z4.1.1 + 4 * (a.2.1 + 1) ≤ z177.1 + 4; omega⟩) (hP.part [2, 1, 0] rfl) (hD.part [2, 1, 0] (by decide) rfl) hS (lv_sub hl [7, 8, 0] rfl)
          · have p186 : repP u a.1.2.2.2 z56.1.1 z56.2 := (zP_1 c186)
            refine lv_aload_n hx hb d_Reader_readExtensions_189 rfl (lv_at hl 6 rfl) ?_
            refine lv_iload hx hb d_Reader_readExtensions_190 (lv_at hl 5 rfl) ?_
            have hFc := va_free (wc := [(h, .inr (5, [.ref res, .int ie, .ref t, .int (nI z177.1), .int (nI z177.2.1), .int (wI z177.2.2), .int pa, .int (a.1.2.1 + 0), .int a.1.2.2.1, .ref ki]))]) hD hS hA [3] rfl
            refine va_callv (mu_runU (As := [.int (nI a.1.1.1)]) (rest := []) ⟨hx, hb, hml, hown, hts⟩ (cL_refuse l dC dI sb h res t ki z177.1 z177.2.1 n z177.2.2 pa (a.1.2.1 + 0) a.1.2.2.1 ie cB u a.1.1.1 H177.size ((hi177).w hn)) (cu_of (n := 1) hts tbin q3_227 q3_229 q3_228 q3_231 q1_15 q3_232 rfl (by decide +kernel) ⟨rfl, rfl⟩ ⟨Nat.le_of_ble_eq_true rfl, Nat.le_of_ble_eq_true rfl⟩) rfl ⟨by omega, by omega⟩ hN (hT0.keep hS hAs) hAs (Nat.le_trans hB0 hS.1) hK hP hD [3] (by decide) rfl [] rfl 3 5 rfl rfl rfl hl.1 rfl (Nat.le_of_ble_eq_true rfl) d_Reader_readExtensions_192) hS (fun q _ h => hFc q h) hFc (fun u192 tS H192 locs ht hvm hw192 hB hz1 hk1 hS => ?_)
            obtain ⟨z192, rfl⟩ : ∃ z, z = u192 := ⟨_, rfl⟩
            obtain ⟨hP1, hK1, hD1⟩ := hB
            rw [ht] at hP1
            obtain ⟨hP, hD⟩ := va_joinQ (X := [(ki, .inr (11, [.ref (alO sb a.2.2.1), .int (nI a.1.2.2.2.length), .int a.2.2.2.1])), (q61, .inr (0, [.ref t, .int (nI z56.1.1), .int (nI z56.2)])), (t, .inl (cB, n, .inl (tx u))), (h, .inr (5, [.ref res, .int ie, .ref t, .int (nI z177.1), .int (nI z177.2.1), .int (wI z177.2.2), .int pa, .int (a.1.2.1 + 0), .int a.1.2.2.1, .ref ki]))]) (pl := (alC cO a.2.2.1 ++ (a.2.2.2.2 ++ []))) (wr := [(ki, .inr (11, [.ref (alO sb a.2.2.1), .int (nI a.1.2.2.2.length), .int a.2.2.2.1])), (q61, .inr (0, [.ref t, .int (nI z56.1.1), .int (nI z56.2)])), (t, .inl (cB, n, .inl (tx u)))]) (w1 := [(h, .inr (5, [.ref res, .int ie, .ref t, .int (nI z192.1), .int (nI z192.2.1), .int (wI z192.2.2), .int pa, .int (a.1.2.1 + 0), .int a.1.2.2.1, .ref ki]))]) hP hD [3] [0, 1, 2] rfl rfl (by decide) (by decide) hk1 hFc hP1 hD1
            change va_P (dC, dI) classes (([(ki, .inr (11, [.ref (alO sb a.2.2.1), .int (nI a.1.2.2.2.length), .int a.2.2.2.1])), (q61, .inr (0, [.ref t, .int (nI z56.1.1), .int (nI z56.2)])), (t, .inl (cB, n, .inl (tx u))), (h, .inr (5, [.ref res, .int ie, .ref t, .int (nI z192.1), .int (nI z192.2.1), .int (wI z192.2.2), .int pa, .int (a.1.2.1 + 0), .int a.1.2.2.1, .ref ki]))] : va_W) ++ (alC cO a.2.2.1 ++ (a.2.2.2.2 ++ []))) H192 at hP
            change va_D A (([(ki, .inr (11, [.ref (alO sb a.2.2.1), .int (nI a.1.2.2.2.length), .int a.2.2.2.1])), (q61, .inr (0, [.ref t, .int (nI z56.1.1), .int (nI z56.2)])), (t, .inl (cB, n, .inl (tx u))), (h, .inr (5, [.ref res, .int ie, .ref t, .int (nI z192.1), .int (nI z192.2.1), .int (wI z192.2.2), .int pa, .int (a.1.2.1 + 0), .int a.1.2.2.1, .ref ki]))] : va_W) ++ (alC cO a.2.2.1 ++ (a.2.2.2.2 ++ []))) at hD
            have hz192 : z192 = rd_ref z177 a.1.1.1 := hw192
            have hi192 : rdInv n z192 := by rw [hz192]; exact ref_inv hi177 (by have := hi.1; omega)
            have hb192 : z192.1 ≤ n := hi192.1
            refine lv_aload_n hx hb d_Reader_readExtensions_195 rfl (lv_at hl 6 rfl) ?_
            refine va_get (v := .ref ki) hx hb htb i_ListReader hown hK hP 3 rfl rfl 9 (by decide) (htb _ q3_84) (fun _ h9 => h9) rfl d_Reader_readExtensions_196 ?_
            refine lv_aload hx hb d_Reader_readExtensions_199 (lv_at hl 2 rfl) ?_
            have hPm : List.Perm ((([(ki, .inr (11, [.ref (alO sb a.2.2.1), .int (nI a.1.2.2.2.length), .int a.2.2.2.1])), (q61, .inr (0, [.ref t, .int (nI z56.1.1), .int (nI z56.2)])), (t, .inl (cB, n, .inl (tx u))), (h, .inr (5, [.ref res, .int ie, .ref t, .int (nI z192.1), .int (nI z192.2.1), .int (wI z192.2.2), .int pa, .int (a.1.2.1 + 0), .int a.1.2.2.1, .ref ki]))] : va_W) ++ (alC cO a.2.2.1 ++ (a.2.2.2.2 ++ []))) : va_W) ((ki, .inr (11, [.ref (alO sb a.2.2.1), .int (nI a.1.2.2.2.length), .int a.2.2.2.1])) :: (alC cO a.2.2.1 ++ (([(q61, .inr (0, [.ref t, .int (nI z56.1.1), .int (nI z56.2)])), (t, .inl (cB, n, .inl (tx u))), (h, .inr (5, [.ref res, .int ie, .ref t, .int (nI z192.1), .int (nI z192.2.1), .int (wI z192.2.2), .int pa, .int (a.1.2.1 + 0), .int a.1.2.2.1, .ref ki]))] : va_W) ++ (a.2.2.2.2 ++ [])))) := ((fun (b0 b1 b2 b3 b4 b5 : va_W) => (blk_perm (fun i => ([b0, b1, b2, b3, b4, b5] : List va_W).getD i []) [0, 1, 2, 3, 4, 5] [0, 4, 1, 2, 3, 5] rfl : List.Perm (b0 ++ (b1 ++ (b2 ++ (b3 ++ (b4 ++ (b5 ++ [])))))) (b0 ++ (b4 ++ (b1 ++ (b2 ++ (b3 ++ (b5 ++ [])))))))) ([(ki, .inr (11, [.ref (alO sb a.2.2.1), .int (nI a.1.2.2.2.length), .int a.2.2.2.1]))]) ([(q61, .inr (0, [.ref t, .int (nI z56.1.1), .int (nI z56.2)]))]) ([(t, .inl (cB, n, .inl (tx u)))]) ([(h, .inr (5, [.ref res, .int ie, .ref t, .int (nI z192.1), .int (nI z192.2.1), .int (wI z192.2.2), .int pa, .int (a.1.2.1 + 0), .int a.1.2.2.1, .ref ki]))]) (alC cO a.2.2.1) (a.2.2.2.2))
            have hP := hP.perm hPm
            have hD := hD.perm hPm
            have hal201 : mxB (4 * alK a.2.2.1 + alS a.2.2.1 a.1.2.2.2.length) (4 * alK a.2.2.1) (4 * (10 + 2 * a.1.2.2.2.length)) := al_costM hj3.1
            have haz201 := (al_cost hj3.1).2
            refine al_add (own := "TrustChain$Reader") 0 _ q61 ki a.1.2.2.2.length a.2.2.2.1 cO a.2.2.1 rfl qn9_238 ⟨hx, hb, hml, hown, hts⟩ tbin q4_224 hN (hT0.keep hS hAs) hAs (Nat.le_trans hB0 hS.1) hA hK 1 rfl hP hD hS hj3.1 (by omega) (hj3.toF (fun q9 hq9 => List.mem_append_right _ (List.mem_append_left _ hq9))) ⟨0, _, rfl⟩ (Nat.le_of_ble_eq_true rfl) (Nat.le_of_ble_eq_true rfl) (by omega) (by have := mxU hal201; have h1 := mxU hj6; omega) hl.1 (Nat.le_of_ble_eq_true rfl) d_Reader_readExtensions_201 (fun o201 m201 H201 locs hi201 hg201 hk201 he201 hf201 hv201 hP hD hS => ?_)
            change mxB (alK o201) (alK a.2.2.1) (10 + 2 * a.1.2.2.2.length) at hk201
            have hsa201 : (6 * a.2.1 + 4 * (alK a.2.2.1 - alK o70)) + 6 + alS a.2.2.1 a.1.2.2.2.length ≤ (6 * ((en - x.1) / 4 + 1) + 4 * (10 + 2 * ((en - x.1) / 4 + 1))) := by have := mxU hal201; have h1 := mxU hj6; omega
            clear hal201
            have hln201 : a.1.2.2.2.length + 1 = (a.1.2.2.2 ++ [(z56.1.1, z56.2)]).length := by rw [List.length_append]; rfl
            rw [hln201] at hP hD
            have hPm : List.Perm ((ki, .inr (11, [.ref (alO sb o201), .int (nI (a.1.2.2.2 ++ [(z56.1.1, z56.2)]).length), .int m201])) :: (alC cO o201 ++ (([(q61, .inr (0, [.ref t, .int (nI z56.1.1), .int (nI z56.2)])), (t, .inl (cB, n, .inl (tx u))), (h, .inr (5, [.ref res, .int ie, .ref t, .int (nI z192.1), .int (nI z192.2.1), .int (wI z192.2.2), .int pa, .int (a.1.2.1 + 0), .int a.1.2.2.1, .ref ki]))] : va_W) ++ (a.2.2.2.2 ++ []))) : va_W) (([(ki, .inr (11, [.ref (alO sb o201), .int (nI (a.1.2.2.2 ++ [(z56.1.1, z56.2)]).length), .int m201])), (t, .inl (cB, n, .inl (tx u))), (h, .inr (5, [.ref res, .int ie, .ref t, .int (nI z192.1), .int (nI z192.2.1), .int (wI z192.2.2), .int pa, .int (a.1.2.1 + 0), .int a.1.2.2.1, .ref ki]))] : va_W) ++ (alC cO o201 ++ (a.2.2.2.2 ++ (([(q61, .inr (0, [.ref t, .int (nI z56.1.1), .int (nI z56.2)]))] : va_W) ++ [])))) := ((fun (b0 b1 b2 b3 b4 b5 : va_W) => (blk_perm (fun i => ([b0, b1, b2, b3, b4, b5] : List va_W).getD i []) [0, 1, 2, 3, 4, 5] [0, 3, 4, 1, 5, 2] rfl : List.Perm (b0 ++ (b1 ++ (b2 ++ (b3 ++ (b4 ++ (b5 ++ [])))))) (b0 ++ (b3 ++ (b4 ++ (b1 ++ (b5 ++ (b2 ++ [])))))))) ([(ki, .inr (11, [.ref (alO sb o201), .int (nI (a.1.2.2.2 ++ [(z56.1.1, z56.2)]).length), .int m201]))]) (alC cO o201) ([(q61, .inr (0, [.ref t, .int (nI z56.1.1), .int (nI z56.2)]))]) ([(t, .inl (cB, n, .inl (tx u)))]) ([(h, .inr (5, [.ref res, .int ie, .ref t, .int (nI z192.1), .int (nI z192.2.1), .int (wI z192.2.2), .int pa, .int (a.1.2.1 + 0), .int a.1.2.2.1, .ref ki]))]) (a.2.2.2.2))
            have hP := hP.perm hPm
            have hD := hD.perm hPm
            obtain ⟨pl201, hpl201⟩ : ∃ z : va_W, z = a.2.2.2.2 ++ [(q61, .inr (0, [.ref t, .int (nI z56.1.1), .int (nI z56.2)]))] := ⟨_, rfl⟩
            have hPe : (([(ki, .inr (11, [.ref (alO sb o201), .int (nI (a.1.2.2.2 ++ [(z56.1.1, z56.2)]).length), .int m201])), (t, .inl (cB, n, .inl (tx u))), (h, .inr (5, [.ref res, .int ie, .ref t, .int (nI z192.1), .int (nI z192.2.1), .int (wI z192.2.2), .int pa, .int (a.1.2.1 + 0), .int a.1.2.2.1, .ref ki]))] : va_W) ++ (alC cO o201 ++ (a.2.2.2.2 ++ (([(q61, .inr (0, [.ref t, .int (nI z56.1.1), .int (nI z56.2)]))] : va_W) ++ [])))) = (([(ki, .inr (11, [.ref (alO sb o201), .int (nI (a.1.2.2.2 ++ [(z56.1.1, z56.2)]).length), .int m201])), (t, .inl (cB, n, .inl (tx u))), (h, .inr (5, [.ref res, .int ie, .ref t, .int (nI z192.1), .int (nI z192.2.1), .int (wI z192.2.2), .int pa, .int (a.1.2.1 + 0), .int a.1.2.2.1, .ref ki]))] : va_W) ++ (alC cO o201 ++ (pl201 ++ []))) := by
              subst hpl201
              exact ((fun (b0 b1 b2 b3 b4 b5 : va_W) => (by simp only [List.append_assoc] : (b0 ++ (b1 ++ (b2 ++ (b3 ++ (b4 ++ (b5 ++ [])))))) = (b0 ++ (b1 ++ (b2 ++ (b3 ++ ((b4 ++ b5) ++ []))))))) ([(ki, .inr (11, [.ref (alO sb o201), .int (nI (a.1.2.2.2 ++ [(z56.1.1, z56.2)]).length), .int m201]))]) ([(t, .inl (cB, n, .inl (tx u)))]) ([(h, .inr (5, [.ref res, .int ie, .ref t, .int (nI z192.1), .int (nI z192.2.1), .int (wI z192.2.2), .int pa, .int (a.1.2.1 + 0), .int a.1.2.2.1, .ref ki]))]) (alC cO o201) (a.2.2.2.2) ([(q61, .inr (0, [.ref t, .int (nI z56.1.1), .int (nI z56.2)]))]))
            rw [hPe] at hP hD
            have hm201 : ∀ q ∈ a.2.2.2.2, q ∈ pl201 := fun q hq => by rw [hpl201]; exact List.mem_append_left _ hq
            have E201 : elS t n pl201 o201 (a.1.2.2.2 ++ [(z56.1.1, z56.2)]) := hj3.snoc hm201 hi201 hf201 hv201 (by rw [hpl201]; exact List.mem_append_right _ (List.mem_singleton.mpr rfl)) (by omega) (by omega)
            have hpm := fun q hq => hm201 q (hj4 q hq)
            refine lv_pop hx hb d_Reader_readExtensions_204 rfl ?_
            refine lv_aload_n hx hb d_Reader_readExtensions_205 rfl (lv_at hl 6 rfl) ?_
            refine lv_dup hx hb d_Reader_readExtensions_206 rfl ?_
            refine va_get (v := .int a.1.2.2.1) hx hb htb i_ListReader hown hK hP 2 rfl rfl 8 (by decide) (htb _ q3_81) (fun _ h9 => h9) rfl d_Reader_readExtensions_207 ?_
            refine lv_iconst (v := 1) hx hb d_Reader_readExtensions_210 (by decide) ?_
            refine lv_iadd hx hb d_Reader_readExtensions_211 ?_
            refine va_put (v := .int (a.1.2.2.1 + 1)) (ty := .int) hx hb htb i_ListReader t_ListReader t_ListReader_ok n_ListReader hown hK hP hD hS 2 rfl rfl 8 (by decide) (htb _ q3_81) (fun _ h9 => h9) rfl (by decide +kernel) rfl rfl (Nat.le_of_ble_eq_true rfl) d_Reader_readExtensions_212 (fun H212 locs hP hD hS => ?_)
            change va_P (dC, dI) classes (([(ki, .inr (11, [.ref (alO sb o201), .int (nI (a.1.2.2.2 ++ [(z56.1.1, z56.2)]).length), .int m201])), (t, .inl (cB, n, .inl (tx u))), (h, .inr (5, [.ref res, .int ie, .ref t, .int (nI z192.1), .int (nI z192.2.1), .int (wI z192.2.2), .int pa, .int (a.1.2.1 + 0), .int (a.1.2.2.1 + 1), .ref ki]))] : va_W) ++ (alC cO o201 ++ (pl201 ++ []))) H212 at hP
            change va_D A (([(ki, .inr (11, [.ref (alO sb o201), .int (nI (a.1.2.2.2 ++ [(z56.1.1, z56.2)]).length), .int m201])), (t, .inl (cB, n, .inl (tx u))), (h, .inr (5, [.ref res, .int ie, .ref t, .int (nI z192.1), .int (nI z192.2.1), .int (wI z192.2.2), .int pa, .int (a.1.2.1 + 0), .int (a.1.2.2.1 + 1), .ref ki]))] : va_W) ++ (alC cO o201 ++ (pl201 ++ []))) at hD
            refine lv_iinc (v := nI (a.2.1 + 1)) (lv' := [(3, .int (nI (a.2.1 + 1))), (9, .int (nI z120.2)), (8, .int (zP (z93.2.2 = none ∧ z93.1 < z46.2 ∧ u z93.1 = 1))), (7, .ref q61), (6, .int (nI z56.2)), (5, .int (nI z46.2)), (4, .int (nI a.1.1.1)), (0, .ref h), (2, .int (nI z4.2))]) hx hb d_Reader_readExtensions_215 hl (k := 8) rfl (nI_1 _) (by decide) rfl (fun ls hl => ?_)
            refine lv_goto (tgt := 17) hx hb d_Reader_readExtensions_218 (by decide) ?_
            have e9 : rb_extL u n ie z4.2 a.1 = (z192, a.1.2.1 + 0, a.1.2.2.1 + 1, (a.1.2.2.2 ++ [(z56.1.1, z56.2)])) := by
              subst hz192
              subst hz177
              subst hz152
              subst hz133
              subst hz120
              subst hz93
              subst hz56
              subst hz46
              exact ((if_neg p107).trans ((if_pos p136).trans ((if_pos p186).trans rfl)))
            have B46 := opn_bd u n a.1.1 48 z4.2
            rw [← hz46] at B46
            have B56 := opn_bd u n z46.1 6 z46.2
            rw [← hz56] at B56
            have B93 := lea_bd z56.1 z56.2 (zP (oidOK u z56.1.1 z56.2)) hc56
            rw [← hz93] at B93
            have B120 := opn_bd u n z93 4 z46.2
            rw [← hz120] at B120
            have B133 := (knL_bd u n ie (kdN u z56.1.1 z56.2) z120.1 z120.2)
            rw [← hz133] at B133
            have B7 := lea_bd z133.1 z120.2 (1 : Int32) (by have := B133.2.1; omega)
            rw [← hz152] at B7
            have B7' : z152.2.2 = none → z120.2 ≤ z152.1 := fun q => by rw [hz152] at q ⊢; exact Nat.le_of_eq (lea_at q).1.symm
            have B8 := fin_bd z152 z46.2 z46.2
            rw [← hz177] at B8
            have B9 := ref_bd z177 a.1.1.1 z4.2
            rw [← hz192] at B9
            have hch := ext_chain B46.1 (fun q => (B46.2.2.2.2 q).1) B46.2.2.1 B56.1 (fun q => (B56.2.2.2.2 q).1) B56.2.2.1 B93 (bd.rf z93 z46.2) B120.1 B120.2.2.1 B133 B7 B7' B8 (B9)
            clear B46 B56 B93 B120 B133 B7 B7' B8 B9
            change bd a.1.1 z192 z4.2 ∧ (z192.2.2 = none → a.1.1.1 + 4 ≤ z120.1.1 ∧ z120.2 ≤ z192.1) at hch
            obtain ⟨⟨hq1, hq2, hq3⟩, hq4⟩ := hch
            have hq2 : z192.1 ≤ z4.2 := by omega
            have hlp := loop_go hj2 (by omega) hcond
            rw [e9] at hlp
            refine W.widen (k := (3 * (a.2.1 + 1))) (n := (6 * (a.2.1 + 1) + 4 * (alK o201 - alK o70))) (by omega) (by omega) ?_
            exact ih ((z192, a.1.2.1 + 0, a.1.2.2.1 + 1, (a.1.2.2.2 ++ [(z56.1.1, z56.2)])), a.2.1 + 1, o201, m201, pl201) _ _ ls (by show 2048 - (a.2.1 + 1) < 2048 - a.2.1; omega) (⟨hi192, hk2, hlp, E201, hpm, by show alK o70 ≤ alK o201; omega, by have h1 := mxU hj6; have h2 := mxU hk201; show alK o201 ≤ max (alK o70) (10 + 2 * (a.1.2.2.2 ++ [(z56.1.1, z56.2)]).length); omega, by show (a.1.2.2.2 ++ [(z56.1.1, z56.2)]).length = a.2.1 + 1; omega, by show z192.1 ≤ z4.2; omega, by show z4.1.1 ≤ z192.1; omega, fun q => q.elim (fun q => by have := hq4 q; show z4.1.1 + 4 * (a.2.1 + 1) ≤ z192.1; omega) (fun q => absurd q (Nat.succ_ne_zero _)), by show z4.1.1 + 4 * (a.2.1 + 1) ≤ z192.1 + 4; omega⟩) (hP.part [2, 1, 0] rfl) (hD.part [2, 1, 0] (by decide) rfl) hS (lv_sub hl [7, 8, 0] rfl)
        · have p136 : ¬ (z133.2 = (0 : Int32)) := c136
          refine lv_aload_n hx hb d_Reader_readExtensions_139 rfl (lv_at hl 6 rfl) ?_
          refine lv_iload hx hb d_Reader_readExtensions_140 (lv_at hl 0 rfl) ?_
          have hFc := va_free (wc := [(h, .inr (5, [.ref res, .int ie, .ref t, .int (nI z133.1.1), .int (nI z133.1.2.1), .int (wI z133.1.2.2), .int pa, .int a.1.2.1, .int a.1.2.2.1, .ref ki]))]) hD hS hA [2] rfl
          refine va_callv (mu_runU (As := [.int (nI z120.2)]) (rest := []) ⟨hx, hb, hml, hown, hts⟩ (cL_finish l dC dI sb h res t ki z133.1.1 z133.1.2.1 n z133.1.2.2 pa a.1.2.1 a.1.2.2.1 ie cB u z120.2 H133.size ((hi133).w hn) (by have := (hi133).1; omega) (by omega)) (cu_of (n := 1) hts tbin q3_183 q9_201 q3_163 q9_203 q1_15 q3_164 rfl (by decide +kernel) ⟨rfl, rfl⟩ ⟨Nat.le_of_ble_eq_true rfl, Nat.le_of_ble_eq_true rfl⟩) rfl ⟨by omega, by omega⟩ hN (hT0.keep hS hAs) hAs (Nat.le_trans hB0 hS.1) hK hP hD [2] (by decide) rfl [] rfl 2 5 rfl rfl rfl hl.1 rfl (Nat.le_of_ble_eq_true rfl) d_Reader_readExtensions_142) hS (fun q _ h => hFc q h) hFc (fun u142 tS H142 locs ht hvm hw142 hB hz1 hk1 hS => ?_)
          obtain ⟨z142, rfl⟩ : ∃ z, z = u142 := ⟨_, rfl⟩
          obtain ⟨hP1, hK1, hD1⟩ := hB
          rw [ht] at hP1
          obtain ⟨hP, hD⟩ := va_joinQ (X := [(ki, .inr (11, [.ref (alO sb a.2.2.1), .int (nI a.1.2.2.2.length), .int a.2.2.2.1])), (q61, .inr (0, [.ref t, .int (nI z56.1.1), .int (nI z56.2)])), (h, .inr (5, [.ref res, .int ie, .ref t, .int (nI z133.1.1), .int (nI z133.1.2.1), .int (wI z133.1.2.2), .int pa, .int a.1.2.1, .int a.1.2.2.1, .ref ki])), (t, .inl (cB, n, .inl (tx u)))]) (pl := (alC cO a.2.2.1 ++ (a.2.2.2.2 ++ []))) (wr := [(ki, .inr (11, [.ref (alO sb a.2.2.1), .int (nI a.1.2.2.2.length), .int a.2.2.2.1])), (q61, .inr (0, [.ref t, .int (nI z56.1.1), .int (nI z56.2)])), (t, .inl (cB, n, .inl (tx u)))]) (w1 := [(h, .inr (5, [.ref res, .int ie, .ref t, .int (nI z142.1), .int (nI z142.2.1), .int (wI z142.2.2), .int pa, .int a.1.2.1, .int a.1.2.2.1, .ref ki]))]) hP hD [2] [0, 1, 3] rfl rfl (by decide) (by decide) hk1 hFc hP1 hD1
          change va_P (dC, dI) classes (([(ki, .inr (11, [.ref (alO sb a.2.2.1), .int (nI a.1.2.2.2.length), .int a.2.2.2.1])), (q61, .inr (0, [.ref t, .int (nI z56.1.1), .int (nI z56.2)])), (t, .inl (cB, n, .inl (tx u))), (h, .inr (5, [.ref res, .int ie, .ref t, .int (nI z142.1), .int (nI z142.2.1), .int (wI z142.2.2), .int pa, .int a.1.2.1, .int a.1.2.2.1, .ref ki]))] : va_W) ++ (alC cO a.2.2.1 ++ (a.2.2.2.2 ++ []))) H142 at hP
          change va_D A (([(ki, .inr (11, [.ref (alO sb a.2.2.1), .int (nI a.1.2.2.2.length), .int a.2.2.2.1])), (q61, .inr (0, [.ref t, .int (nI z56.1.1), .int (nI z56.2)])), (t, .inl (cB, n, .inl (tx u))), (h, .inr (5, [.ref res, .int ie, .ref t, .int (nI z142.1), .int (nI z142.2.1), .int (wI z142.2.2), .int pa, .int a.1.2.1, .int a.1.2.2.1, .ref ki]))] : va_W) ++ (alC cO a.2.2.1 ++ (a.2.2.2.2 ++ []))) at hD
          have hz142 : z142 = rd_fin z133.1 z120.2 := hw142
          have hi142 : rdInv n z142 := by rw [hz142]; exact fin_inv hi133
          have hb142 : z142.1 ≤ n := hi142.1
          refine lv_goto (tgt := 174) hx hb d_Reader_readExtensions_145 (by decide) ?_
          refine lv_aload_n hx hb d_Reader_readExtensions_174 rfl (lv_at hl 6 rfl) ?_
          refine lv_iload hx hb d_Reader_readExtensions_175 (lv_at hl 4 rfl) ?_
          have hFc := va_free (wc := [(h, .inr (5, [.ref res, .int ie, .ref t, .int (nI z142.1), .int (nI z142.2.1), .int (wI z142.2.2), .int pa, .int a.1.2.1, .int a.1.2.2.1, .ref ki]))]) hD hS hA [3] rfl
          refine va_callv (mu_runU (As := [.int (nI z46.2)]) (rest := []) ⟨hx, hb, hml, hown, hts⟩ (cL_finish l dC dI sb h res t ki z142.1 z142.2.1 n z142.2.2 pa a.1.2.1 a.1.2.2.1 ie cB u z46.2 H142.size ((hi142).w hn) (by have := (hi142).1; omega) (by omega)) (cu_of (n := 1) hts tbin q3_183 q9_201 q3_163 q9_203 q1_15 q3_164 rfl (by decide +kernel) ⟨rfl, rfl⟩ ⟨Nat.le_of_ble_eq_true rfl, Nat.le_of_ble_eq_true rfl⟩) rfl ⟨by omega, by omega⟩ hN (hT0.keep hS hAs) hAs (Nat.le_trans hB0 hS.1) hK hP hD [3] (by decide) rfl [] rfl 3 5 rfl rfl rfl hl.1 rfl (Nat.le_of_ble_eq_true rfl) d_Reader_readExtensions_177) hS (fun q _ h => hFc q h) hFc (fun u177 tS H177 locs ht hvm hw177 hB hz1 hk1 hS => ?_)
          obtain ⟨z177, rfl⟩ : ∃ z, z = u177 := ⟨_, rfl⟩
          obtain ⟨hP1, hK1, hD1⟩ := hB
          rw [ht] at hP1
          obtain ⟨hP, hD⟩ := va_joinQ (X := [(ki, .inr (11, [.ref (alO sb a.2.2.1), .int (nI a.1.2.2.2.length), .int a.2.2.2.1])), (q61, .inr (0, [.ref t, .int (nI z56.1.1), .int (nI z56.2)])), (t, .inl (cB, n, .inl (tx u))), (h, .inr (5, [.ref res, .int ie, .ref t, .int (nI z142.1), .int (nI z142.2.1), .int (wI z142.2.2), .int pa, .int a.1.2.1, .int a.1.2.2.1, .ref ki]))]) (pl := (alC cO a.2.2.1 ++ (a.2.2.2.2 ++ []))) (wr := [(ki, .inr (11, [.ref (alO sb a.2.2.1), .int (nI a.1.2.2.2.length), .int a.2.2.2.1])), (q61, .inr (0, [.ref t, .int (nI z56.1.1), .int (nI z56.2)])), (t, .inl (cB, n, .inl (tx u)))]) (w1 := [(h, .inr (5, [.ref res, .int ie, .ref t, .int (nI z177.1), .int (nI z177.2.1), .int (wI z177.2.2), .int pa, .int a.1.2.1, .int a.1.2.2.1, .ref ki]))]) hP hD [3] [0, 1, 2] rfl rfl (by decide) (by decide) hk1 hFc hP1 hD1
          change va_P (dC, dI) classes (([(ki, .inr (11, [.ref (alO sb a.2.2.1), .int (nI a.1.2.2.2.length), .int a.2.2.2.1])), (q61, .inr (0, [.ref t, .int (nI z56.1.1), .int (nI z56.2)])), (t, .inl (cB, n, .inl (tx u))), (h, .inr (5, [.ref res, .int ie, .ref t, .int (nI z177.1), .int (nI z177.2.1), .int (wI z177.2.2), .int pa, .int a.1.2.1, .int a.1.2.2.1, .ref ki]))] : va_W) ++ (alC cO a.2.2.1 ++ (a.2.2.2.2 ++ []))) H177 at hP
          change va_D A (([(ki, .inr (11, [.ref (alO sb a.2.2.1), .int (nI a.1.2.2.2.length), .int a.2.2.2.1])), (q61, .inr (0, [.ref t, .int (nI z56.1.1), .int (nI z56.2)])), (t, .inl (cB, n, .inl (tx u))), (h, .inr (5, [.ref res, .int ie, .ref t, .int (nI z177.1), .int (nI z177.2.1), .int (wI z177.2.2), .int pa, .int a.1.2.1, .int a.1.2.2.1, .ref ki]))] : va_W) ++ (alC cO a.2.2.1 ++ (a.2.2.2.2 ++ []))) at hD
          have hz177 : z177 = rd_fin z142 z46.2 := hw177
          have hi177 : rdInv n z177 := by rw [hz177]; exact fin_inv hi142
          have hb177 : z177.1 ≤ n := hi177.1
          refine lv_aload_n hx hb d_Reader_readExtensions_180 rfl (lv_at hl 6 rfl) ?_
          refine lv_aload hx hb d_Reader_readExtensions_181 (lv_at hl 2 rfl) ?_
          have hPc : va_P (dC, dI) classes (([(h, .inr (5, [.ref res, .int ie, .ref t, .int (nI z177.1), .int (nI z177.2.1), .int (wI z177.2.2), .int pa, .int a.1.2.1, .int a.1.2.2.1, .ref ki])), (t, .inl (cB, n, .inl (tx u))), (q61, .inr (0, [.ref t, .int (nI z56.1.1), .int (nI z56.2)])), (ki, .inr (11, [.ref (alO sb a.2.2.1), .int (nI a.1.2.2.2.length), .int a.2.2.2.1]))] : va_W) ++ (alC cO a.2.2.1 ++ (a.2.2.2.2 ++ []))) H177 := by
            have hPm : List.Perm ((([(ki, .inr (11, [.ref (alO sb a.2.2.1), .int (nI a.1.2.2.2.length), .int a.2.2.2.1])), (q61, .inr (0, [.ref t, .int (nI z56.1.1), .int (nI z56.2)])), (t, .inl (cB, n, .inl (tx u))), (h, .inr (5, [.ref res, .int ie, .ref t, .int (nI z177.1), .int (nI z177.2.1), .int (wI z177.2.2), .int pa, .int a.1.2.1, .int a.1.2.2.1, .ref ki]))] : va_W) ++ (alC cO a.2.2.1 ++ (a.2.2.2.2 ++ []))) : va_W) (([(h, .inr (5, [.ref res, .int ie, .ref t, .int (nI z177.1), .int (nI z177.2.1), .int (wI z177.2.2), .int pa, .int a.1.2.1, .int a.1.2.2.1, .ref ki]))] : va_W) ++ (([(t, .inl (cB, n, .inl (tx u)))] : va_W) ++ (([(q61, .inr (0, [.ref t, .int (nI z56.1.1), .int (nI z56.2)]))] : va_W) ++ (([(ki, .inr (11, [.ref (alO sb a.2.2.1), .int (nI a.1.2.2.2.length), .int a.2.2.2.1]))] : va_W) ++ (alC cO a.2.2.1 ++ (a.2.2.2.2 ++ [])))))) := ((fun (b0 b1 b2 b3 b4 b5 : va_W) => (blk_perm (fun i => ([b0, b1, b2, b3, b4, b5] : List va_W).getD i []) [0, 1, 2, 3, 4, 5] [3, 2, 1, 0, 4, 5] rfl : List.Perm (b0 ++ (b1 ++ (b2 ++ (b3 ++ (b4 ++ (b5 ++ [])))))) (b3 ++ (b2 ++ (b1 ++ (b0 ++ (b4 ++ (b5 ++ [])))))))) ([(ki, .inr (11, [.ref (alO sb a.2.2.1), .int (nI a.1.2.2.2.length), .int a.2.2.2.1]))]) ([(q61, .inr (0, [.ref t, .int (nI z56.1.1), .int (nI z56.2)]))]) ([(t, .inl (cB, n, .inl (tx u)))]) ([(h, .inr (5, [.ref res, .int ie, .ref t, .int (nI z177.1), .int (nI z177.2.1), .int (wI z177.2.2), .int pa, .int a.1.2.1, .int a.1.2.2.1, .ref ki]))]) (alC cO a.2.2.1) (a.2.2.2.2))
            have hPe : (([(h, .inr (5, [.ref res, .int ie, .ref t, .int (nI z177.1), .int (nI z177.2.1), .int (wI z177.2.2), .int pa, .int a.1.2.1, .int a.1.2.2.1, .ref ki]))] : va_W) ++ (([(t, .inl (cB, n, .inl (tx u)))] : va_W) ++ (([(q61, .inr (0, [.ref t, .int (nI z56.1.1), .int (nI z56.2)]))] : va_W) ++ (([(ki, .inr (11, [.ref (alO sb a.2.2.1), .int (nI a.1.2.2.2.length), .int a.2.2.2.1]))] : va_W) ++ (alC cO a.2.2.1 ++ (a.2.2.2.2 ++ [])))))) = (([(h, .inr (5, [.ref res, .int ie, .ref t, .int (nI z177.1), .int (nI z177.2.1), .int (wI z177.2.2), .int pa, .int a.1.2.1, .int a.1.2.2.1, .ref ki])), (t, .inl (cB, n, .inl (tx u))), (q61, .inr (0, [.ref t, .int (nI z56.1.1), .int (nI z56.2)])), (ki, .inr (11, [.ref (alO sb a.2.2.1), .int (nI a.1.2.2.2.length), .int a.2.2.2.1]))] : va_W) ++ (alC cO a.2.2.1 ++ (a.2.2.2.2 ++ []))) ++ [] := ((fun (b0 b1 b2 b3 b4 b5 : va_W) => (by simp only [List.append_assoc, List.nil_append, List.append_nil] : (b0 ++ (b1 ++ (b2 ++ (b3 ++ (b4 ++ (b5 ++ [])))))) = (b0 ++ (b1 ++ (b2 ++ (b3 ++ (b4 ++ (b5 ++ [])))))) ++ [])) ([(h, .inr (5, [.ref res, .int ie, .ref t, .int (nI z177.1), .int (nI z177.2.1), .int (wI z177.2.2), .int pa, .int a.1.2.1, .int a.1.2.2.1, .ref ki]))]) ([(t, .inl (cB, n, .inl (tx u)))]) ([(q61, .inr (0, [.ref t, .int (nI z56.1.1), .int (nI z56.2)]))]) ([(ki, .inr (11, [.ref (alO sb a.2.2.1), .int (nI a.1.2.2.2.length), .int a.2.2.2.1]))]) (alC cO a.2.2.1) (a.2.2.2.2))
            have h9 := hP.perm hPm
            rw [hPe] at h9
            exact h9.front
          refine vp_callSi (pd_callU (As := [.ref q61]) (rest := []) ⟨hx, hb, hml, hown, hts⟩ (cL_isRepeated l dC dI sb h res t ki n z177 pa a.1.2.1 a.1.2.2.1 ie cB u q61 z56.1.1 z56.2 a.2.2.2.1 cO a.2.2.1 a.1.2.2.2 a.2.2.2.2 hu hn hi177 (by omega) (by omega) hj3) (cu_of (n := 1) hts tbin q4_204 q9_212 q4_206 qx_11 q1_15 q4_207 rfl (by decide +kernel) ⟨rfl, rfl⟩ ⟨Nat.le_of_ble_eq_true rfl, Nat.le_of_ble_eq_true rfl⟩) rfl ⟨by omega, by omega⟩ hN (hT0.keep hS hAs) hK hP hPc [0, 1] rfl 3 5 rfl rfl rfl hl.1 rfl (Nat.le_of_ble_eq_true rfl) d_Reader_readExtensions_183) (fun r183 hr183 => ?_)
          obtain rfl := bz_zP hr183
          clear hPc
          refine lv_if_eq (tgt := 195) hx hb d_Reader_readExtensions_186 (by decide) (fun c186 => ?_) (fun c186 => ?_)
          · have p186 : ¬ (repP u a.1.2.2.2 z56.1.1 z56.2) := (zP_0.mp c186)
            refine lv_aload_n hx hb d_Reader_readExtensions_195 rfl (lv_at hl 6 rfl) ?_
            refine va_get (v := .ref ki) hx hb htb i_ListReader hown hK hP 3 rfl rfl 9 (by decide) (htb _ q3_84) (fun _ h9 => h9) rfl d_Reader_readExtensions_196 ?_
            refine lv_aload hx hb d_Reader_readExtensions_199 (lv_at hl 2 rfl) ?_
            have hPm : List.Perm ((([(ki, .inr (11, [.ref (alO sb a.2.2.1), .int (nI a.1.2.2.2.length), .int a.2.2.2.1])), (q61, .inr (0, [.ref t, .int (nI z56.1.1), .int (nI z56.2)])), (t, .inl (cB, n, .inl (tx u))), (h, .inr (5, [.ref res, .int ie, .ref t, .int (nI z177.1), .int (nI z177.2.1), .int (wI z177.2.2), .int pa, .int a.1.2.1, .int a.1.2.2.1, .ref ki]))] : va_W) ++ (alC cO a.2.2.1 ++ (a.2.2.2.2 ++ []))) : va_W) ((ki, .inr (11, [.ref (alO sb a.2.2.1), .int (nI a.1.2.2.2.length), .int a.2.2.2.1])) :: (alC cO a.2.2.1 ++ (([(q61, .inr (0, [.ref t, .int (nI z56.1.1), .int (nI z56.2)])), (t, .inl (cB, n, .inl (tx u))), (h, .inr (5, [.ref res, .int ie, .ref t, .int (nI z177.1), .int (nI z177.2.1), .int (wI z177.2.2), .int pa, .int a.1.2.1, .int a.1.2.2.1, .ref ki]))] : va_W) ++ (a.2.2.2.2 ++ [])))) := ((fun (b0 b1 b2 b3 b4 b5 : va_W) => (blk_perm (fun i => ([b0, b1, b2, b3, b4, b5] : List va_W).getD i []) [0, 1, 2, 3, 4, 5] [0, 4, 1, 2, 3, 5] rfl : List.Perm (b0 ++ (b1 ++ (b2 ++ (b3 ++ (b4 ++ (b5 ++ [])))))) (b0 ++ (b4 ++ (b1 ++ (b2 ++ (b3 ++ (b5 ++ [])))))))) ([(ki, .inr (11, [.ref (alO sb a.2.2.1), .int (nI a.1.2.2.2.length), .int a.2.2.2.1]))]) ([(q61, .inr (0, [.ref t, .int (nI z56.1.1), .int (nI z56.2)]))]) ([(t, .inl (cB, n, .inl (tx u)))]) ([(h, .inr (5, [.ref res, .int ie, .ref t, .int (nI z177.1), .int (nI z177.2.1), .int (wI z177.2.2), .int pa, .int a.1.2.1, .int a.1.2.2.1, .ref ki]))]) (alC cO a.2.2.1) (a.2.2.2.2))
            have hP := hP.perm hPm
            have hD := hD.perm hPm
            have hal201 : mxB (4 * alK a.2.2.1 + alS a.2.2.1 a.1.2.2.2.length) (4 * alK a.2.2.1) (4 * (10 + 2 * a.1.2.2.2.length)) := al_costM hj3.1
            have haz201 := (al_cost hj3.1).2
            refine al_add (own := "TrustChain$Reader") 0 _ q61 ki a.1.2.2.2.length a.2.2.2.1 cO a.2.2.1 rfl qn9_238 ⟨hx, hb, hml, hown, hts⟩ tbin q4_224 hN (hT0.keep hS hAs) hAs (Nat.le_trans hB0 hS.1) hA hK 1 rfl hP hD hS hj3.1 (by omega) (hj3.toF (fun q9 hq9 => List.mem_append_right _ (List.mem_append_left _ hq9))) ⟨0, _, rfl⟩ (Nat.le_of_ble_eq_true rfl) (Nat.le_of_ble_eq_true rfl) (by omega) (by have := mxU hal201; have h1 := mxU hj6; omega) hl.1 (Nat.le_of_ble_eq_true rfl) d_Reader_readExtensions_201 (fun o201 m201 H201 locs hi201 hg201 hk201 he201 hf201 hv201 hP hD hS => ?_)
            change mxB (alK o201) (alK a.2.2.1) (10 + 2 * a.1.2.2.2.length) at hk201
            have hsa201 : (6 * a.2.1 + 4 * (alK a.2.2.1 - alK o70)) + 6 + alS a.2.2.1 a.1.2.2.2.length ≤ (6 * ((en - x.1) / 4 + 1) + 4 * (10 + 2 * ((en - x.1) / 4 + 1))) := by have := mxU hal201; have h1 := mxU hj6; omega
            clear hal201
            have hln201 : a.1.2.2.2.length + 1 = (a.1.2.2.2 ++ [(z56.1.1, z56.2)]).length := by rw [List.length_append]; rfl
            rw [hln201] at hP hD
            have hPm : List.Perm ((ki, .inr (11, [.ref (alO sb o201), .int (nI (a.1.2.2.2 ++ [(z56.1.1, z56.2)]).length), .int m201])) :: (alC cO o201 ++ (([(q61, .inr (0, [.ref t, .int (nI z56.1.1), .int (nI z56.2)])), (t, .inl (cB, n, .inl (tx u))), (h, .inr (5, [.ref res, .int ie, .ref t, .int (nI z177.1), .int (nI z177.2.1), .int (wI z177.2.2), .int pa, .int a.1.2.1, .int a.1.2.2.1, .ref ki]))] : va_W) ++ (a.2.2.2.2 ++ []))) : va_W) (([(ki, .inr (11, [.ref (alO sb o201), .int (nI (a.1.2.2.2 ++ [(z56.1.1, z56.2)]).length), .int m201])), (t, .inl (cB, n, .inl (tx u))), (h, .inr (5, [.ref res, .int ie, .ref t, .int (nI z177.1), .int (nI z177.2.1), .int (wI z177.2.2), .int pa, .int a.1.2.1, .int a.1.2.2.1, .ref ki]))] : va_W) ++ (alC cO o201 ++ (a.2.2.2.2 ++ (([(q61, .inr (0, [.ref t, .int (nI z56.1.1), .int (nI z56.2)]))] : va_W) ++ [])))) := ((fun (b0 b1 b2 b3 b4 b5 : va_W) => (blk_perm (fun i => ([b0, b1, b2, b3, b4, b5] : List va_W).getD i []) [0, 1, 2, 3, 4, 5] [0, 3, 4, 1, 5, 2] rfl : List.Perm (b0 ++ (b1 ++ (b2 ++ (b3 ++ (b4 ++ (b5 ++ [])))))) (b0 ++ (b3 ++ (b4 ++ (b1 ++ (b5 ++ (b2 ++ [])))))))) ([(ki, .inr (11, [.ref (alO sb o201), .int (nI (a.1.2.2.2 ++ [(z56.1.1, z56.2)]).length), .int m201]))]) (alC cO o201) ([(q61, .inr (0, [.ref t, .int (nI z56.1.1), .int (nI z56.2)]))]) ([(t, .inl (cB, n, .inl (tx u)))]) ([(h, .inr (5, [.ref res, .int ie, .ref t, .int (nI z177.1), .int (nI z177.2.1), .int (wI z177.2.2), .int pa, .int a.1.2.1, .int a.1.2.2.1, .ref ki]))]) (a.2.2.2.2))
            have hP := hP.perm hPm
            have hD := hD.perm hPm
            obtain ⟨pl201, hpl201⟩ : ∃ z : va_W, z = a.2.2.2.2 ++ [(q61, .inr (0, [.ref t, .int (nI z56.1.1), .int (nI z56.2)]))] := ⟨_, rfl⟩
            have hPe : (([(ki, .inr (11, [.ref (alO sb o201), .int (nI (a.1.2.2.2 ++ [(z56.1.1, z56.2)]).length), .int m201])), (t, .inl (cB, n, .inl (tx u))), (h, .inr (5, [.ref res, .int ie, .ref t, .int (nI z177.1), .int (nI z177.2.1), .int (wI z177.2.2), .int pa, .int a.1.2.1, .int a.1.2.2.1, .ref ki]))] : va_W) ++ (alC cO o201 ++ (a.2.2.2.2 ++ (([(q61, .inr (0, [.ref t, .int (nI z56.1.1), .int (nI z56.2)]))] : va_W) ++ [])))) = (([(ki, .inr (11, [.ref (alO sb o201), .int (nI (a.1.2.2.2 ++ [(z56.1.1, z56.2)]).length), .int m201])), (t, .inl (cB, n, .inl (tx u))), (h, .inr (5, [.ref res, .int ie, .ref t, .int (nI z177.1), .int (nI z177.2.1), .int (wI z177.2.2), .int pa, .int a.1.2.1, .int a.1.2.2.1, .ref ki]))] : va_W) ++ (alC cO o201 ++ (pl201 ++ []))) := by
              subst hpl201
              exact ((fun (b0 b1 b2 b3 b4 b5 : va_W) => (by simp only [List.append_assoc] : (b0 ++ (b1 ++ (b2 ++ (b3 ++ (b4 ++ (b5 ++ [])))))) = (b0 ++ (b1 ++ (b2 ++ (b3 ++ ((b4 ++ b5) ++ []))))))) ([(ki, .inr (11, [.ref (alO sb o201), .int (nI (a.1.2.2.2 ++ [(z56.1.1, z56.2)]).length), .int m201]))]) ([(t, .inl (cB, n, .inl (tx u)))]) ([(h, .inr (5, [.ref res, .int ie, .ref t, .int (nI z177.1), .int (nI z177.2.1), .int (wI z177.2.2), .int pa, .int a.1.2.1, .int a.1.2.2.1, .ref ki]))]) (alC cO o201) (a.2.2.2.2) ([(q61, .inr (0, [.ref t, .int (nI z56.1.1), .int (nI z56.2)]))]))
            rw [hPe] at hP hD
            have hm201 : ∀ q ∈ a.2.2.2.2, q ∈ pl201 := fun q hq => by rw [hpl201]; exact List.mem_append_left _ hq
            have E201 : elS t n pl201 o201 (a.1.2.2.2 ++ [(z56.1.1, z56.2)]) := hj3.snoc hm201 hi201 hf201 hv201 (by rw [hpl201]; exact List.mem_append_right _ (List.mem_singleton.mpr rfl)) (by omega) (by omega)
            have hpm := fun q hq => hm201 q (hj4 q hq)
            refine lv_pop hx hb d_Reader_readExtensions_204 rfl ?_
            refine lv_aload_n hx hb d_Reader_readExtensions_205 rfl (lv_at hl 6 rfl) ?_
            refine lv_dup hx hb d_Reader_readExtensions_206 rfl ?_
            refine va_get (v := .int a.1.2.2.1) hx hb htb i_ListReader hown hK hP 2 rfl rfl 8 (by decide) (htb _ q3_81) (fun _ h9 => h9) rfl d_Reader_readExtensions_207 ?_
            refine lv_iconst (v := 1) hx hb d_Reader_readExtensions_210 (by decide) ?_
            refine lv_iadd hx hb d_Reader_readExtensions_211 ?_
            refine va_put (v := .int (a.1.2.2.1 + 1)) (ty := .int) hx hb htb i_ListReader t_ListReader t_ListReader_ok n_ListReader hown hK hP hD hS 2 rfl rfl 8 (by decide) (htb _ q3_81) (fun _ h9 => h9) rfl (by decide +kernel) rfl rfl (Nat.le_of_ble_eq_true rfl) d_Reader_readExtensions_212 (fun H212 locs hP hD hS => ?_)
            change va_P (dC, dI) classes (([(ki, .inr (11, [.ref (alO sb o201), .int (nI (a.1.2.2.2 ++ [(z56.1.1, z56.2)]).length), .int m201])), (t, .inl (cB, n, .inl (tx u))), (h, .inr (5, [.ref res, .int ie, .ref t, .int (nI z177.1), .int (nI z177.2.1), .int (wI z177.2.2), .int pa, .int a.1.2.1, .int (a.1.2.2.1 + 1), .ref ki]))] : va_W) ++ (alC cO o201 ++ (pl201 ++ []))) H212 at hP
            change va_D A (([(ki, .inr (11, [.ref (alO sb o201), .int (nI (a.1.2.2.2 ++ [(z56.1.1, z56.2)]).length), .int m201])), (t, .inl (cB, n, .inl (tx u))), (h, .inr (5, [.ref res, .int ie, .ref t, .int (nI z177.1), .int (nI z177.2.1), .int (wI z177.2.2), .int pa, .int a.1.2.1, .int (a.1.2.2.1 + 1), .ref ki]))] : va_W) ++ (alC cO o201 ++ (pl201 ++ []))) at hD
            refine lv_iinc (v := nI (a.2.1 + 1)) (lv' := [(3, .int (nI (a.2.1 + 1))), (9, .int (nI z120.2)), (8, .int (zP (z93.2.2 = none ∧ z93.1 < z46.2 ∧ u z93.1 = 1))), (7, .ref q61), (6, .int (nI z56.2)), (5, .int (nI z46.2)), (4, .int (nI a.1.1.1)), (0, .ref h), (2, .int (nI z4.2))]) hx hb d_Reader_readExtensions_215 hl (k := 8) rfl (nI_1 _) (by decide) rfl (fun ls hl => ?_)
            refine lv_goto (tgt := 17) hx hb d_Reader_readExtensions_218 (by decide) ?_
            have e9 : rb_extL u n ie z4.2 a.1 = (z177, a.1.2.1, a.1.2.2.1 + 1, (a.1.2.2.2 ++ [(z56.1.1, z56.2)])) := by
              subst hz177
              subst hz142
              subst hz133
              subst hz120
              subst hz93
              subst hz56
              subst hz46
              exact ((if_neg p107).trans ((if_neg p136).trans ((if_neg p186).trans rfl)))
            have B46 := opn_bd u n a.1.1 48 z4.2
            rw [← hz46] at B46
            have B56 := opn_bd u n z46.1 6 z46.2
            rw [← hz56] at B56
            have B93 := lea_bd z56.1 z56.2 (zP (oidOK u z56.1.1 z56.2)) hc56
            rw [← hz93] at B93
            have B120 := opn_bd u n z93 4 z46.2
            rw [← hz120] at B120
            have B133 := (knL_bd u n ie (kdN u z56.1.1 z56.2) z120.1 z120.2)
            rw [← hz133] at B133
            have B7 := fin_bd z133.1 z120.2 z120.2
            rw [← hz142] at B7
            have B7' : z142.2.2 = none → z120.2 ≤ z142.1 := fun q => by rw [hz142] at q ⊢; exact (fin_at q).1
            have B8 := fin_bd z142 z46.2 z46.2
            rw [← hz177] at B8
            have hch := ext_chain B46.1 (fun q => (B46.2.2.2.2 q).1) B46.2.2.1 B56.1 (fun q => (B56.2.2.2.2 q).1) B56.2.2.1 B93 (bd.rf z93 z46.2) B120.1 B120.2.2.1 B133 B7 B7' B8 (bd.rf z177 z4.2)
            clear B46 B56 B93 B120 B133 B7 B7' B8
            change bd a.1.1 z177 z4.2 ∧ (z177.2.2 = none → a.1.1.1 + 4 ≤ z120.1.1 ∧ z120.2 ≤ z177.1) at hch
            obtain ⟨⟨hq1, hq2, hq3⟩, hq4⟩ := hch
            have hq2 : z177.1 ≤ z4.2 := by omega
            have hlp := loop_go hj2 (by omega) hcond
            rw [e9] at hlp
            refine W.widen (k := (3 * (a.2.1 + 1))) (n := (6 * (a.2.1 + 1) + 4 * (alK o201 - alK o70))) (by omega) (by omega) ?_
            exact ih ((z177, a.1.2.1, a.1.2.2.1 + 1, (a.1.2.2.2 ++ [(z56.1.1, z56.2)])), a.2.1 + 1, o201, m201, pl201) _ _ ls (by show 2048 - (a.2.1 + 1) < 2048 - a.2.1; omega) (⟨hi177, hk2, hlp, E201, hpm, by show alK o70 ≤ alK o201; omega, by have h1 := mxU hj6; have h2 := mxU hk201; show alK o201 ≤ max (alK o70) (10 + 2 * (a.1.2.2.2 ++ [(z56.1.1, z56.2)]).length); omega, by show (a.1.2.2.2 ++ [(z56.1.1, z56.2)]).length = a.2.1 + 1; omega, by show z177.1 ≤ z4.2; omega, by show z4.1.1 ≤ z177.1; omega, fun q => q.elim (fun q => by have := hq4 q; show z4.1.1 + 4 * (a.2.1 + 1) ≤ z177.1; omega) (fun q => absurd q (Nat.succ_ne_zero _)), by show z4.1.1 + 4 * (a.2.1 + 1) ≤ z177.1 + 4; omega⟩) (hP.part [2, 1, 0] rfl) (hD.part [2, 1, 0] (by decide) rfl) hS (lv_sub hl [7, 8, 0] rfl)
          · have p186 : repP u a.1.2.2.2 z56.1.1 z56.2 := (zP_1 c186)
            refine lv_aload_n hx hb d_Reader_readExtensions_189 rfl (lv_at hl 6 rfl) ?_
            refine lv_iload hx hb d_Reader_readExtensions_190 (lv_at hl 5 rfl) ?_
            have hFc := va_free (wc := [(h, .inr (5, [.ref res, .int ie, .ref t, .int (nI z177.1), .int (nI z177.2.1), .int (wI z177.2.2), .int pa, .int a.1.2.1, .int a.1.2.2.1, .ref ki]))]) hD hS hA [3] rfl
            refine va_callv (mu_runU (As := [.int (nI a.1.1.1)]) (rest := []) ⟨hx, hb, hml, hown, hts⟩ (cL_refuse l dC dI sb h res t ki z177.1 z177.2.1 n z177.2.2 pa a.1.2.1 a.1.2.2.1 ie cB u a.1.1.1 H177.size ((hi177).w hn)) (cu_of (n := 1) hts tbin q3_227 q3_229 q3_228 q3_231 q1_15 q3_232 rfl (by decide +kernel) ⟨rfl, rfl⟩ ⟨Nat.le_of_ble_eq_true rfl, Nat.le_of_ble_eq_true rfl⟩) rfl ⟨by omega, by omega⟩ hN (hT0.keep hS hAs) hAs (Nat.le_trans hB0 hS.1) hK hP hD [3] (by decide) rfl [] rfl 3 5 rfl rfl rfl hl.1 rfl (Nat.le_of_ble_eq_true rfl) d_Reader_readExtensions_192) hS (fun q _ h => hFc q h) hFc (fun u192 tS H192 locs ht hvm hw192 hB hz1 hk1 hS => ?_)
            obtain ⟨z192, rfl⟩ : ∃ z, z = u192 := ⟨_, rfl⟩
            obtain ⟨hP1, hK1, hD1⟩ := hB
            rw [ht] at hP1
            obtain ⟨hP, hD⟩ := va_joinQ (X := [(ki, .inr (11, [.ref (alO sb a.2.2.1), .int (nI a.1.2.2.2.length), .int a.2.2.2.1])), (q61, .inr (0, [.ref t, .int (nI z56.1.1), .int (nI z56.2)])), (t, .inl (cB, n, .inl (tx u))), (h, .inr (5, [.ref res, .int ie, .ref t, .int (nI z177.1), .int (nI z177.2.1), .int (wI z177.2.2), .int pa, .int a.1.2.1, .int a.1.2.2.1, .ref ki]))]) (pl := (alC cO a.2.2.1 ++ (a.2.2.2.2 ++ []))) (wr := [(ki, .inr (11, [.ref (alO sb a.2.2.1), .int (nI a.1.2.2.2.length), .int a.2.2.2.1])), (q61, .inr (0, [.ref t, .int (nI z56.1.1), .int (nI z56.2)])), (t, .inl (cB, n, .inl (tx u)))]) (w1 := [(h, .inr (5, [.ref res, .int ie, .ref t, .int (nI z192.1), .int (nI z192.2.1), .int (wI z192.2.2), .int pa, .int a.1.2.1, .int a.1.2.2.1, .ref ki]))]) hP hD [3] [0, 1, 2] rfl rfl (by decide) (by decide) hk1 hFc hP1 hD1
            change va_P (dC, dI) classes (([(ki, .inr (11, [.ref (alO sb a.2.2.1), .int (nI a.1.2.2.2.length), .int a.2.2.2.1])), (q61, .inr (0, [.ref t, .int (nI z56.1.1), .int (nI z56.2)])), (t, .inl (cB, n, .inl (tx u))), (h, .inr (5, [.ref res, .int ie, .ref t, .int (nI z192.1), .int (nI z192.2.1), .int (wI z192.2.2), .int pa, .int a.1.2.1, .int a.1.2.2.1, .ref ki]))] : va_W) ++ (alC cO a.2.2.1 ++ (a.2.2.2.2 ++ []))) H192 at hP
            change va_D A (([(ki, .inr (11, [.ref (alO sb a.2.2.1), .int (nI a.1.2.2.2.length), .int a.2.2.2.1])), (q61, .inr (0, [.ref t, .int (nI z56.1.1), .int (nI z56.2)])), (t, .inl (cB, n, .inl (tx u))), (h, .inr (5, [.ref res, .int ie, .ref t, .int (nI z192.1), .int (nI z192.2.1), .int (wI z192.2.2), .int pa, .int a.1.2.1, .int a.1.2.2.1, .ref ki]))] : va_W) ++ (alC cO a.2.2.1 ++ (a.2.2.2.2 ++ []))) at hD
            have hz192 : z192 = rd_ref z177 a.1.1.1 := hw192
            have hi192 : rdInv n z192 := by rw [hz192]; exact ref_inv hi177 (by have := hi.1; omega)
            have hb192 : z192.1 ≤ n := hi192.1
            refine lv_aload_n hx hb d_Reader_readExtensions_195 rfl (lv_at hl 6 rfl) ?_
            refine va_get (v := .ref ki) hx hb htb i_ListReader hown hK hP 3 rfl rfl 9 (by decide) (htb _ q3_84) (fun _ h9 => h9) rfl d_Reader_readExtensions_196 ?_
            refine lv_aload hx hb d_Reader_readExtensions_199 (lv_at hl 2 rfl) ?_
            have hPm : List.Perm ((([(ki, .inr (11, [.ref (alO sb a.2.2.1), .int (nI a.1.2.2.2.length), .int a.2.2.2.1])), (q61, .inr (0, [.ref t, .int (nI z56.1.1), .int (nI z56.2)])), (t, .inl (cB, n, .inl (tx u))), (h, .inr (5, [.ref res, .int ie, .ref t, .int (nI z192.1), .int (nI z192.2.1), .int (wI z192.2.2), .int pa, .int a.1.2.1, .int a.1.2.2.1, .ref ki]))] : va_W) ++ (alC cO a.2.2.1 ++ (a.2.2.2.2 ++ []))) : va_W) ((ki, .inr (11, [.ref (alO sb a.2.2.1), .int (nI a.1.2.2.2.length), .int a.2.2.2.1])) :: (alC cO a.2.2.1 ++ (([(q61, .inr (0, [.ref t, .int (nI z56.1.1), .int (nI z56.2)])), (t, .inl (cB, n, .inl (tx u))), (h, .inr (5, [.ref res, .int ie, .ref t, .int (nI z192.1), .int (nI z192.2.1), .int (wI z192.2.2), .int pa, .int a.1.2.1, .int a.1.2.2.1, .ref ki]))] : va_W) ++ (a.2.2.2.2 ++ [])))) := ((fun (b0 b1 b2 b3 b4 b5 : va_W) => (blk_perm (fun i => ([b0, b1, b2, b3, b4, b5] : List va_W).getD i []) [0, 1, 2, 3, 4, 5] [0, 4, 1, 2, 3, 5] rfl : List.Perm (b0 ++ (b1 ++ (b2 ++ (b3 ++ (b4 ++ (b5 ++ [])))))) (b0 ++ (b4 ++ (b1 ++ (b2 ++ (b3 ++ (b5 ++ [])))))))) ([(ki, .inr (11, [.ref (alO sb a.2.2.1), .int (nI a.1.2.2.2.length), .int a.2.2.2.1]))]) ([(q61, .inr (0, [.ref t, .int (nI z56.1.1), .int (nI z56.2)]))]) ([(t, .inl (cB, n, .inl (tx u)))]) ([(h, .inr (5, [.ref res, .int ie, .ref t, .int (nI z192.1), .int (nI z192.2.1), .int (wI z192.2.2), .int pa, .int a.1.2.1, .int a.1.2.2.1, .ref ki]))]) (alC cO a.2.2.1) (a.2.2.2.2))
            have hP := hP.perm hPm
            have hD := hD.perm hPm
            have hal201 : mxB (4 * alK a.2.2.1 + alS a.2.2.1 a.1.2.2.2.length) (4 * alK a.2.2.1) (4 * (10 + 2 * a.1.2.2.2.length)) := al_costM hj3.1
            have haz201 := (al_cost hj3.1).2
            refine al_add (own := "TrustChain$Reader") 0 _ q61 ki a.1.2.2.2.length a.2.2.2.1 cO a.2.2.1 rfl qn9_238 ⟨hx, hb, hml, hown, hts⟩ tbin q4_224 hN (hT0.keep hS hAs) hAs (Nat.le_trans hB0 hS.1) hA hK 1 rfl hP hD hS hj3.1 (by omega) (hj3.toF (fun q9 hq9 => List.mem_append_right _ (List.mem_append_left _ hq9))) ⟨0, _, rfl⟩ (Nat.le_of_ble_eq_true rfl) (Nat.le_of_ble_eq_true rfl) (by omega) (by have := mxU hal201; have h1 := mxU hj6; omega) hl.1 (Nat.le_of_ble_eq_true rfl) d_Reader_readExtensions_201 (fun o201 m201 H201 locs hi201 hg201 hk201 he201 hf201 hv201 hP hD hS => ?_)
            change mxB (alK o201) (alK a.2.2.1) (10 + 2 * a.1.2.2.2.length) at hk201
            have hsa201 : (6 * a.2.1 + 4 * (alK a.2.2.1 - alK o70)) + 6 + alS a.2.2.1 a.1.2.2.2.length ≤ (6 * ((en - x.1) / 4 + 1) + 4 * (10 + 2 * ((en - x.1) / 4 + 1))) := by have := mxU hal201; have h1 := mxU hj6; omega
            clear hal201
            have hln201 : a.1.2.2.2.length + 1 = (a.1.2.2.2 ++ [(z56.1.1, z56.2)]).length := by rw [List.length_append]; rfl
            rw [hln201] at hP hD
            have hPm : List.Perm ((ki, .inr (11, [.ref (alO sb o201), .int (nI (a.1.2.2.2 ++ [(z56.1.1, z56.2)]).length), .int m201])) :: (alC cO o201 ++ (([(q61, .inr (0, [.ref t, .int (nI z56.1.1), .int (nI z56.2)])), (t, .inl (cB, n, .inl (tx u))), (h, .inr (5, [.ref res, .int ie, .ref t, .int (nI z192.1), .int (nI z192.2.1), .int (wI z192.2.2), .int pa, .int a.1.2.1, .int a.1.2.2.1, .ref ki]))] : va_W) ++ (a.2.2.2.2 ++ []))) : va_W) (([(ki, .inr (11, [.ref (alO sb o201), .int (nI (a.1.2.2.2 ++ [(z56.1.1, z56.2)]).length), .int m201])), (t, .inl (cB, n, .inl (tx u))), (h, .inr (5, [.ref res, .int ie, .ref t, .int (nI z192.1), .int (nI z192.2.1), .int (wI z192.2.2), .int pa, .int a.1.2.1, .int a.1.2.2.1, .ref ki]))] : va_W) ++ (alC cO o201 ++ (a.2.2.2.2 ++ (([(q61, .inr (0, [.ref t, .int (nI z56.1.1), .int (nI z56.2)]))] : va_W) ++ [])))) := ((fun (b0 b1 b2 b3 b4 b5 : va_W) => (blk_perm (fun i => ([b0, b1, b2, b3, b4, b5] : List va_W).getD i []) [0, 1, 2, 3, 4, 5] [0, 3, 4, 1, 5, 2] rfl : List.Perm (b0 ++ (b1 ++ (b2 ++ (b3 ++ (b4 ++ (b5 ++ [])))))) (b0 ++ (b3 ++ (b4 ++ (b1 ++ (b5 ++ (b2 ++ [])))))))) ([(ki, .inr (11, [.ref (alO sb o201), .int (nI (a.1.2.2.2 ++ [(z56.1.1, z56.2)]).length), .int m201]))]) (alC cO o201) ([(q61, .inr (0, [.ref t, .int (nI z56.1.1), .int (nI z56.2)]))]) ([(t, .inl (cB, n, .inl (tx u)))]) ([(h, .inr (5, [.ref res, .int ie, .ref t, .int (nI z192.1), .int (nI z192.2.1), .int (wI z192.2.2), .int pa, .int a.1.2.1, .int a.1.2.2.1, .ref ki]))]) (a.2.2.2.2))
            have hP := hP.perm hPm
            have hD := hD.perm hPm
            obtain ⟨pl201, hpl201⟩ : ∃ z : va_W, z = a.2.2.2.2 ++ [(q61, .inr (0, [.ref t, .int (nI z56.1.1), .int (nI z56.2)]))] := ⟨_, rfl⟩
            have hPe : (([(ki, .inr (11, [.ref (alO sb o201), .int (nI (a.1.2.2.2 ++ [(z56.1.1, z56.2)]).length), .int m201])), (t, .inl (cB, n, .inl (tx u))), (h, .inr (5, [.ref res, .int ie, .ref t, .int (nI z192.1), .int (nI z192.2.1), .int (wI z192.2.2), .int pa, .int a.1.2.1, .int a.1.2.2.1, .ref ki]))] : va_W) ++ (alC cO o201 ++ (a.2.2.2.2 ++ (([(q61, .inr (0, [.ref t, .int (nI z56.1.1), .int (nI z56.2)]))] : va_W) ++ [])))) = (([(ki, .inr (11, [.ref (alO sb o201), .int (nI (a.1.2.2.2 ++ [(z56.1.1, z56.2)]).length), .int m201])), (t, .inl (cB, n, .inl (tx u))), (h, .inr (5, [.ref res, .int ie, .ref t, .int (nI z192.1), .int (nI z192.2.1), .int (wI z192.2.2), .int pa, .int a.1.2.1, .int a.1.2.2.1, .ref ki]))] : va_W) ++ (alC cO o201 ++ (pl201 ++ []))) := by
              subst hpl201
              exact ((fun (b0 b1 b2 b3 b4 b5 : va_W) => (by simp only [List.append_assoc] : (b0 ++ (b1 ++ (b2 ++ (b3 ++ (b4 ++ (b5 ++ [])))))) = (b0 ++ (b1 ++ (b2 ++ (b3 ++ ((b4 ++ b5) ++ []))))))) ([(ki, .inr (11, [.ref (alO sb o201), .int (nI (a.1.2.2.2 ++ [(z56.1.1, z56.2)]).length), .int m201]))]) ([(t, .inl (cB, n, .inl (tx u)))]) ([(h, .inr (5, [.ref res, .int ie, .ref t, .int (nI z192.1), .int (nI z192.2.1), .int (wI z192.2.2), .int pa, .int a.1.2.1, .int a.1.2.2.1, .ref ki]))]) (alC cO o201) (a.2.2.2.2) ([(q61, .inr (0, [.ref t, .int (nI z56.1.1), .int (nI z56.2)]))]))
            rw [hPe] at hP hD
            have hm201 : ∀ q ∈ a.2.2.2.2, q ∈ pl201 := fun q hq => by rw [hpl201]; exact List.mem_append_left _ hq
            have E201 : elS t n pl201 o201 (a.1.2.2.2 ++ [(z56.1.1, z56.2)]) := hj3.snoc hm201 hi201 hf201 hv201 (by rw [hpl201]; exact List.mem_append_right _ (List.mem_singleton.mpr rfl)) (by omega) (by omega)
            have hpm := fun q hq => hm201 q (hj4 q hq)
            refine lv_pop hx hb d_Reader_readExtensions_204 rfl ?_
            refine lv_aload_n hx hb d_Reader_readExtensions_205 rfl (lv_at hl 6 rfl) ?_
            refine lv_dup hx hb d_Reader_readExtensions_206 rfl ?_
            refine va_get (v := .int a.1.2.2.1) hx hb htb i_ListReader hown hK hP 2 rfl rfl 8 (by decide) (htb _ q3_81) (fun _ h9 => h9) rfl d_Reader_readExtensions_207 ?_
            refine lv_iconst (v := 1) hx hb d_Reader_readExtensions_210 (by decide) ?_
            refine lv_iadd hx hb d_Reader_readExtensions_211 ?_
            refine va_put (v := .int (a.1.2.2.1 + 1)) (ty := .int) hx hb htb i_ListReader t_ListReader t_ListReader_ok n_ListReader hown hK hP hD hS 2 rfl rfl 8 (by decide) (htb _ q3_81) (fun _ h9 => h9) rfl (by decide +kernel) rfl rfl (Nat.le_of_ble_eq_true rfl) d_Reader_readExtensions_212 (fun H212 locs hP hD hS => ?_)
            change va_P (dC, dI) classes (([(ki, .inr (11, [.ref (alO sb o201), .int (nI (a.1.2.2.2 ++ [(z56.1.1, z56.2)]).length), .int m201])), (t, .inl (cB, n, .inl (tx u))), (h, .inr (5, [.ref res, .int ie, .ref t, .int (nI z192.1), .int (nI z192.2.1), .int (wI z192.2.2), .int pa, .int a.1.2.1, .int (a.1.2.2.1 + 1), .ref ki]))] : va_W) ++ (alC cO o201 ++ (pl201 ++ []))) H212 at hP
            change va_D A (([(ki, .inr (11, [.ref (alO sb o201), .int (nI (a.1.2.2.2 ++ [(z56.1.1, z56.2)]).length), .int m201])), (t, .inl (cB, n, .inl (tx u))), (h, .inr (5, [.ref res, .int ie, .ref t, .int (nI z192.1), .int (nI z192.2.1), .int (wI z192.2.2), .int pa, .int a.1.2.1, .int (a.1.2.2.1 + 1), .ref ki]))] : va_W) ++ (alC cO o201 ++ (pl201 ++ []))) at hD
            refine lv_iinc (v := nI (a.2.1 + 1)) (lv' := [(3, .int (nI (a.2.1 + 1))), (9, .int (nI z120.2)), (8, .int (zP (z93.2.2 = none ∧ z93.1 < z46.2 ∧ u z93.1 = 1))), (7, .ref q61), (6, .int (nI z56.2)), (5, .int (nI z46.2)), (4, .int (nI a.1.1.1)), (0, .ref h), (2, .int (nI z4.2))]) hx hb d_Reader_readExtensions_215 hl (k := 8) rfl (nI_1 _) (by decide) rfl (fun ls hl => ?_)
            refine lv_goto (tgt := 17) hx hb d_Reader_readExtensions_218 (by decide) ?_
            have e9 : rb_extL u n ie z4.2 a.1 = (z192, a.1.2.1, a.1.2.2.1 + 1, (a.1.2.2.2 ++ [(z56.1.1, z56.2)])) := by
              subst hz192
              subst hz177
              subst hz142
              subst hz133
              subst hz120
              subst hz93
              subst hz56
              subst hz46
              exact ((if_neg p107).trans ((if_neg p136).trans ((if_pos p186).trans rfl)))
            have B46 := opn_bd u n a.1.1 48 z4.2
            rw [← hz46] at B46
            have B56 := opn_bd u n z46.1 6 z46.2
            rw [← hz56] at B56
            have B93 := lea_bd z56.1 z56.2 (zP (oidOK u z56.1.1 z56.2)) hc56
            rw [← hz93] at B93
            have B120 := opn_bd u n z93 4 z46.2
            rw [← hz120] at B120
            have B133 := (knL_bd u n ie (kdN u z56.1.1 z56.2) z120.1 z120.2)
            rw [← hz133] at B133
            have B7 := fin_bd z133.1 z120.2 z120.2
            rw [← hz142] at B7
            have B7' : z142.2.2 = none → z120.2 ≤ z142.1 := fun q => by rw [hz142] at q ⊢; exact (fin_at q).1
            have B8 := fin_bd z142 z46.2 z46.2
            rw [← hz177] at B8
            have B9 := ref_bd z177 a.1.1.1 z4.2
            rw [← hz192] at B9
            have hch := ext_chain B46.1 (fun q => (B46.2.2.2.2 q).1) B46.2.2.1 B56.1 (fun q => (B56.2.2.2.2 q).1) B56.2.2.1 B93 (bd.rf z93 z46.2) B120.1 B120.2.2.1 B133 B7 B7' B8 (B9)
            clear B46 B56 B93 B120 B133 B7 B7' B8 B9
            change bd a.1.1 z192 z4.2 ∧ (z192.2.2 = none → a.1.1.1 + 4 ≤ z120.1.1 ∧ z120.2 ≤ z192.1) at hch
            obtain ⟨⟨hq1, hq2, hq3⟩, hq4⟩ := hch
            have hq2 : z192.1 ≤ z4.2 := by omega
            have hlp := loop_go hj2 (by omega) hcond
            rw [e9] at hlp
            refine W.widen (k := (3 * (a.2.1 + 1))) (n := (6 * (a.2.1 + 1) + 4 * (alK o201 - alK o70))) (by omega) (by omega) ?_
            exact ih ((z192, a.1.2.1, a.1.2.2.1 + 1, (a.1.2.2.2 ++ [(z56.1.1, z56.2)])), a.2.1 + 1, o201, m201, pl201) _ _ ls (by show 2048 - (a.2.1 + 1) < 2048 - a.2.1; omega) (⟨hi192, hk2, hlp, E201, hpm, by show alK o70 ≤ alK o201; omega, by have h1 := mxU hj6; have h2 := mxU hk201; show alK o201 ≤ max (alK o70) (10 + 2 * (a.1.2.2.2 ++ [(z56.1.1, z56.2)]).length); omega, by show (a.1.2.2.2 ++ [(z56.1.1, z56.2)]).length = a.2.1 + 1; omega, by show z192.1 ≤ z4.2; omega, by show z4.1.1 ≤ z192.1; omega, fun q => q.elim (fun q => by have := hq4 q; show z4.1.1 + 4 * (a.2.1 + 1) ≤ z192.1; omega) (fun q => absurd q (Nat.succ_ne_zero _)), by show z4.1.1 + 4 * (a.2.1 + 1) ≤ z192.1 + 4; omega⟩) (hP.part [2, 1, 0] rfl) (hD.part [2, 1, 0] (by decide) rfl) hS (lv_sub hl [7, 8, 0] rfl)
      · have p107 : z93.2.2 = none ∧ z93.1 < z46.2 ∧ u z93.1 = 1 := (zP_1 c107)
        refine lv_aload_n hx hb d_Reader_readExtensions_110 rfl (lv_at hl 5 rfl) ?_
        refine lv_iload hx hb d_Reader_readExtensions_111 (lv_at hl 3 rfl) ?_
        have hFc := va_free (wc := [(h, .inr (5, [.ref res, .int ie, .ref t, .int (nI z93.1), .int (nI z93.2.1), .int (wI z93.2.2), .int pa, .int a.1.2.1, .int a.1.2.2.1, .ref ki])), (t, .inl (cB, n, .inl (tx u)))]) hD hS hA [3, 1] rfl
        refine va_callv (mu_runU (As := [.int (nI z46.2)]) (rest := []) ⟨hx, hb, hml, hown, hts⟩ (cL_flag l dC dI sb h res t ki n z93 pa a.1.2.1 a.1.2.2.1 ie cB u z46.2 H93.size hu hn hi93 (by omega)) (cu_of (n := 1) hts tbin q4_66 q4_68 q4_67 q4_70 q1_15 q4_71 rfl (by decide +kernel) ⟨rfl, rfl⟩ ⟨Nat.le_of_ble_eq_true rfl, Nat.le_of_ble_eq_true rfl⟩) rfl ⟨by omega, by omega⟩ hN (hT0.keep hS hAs) hAs (Nat.le_trans hB0 hS.1) hK hP hD [3, 1] (by decide) rfl [0] rfl 3 5 rfl rfl rfl hl.1 rfl (Nat.le_of_ble_eq_true rfl) d_Reader_readExtensions_113) hS (fun q _ h => hFc q h) hFc (fun u113 tS H113 locs ht hvm hw113 hB hz1 hk1 hS => ?_)
        obtain ⟨x113, rfl⟩ : ∃ z, z = u113 := ⟨_, rfl⟩
        obtain ⟨hP1, hK1, hD1⟩ := hB
        rw [ht] at hP1
        obtain ⟨hP, hD⟩ := va_joinQ (X := [(ki, .inr (11, [.ref (alO sb a.2.2.1), .int (nI a.1.2.2.2.length), .int a.2.2.2.1])), (t, .inl (cB, n, .inl (tx u))), (q61, .inr (0, [.ref t, .int (nI z56.1.1), .int (nI z56.2)])), (h, .inr (5, [.ref res, .int ie, .ref t, .int (nI z93.1), .int (nI z93.2.1), .int (wI z93.2.2), .int pa, .int a.1.2.1, .int a.1.2.2.1, .ref ki]))]) (pl := (alC cO a.2.2.1 ++ (a.2.2.2.2 ++ []))) (wr := [(ki, .inr (11, [.ref (alO sb a.2.2.1), .int (nI a.1.2.2.2.length), .int a.2.2.2.1])), (q61, .inr (0, [.ref t, .int (nI z56.1.1), .int (nI z56.2)]))]) (w1 := [(h, .inr (5, [.ref res, .int ie, .ref t, .int (nI x113.1), .int (nI x113.2.1), .int (wI x113.2.2), .int pa, .int a.1.2.1, .int a.1.2.2.1, .ref ki])), (t, .inl (cB, n, .inl (tx u)))]) hP hD [3, 1] [0, 2] rfl rfl (by decide) (by decide) hk1 hFc hP1 hD1
        change va_P (dC, dI) classes (([(ki, .inr (11, [.ref (alO sb a.2.2.1), .int (nI a.1.2.2.2.length), .int a.2.2.2.1])), (q61, .inr (0, [.ref t, .int (nI z56.1.1), .int (nI z56.2)])), (h, .inr (5, [.ref res, .int ie, .ref t, .int (nI x113.1), .int (nI x113.2.1), .int (wI x113.2.2), .int pa, .int a.1.2.1, .int a.1.2.2.1, .ref ki])), (t, .inl (cB, n, .inl (tx u)))] : va_W) ++ (alC cO a.2.2.1 ++ (a.2.2.2.2 ++ []))) H113 at hP
        change va_D A (([(ki, .inr (11, [.ref (alO sb a.2.2.1), .int (nI a.1.2.2.2.length), .int a.2.2.2.1])), (q61, .inr (0, [.ref t, .int (nI z56.1.1), .int (nI z56.2)])), (h, .inr (5, [.ref res, .int ie, .ref t, .int (nI x113.1), .int (nI x113.2.1), .int (wI x113.2.2), .int pa, .int a.1.2.1, .int a.1.2.2.1, .ref ki])), (t, .inl (cB, n, .inl (tx u)))] : va_W) ++ (alC cO a.2.2.1 ++ (a.2.2.2.2 ++ []))) at hD
        have hi113 := flag_inv (u := u) hi93 (show z46.2 ≤ n by omega)
        obtain ⟨z113, hz113⟩ : ∃ o, o = rd_flag u n z93 z46.2 := ⟨_, rfl⟩
        rw [← hz113] at hi113
        obtain rfl : z113 = x113 := hz113.trans hw113.symm
        have hb113 : z113.1 ≤ n := hi113.1
        change va_P (dC, dI) classes (([(ki, .inr (11, [.ref (alO sb a.2.2.1), .int (nI a.1.2.2.2.length), .int a.2.2.2.1])), (q61, .inr (0, [.ref t, .int (nI z56.1.1), .int (nI z56.2)])), (h, .inr (5, [.ref res, .int ie, .ref t, .int (nI z113.1), .int (nI z113.2.1), .int (wI z113.2.2), .int pa, .int a.1.2.1, .int a.1.2.2.1, .ref ki])), (t, .inl (cB, n, .inl (tx u)))] : va_W) ++ (alC cO a.2.2.1 ++ (a.2.2.2.2 ++ []))) H113 at hP
        change va_D A (([(ki, .inr (11, [.ref (alO sb a.2.2.1), .int (nI a.1.2.2.2.length), .int a.2.2.2.1])), (q61, .inr (0, [.ref t, .int (nI z56.1.1), .int (nI z56.2)])), (h, .inr (5, [.ref res, .int ie, .ref t, .int (nI z113.1), .int (nI z113.2.1), .int (wI z113.2.2), .int pa, .int a.1.2.1, .int a.1.2.2.1, .ref ki])), (t, .inl (cB, n, .inl (tx u)))] : va_W) ++ (alC cO a.2.2.1 ++ (a.2.2.2.2 ++ []))) at hD
        refine lv_aload_n hx hb d_Reader_readExtensions_116 rfl (lv_at hl 5 rfl) ?_
        refine lv_iconst (v := 4) hx hb d_Reader_readExtensions_117 (by decide) ?_
        refine lv_iload hx hb d_Reader_readExtensions_118 (lv_at hl 3 rfl) ?_
        have hFc := va_free (wc := [(h, .inr (5, [.ref res, .int ie, .ref t, .int (nI z113.1), .int (nI z113.2.1), .int (wI z113.2.2), .int pa, .int a.1.2.1, .int a.1.2.2.1, .ref ki])), (t, .inl (cB, n, .inl (tx u)))]) hD hS hA [2, 3] rfl
        refine va_calli (mu_runU (As := [.int 4, .int (nI z46.2)]) (rest := []) ⟨hx, hb, hml, hown, hts⟩ (cL_open l dC dI sb h res t ki z113.1 z113.2.1 n z113.2.2 pa a.1.2.1 a.1.2.2.1 ie cB u 4 z46.2 H113.size hu hn ((hi113).w hn) (by omega) (hi113).1 (by decide)) (cu_of (n := 2) hts tbin q3_130 q9_192 q3_112 q9_194 q1_15 q3_113 rfl (by decide +kernel) ⟨rfl, rfl⟩ ⟨Nat.le_of_ble_eq_true rfl, Nat.le_of_ble_eq_true rfl⟩) rfl ⟨by omega, by omega⟩ hN (hT0.keep hS hAs) hAs (Nat.le_trans hB0 hS.1) hK hP hD [2, 3] (by decide) rfl [0] rfl 2 5 rfl rfl rfl hl.1 rfl (Nat.le_of_ble_eq_true rfl) d_Reader_readExtensions_120) hS (fun q _ h => hFc q h) hFc (fun r120 u120 tS H120 locs ht hvm hw120 hB hz1 hk1 hS => ?_)
        obtain ⟨x120, rfl⟩ : ∃ z, z = u120 := ⟨_, rfl⟩
        obtain ⟨hP1, hK1, hD1⟩ := hB
        rw [ht] at hP1
        obtain ⟨hP, hD⟩ := va_joinQ (X := [(ki, .inr (11, [.ref (alO sb a.2.2.1), .int (nI a.1.2.2.2.length), .int a.2.2.2.1])), (q61, .inr (0, [.ref t, .int (nI z56.1.1), .int (nI z56.2)])), (h, .inr (5, [.ref res, .int ie, .ref t, .int (nI z113.1), .int (nI z113.2.1), .int (wI z113.2.2), .int pa, .int a.1.2.1, .int a.1.2.2.1, .ref ki])), (t, .inl (cB, n, .inl (tx u)))]) (pl := (alC cO a.2.2.1 ++ (a.2.2.2.2 ++ []))) (wr := [(ki, .inr (11, [.ref (alO sb a.2.2.1), .int (nI a.1.2.2.2.length), .int a.2.2.2.1])), (q61, .inr (0, [.ref t, .int (nI z56.1.1), .int (nI z56.2)]))]) (w1 := [(h, .inr (5, [.ref res, .int ie, .ref t, .int (nI x120.1), .int (nI x120.2.1), .int (wI x120.2.2), .int pa, .int a.1.2.1, .int a.1.2.2.1, .ref ki])), (t, .inl (cB, n, .inl (tx u)))]) hP hD [2, 3] [0, 1] rfl rfl (by decide) (by decide) hk1 hFc hP1 hD1
        change va_P (dC, dI) classes (([(ki, .inr (11, [.ref (alO sb a.2.2.1), .int (nI a.1.2.2.2.length), .int a.2.2.2.1])), (q61, .inr (0, [.ref t, .int (nI z56.1.1), .int (nI z56.2)])), (h, .inr (5, [.ref res, .int ie, .ref t, .int (nI x120.1), .int (nI x120.2.1), .int (wI x120.2.2), .int pa, .int a.1.2.1, .int a.1.2.2.1, .ref ki])), (t, .inl (cB, n, .inl (tx u)))] : va_W) ++ (alC cO a.2.2.1 ++ (a.2.2.2.2 ++ []))) H120 at hP
        change va_D A (([(ki, .inr (11, [.ref (alO sb a.2.2.1), .int (nI a.1.2.2.2.length), .int a.2.2.2.1])), (q61, .inr (0, [.ref t, .int (nI z56.1.1), .int (nI z56.2)])), (h, .inr (5, [.ref res, .int ie, .ref t, .int (nI x120.1), .int (nI x120.2.1), .int (wI x120.2.2), .int pa, .int a.1.2.1, .int a.1.2.2.1, .ref ki])), (t, .inl (cB, n, .inl (tx u)))] : va_W) ++ (alC cO a.2.2.1 ++ (a.2.2.2.2 ++ []))) at hD
        change x120 = (rd_opn u n z113 4 z46.2).1 ∧ r120 = nI (rd_opn u n z113 4 z46.2).2 at hw120
        have hi120 := opn_inv (u := u) (tg := 4) hi113 (show z46.2 ≤ n by omega)
        obtain ⟨z120, hz120⟩ : ∃ o, o = rd_opn u n z113 4 z46.2 := ⟨_, rfl⟩
        rw [← hz120] at hw120 hi120
        obtain ⟨rfl, rfl⟩ := hw120
        have hb120 : z120.1.1 ≤ n := hi120.1.1
        have hc120 : z120.1.1 ≤ z120.2 := hi120.2.1
        have hd120 : z120.2 ≤ n := hi120.2.2.1
        change va_P (dC, dI) classes (([(ki, .inr (11, [.ref (alO sb a.2.2.1), .int (nI a.1.2.2.2.length), .int a.2.2.2.1])), (q61, .inr (0, [.ref t, .int (nI z56.1.1), .int (nI z56.2)])), (h, .inr (5, [.ref res, .int ie, .ref t, .int (nI z120.1.1), .int (nI z120.1.2.1), .int (wI z120.1.2.2), .int pa, .int a.1.2.1, .int a.1.2.2.1, .ref ki])), (t, .inl (cB, n, .inl (tx u)))] : va_W) ++ (alC cO a.2.2.1 ++ (a.2.2.2.2 ++ []))) H120 at hP
        change va_D A (([(ki, .inr (11, [.ref (alO sb a.2.2.1), .int (nI a.1.2.2.2.length), .int a.2.2.2.1])), (q61, .inr (0, [.ref t, .int (nI z56.1.1), .int (nI z56.2)])), (h, .inr (5, [.ref res, .int ie, .ref t, .int (nI z120.1.1), .int (nI z120.1.2.1), .int (wI z120.1.2.2), .int pa, .int a.1.2.1, .int a.1.2.2.1, .ref ki])), (t, .inl (cB, n, .inl (tx u)))] : va_W) ++ (alC cO a.2.2.1 ++ (a.2.2.2.2 ++ []))) at hD
        refine lv_istore (lv' := [(9, .int (nI z120.2)), (8, .int (zP (z93.2.2 = none ∧ z93.1 < z46.2 ∧ u z93.1 = 1))), (7, .ref q61), (6, .int (nI z56.2)), (5, .int (nI z46.2)), (4, .int (nI a.1.1.1)), (0, .ref h), (2, .int (nI z4.2)), (3, .int (nI a.2.1))]) hx hb d_Reader_readExtensions_123 hl (by decide) rfl (fun ls hl => ?_)
        refine lv_aload_n hx hb d_Reader_readExtensions_125 rfl (lv_at hl 6 rfl) ?_
        refine lv_aload hx hb d_Reader_readExtensions_126 (lv_at hl 2 rfl) ?_
        refine vp_callSi (pu_callS (As := [.ref q61]) (rest := [.ref h]) ⟨hx, hb, hml, hown, hts⟩ tbin (c_kindNumber l dC dI sb q61 t z56.1.1 z56.2 n cB u hu (by omega) (by omega) (by omega)) q4_72 q4_73 q1_15 q4_74 (n := 1) (by decide +kernel) rfl ⟨rfl, rfl⟩ ⟨Nat.le_of_ble_eq_true rfl, Nat.le_of_ble_eq_true rfl⟩ ⟨by omega, by omega⟩ hN (hT0.keep hS hAs) hK hP [1, 3] rfl [0] rfl hl.1 rfl (Nat.le_of_ble_eq_true rfl) d_Reader_readExtensions_128) (fun r128 hr128 => ?_)
        subst hr128
        refine lv_iload hx hb d_Reader_readExtensions_131 (lv_at hl 0 rfl) ?_
        have hFc := va_free (wc := [(h, .inr (5, [.ref res, .int ie, .ref t, .int (nI z120.1.1), .int (nI z120.1.2.1), .int (wI z120.1.2.2), .int pa, .int a.1.2.1, .int a.1.2.2.1, .ref ki])), (t, .inl (cB, n, .inl (tx u)))]) hD hS hA [2, 3] rfl
        refine va_calli (mu_runU (As := [.int (kdN u z56.1.1 z56.2), .int (nI z120.2)]) (rest := []) ⟨hx, hb, hml, hown, hts⟩ (cL_readKnown l dC dI sb h res t ki n z120.1 pa a.1.2.1 a.1.2.2.1 ie cB u z120.2 (kdN u z56.1.1 z56.2) H120.size hu hn hi120.1 (by omega)) (cu_abs (n := 2) hts tbin q4_75 q4_77 q4_188 q4_187 q1_31 q4_189 (hN.1 _ qn4_76) (by decide +kernel) ⟨rfl, rfl⟩ ⟨Nat.le_of_ble_eq_true rfl, Nat.le_of_ble_eq_true rfl⟩) rfl ⟨by omega, by omega⟩ hN (hT0.keep hS hAs) hAs (Nat.le_trans hB0 hS.1) hK hP hD [2, 3] (by decide) rfl [0] rfl 2 5 rfl rfl rfl hl.1 rfl (Nat.le_of_ble_eq_true rfl) d_Reader_readExtensions_133) hS (fun q _ h => hFc q h) hFc (fun r133 u133 tS H133 locs ht hvm hw133 hB hz1 hk1 hS => ?_)
        obtain ⟨s133, rfl⟩ : ∃ z, z = u133 := ⟨_, rfl⟩
        obtain ⟨hP1, hK1, hD1⟩ := hB
        rw [ht] at hP1
        obtain ⟨hP, hD⟩ := va_joinQ (X := [(ki, .inr (11, [.ref (alO sb a.2.2.1), .int (nI a.1.2.2.2.length), .int a.2.2.2.1])), (q61, .inr (0, [.ref t, .int (nI z56.1.1), .int (nI z56.2)])), (h, .inr (5, [.ref res, .int ie, .ref t, .int (nI z120.1.1), .int (nI z120.1.2.1), .int (wI z120.1.2.2), .int pa, .int a.1.2.1, .int a.1.2.2.1, .ref ki])), (t, .inl (cB, n, .inl (tx u)))]) (pl := (alC cO a.2.2.1 ++ (a.2.2.2.2 ++ []))) (wr := [(ki, .inr (11, [.ref (alO sb a.2.2.1), .int (nI a.1.2.2.2.length), .int a.2.2.2.1])), (q61, .inr (0, [.ref t, .int (nI z56.1.1), .int (nI z56.2)]))]) (w1 := [(h, .inr (5, [.ref res, .int ie, .ref t, .int (nI s133.1), .int (nI s133.2.1), .int (wI s133.2.2), .int pa, .int a.1.2.1, .int a.1.2.2.1, .ref ki])), (t, .inl (cB, n, .inl (tx u)))]) hP hD [2, 3] [0, 1] rfl rfl (by decide) (by decide) hk1 hFc hP1 hD1
        change va_P (dC, dI) classes (([(ki, .inr (11, [.ref (alO sb a.2.2.1), .int (nI a.1.2.2.2.length), .int a.2.2.2.1])), (q61, .inr (0, [.ref t, .int (nI z56.1.1), .int (nI z56.2)])), (h, .inr (5, [.ref res, .int ie, .ref t, .int (nI s133.1), .int (nI s133.2.1), .int (wI s133.2.2), .int pa, .int a.1.2.1, .int a.1.2.2.1, .ref ki])), (t, .inl (cB, n, .inl (tx u)))] : va_W) ++ (alC cO a.2.2.1 ++ (a.2.2.2.2 ++ []))) H133 at hP
        change va_D A (([(ki, .inr (11, [.ref (alO sb a.2.2.1), .int (nI a.1.2.2.2.length), .int a.2.2.2.1])), (q61, .inr (0, [.ref t, .int (nI z56.1.1), .int (nI z56.2)])), (h, .inr (5, [.ref res, .int ie, .ref t, .int (nI s133.1), .int (nI s133.2.1), .int (wI s133.2.2), .int pa, .int a.1.2.1, .int a.1.2.2.1, .ref ki])), (t, .inl (cB, n, .inl (tx u)))] : va_W) ++ (alC cO a.2.2.1 ++ (a.2.2.2.2 ++ []))) at hD
        obtain ⟨hw133, hi133⟩ : (s133, r133) = rd_knL u n ie (kdN u z56.1.1 z56.2) z120.1 z120.2 ∧ rdInv n s133 := hw133
        obtain ⟨z133, hz133⟩ : ∃ o, o = rd_knL u n ie (kdN u z56.1.1 z56.2) z120.1 z120.2 := ⟨_, rfl⟩
        rw [← hz133] at hw133
        obtain ⟨rfl, rfl⟩ : s133 = z133.1 ∧ r133 = z133.2 := by rw [← hw133]; exact ⟨rfl, rfl⟩
        have hb133 : z133.1.1 ≤ n := hi133.1
        change va_P (dC, dI) classes (([(ki, .inr (11, [.ref (alO sb a.2.2.1), .int (nI a.1.2.2.2.length), .int a.2.2.2.1])), (q61, .inr (0, [.ref t, .int (nI z56.1.1), .int (nI z56.2)])), (h, .inr (5, [.ref res, .int ie, .ref t, .int (nI z133.1.1), .int (nI z133.1.2.1), .int (wI z133.1.2.2), .int pa, .int a.1.2.1, .int a.1.2.2.1, .ref ki])), (t, .inl (cB, n, .inl (tx u)))] : va_W) ++ (alC cO a.2.2.1 ++ (a.2.2.2.2 ++ []))) H133 at hP
        change va_D A (([(ki, .inr (11, [.ref (alO sb a.2.2.1), .int (nI a.1.2.2.2.length), .int a.2.2.2.1])), (q61, .inr (0, [.ref t, .int (nI z56.1.1), .int (nI z56.2)])), (h, .inr (5, [.ref res, .int ie, .ref t, .int (nI z133.1.1), .int (nI z133.1.2.1), .int (wI z133.1.2.2), .int pa, .int a.1.2.1, .int a.1.2.2.1, .ref ki])), (t, .inl (cB, n, .inl (tx u)))] : va_W) ++ (alC cO a.2.2.1 ++ (a.2.2.2.2 ++ []))) at hD
        refine lv_if_eq (tgt := 148) hx hb d_Reader_readExtensions_136 (by decide) (fun c136 => ?_) (fun c136 => ?_)
        · have p136 : z133.2 = (0 : Int32) := c136
          refine lv_aload_n hx hb d_Reader_readExtensions_148 rfl (lv_at hl 6 rfl) ?_
          refine lv_iload hx hb d_Reader_readExtensions_149 (lv_at hl 0 rfl) ?_
          refine lv_iconst (v := 1) hx hb d_Reader_readExtensions_151 (by decide) ?_
          have hFc := va_free (wc := [(h, .inr (5, [.ref res, .int ie, .ref t, .int (nI z133.1.1), .int (nI z133.1.2.1), .int (wI z133.1.2.2), .int pa, .int a.1.2.1, .int a.1.2.2.1, .ref ki]))]) hD hS hA [2] rfl
          refine va_callv (mu_runU (As := [.int (nI z120.2), .int 1]) (rest := []) ⟨hx, hb, hml, hown, hts⟩ (cL_leave l dC dI sb h res t ki z133.1.1 z133.1.2.1 n z133.1.2.2 pa a.1.2.1 a.1.2.2.1 ie cB u z120.2 (1 : Int32) H133.size ((hi133).w hn)) (cu_of (n := 2) hts tbin q3_131 q3_133 q3_132 q3_135 q1_15 q3_136 rfl (by decide +kernel) ⟨rfl, rfl⟩ ⟨Nat.le_of_ble_eq_true rfl, Nat.le_of_ble_eq_true rfl⟩) rfl ⟨by omega, by omega⟩ hN (hT0.keep hS hAs) hAs (Nat.le_trans hB0 hS.1) hK hP hD [2] (by decide) rfl [] rfl 2 5 rfl rfl rfl hl.1 rfl (Nat.le_of_ble_eq_true rfl) d_Reader_readExtensions_152) hS (fun q _ h => hFc q h) hFc (fun u152 tS H152 locs ht hvm hw152 hB hz1 hk1 hS => ?_)
          obtain ⟨z152, rfl⟩ : ∃ z, z = u152 := ⟨_, rfl⟩
          obtain ⟨hP1, hK1, hD1⟩ := hB
          rw [ht] at hP1
          obtain ⟨hP, hD⟩ := va_joinQ (X := [(ki, .inr (11, [.ref (alO sb a.2.2.1), .int (nI a.1.2.2.2.length), .int a.2.2.2.1])), (q61, .inr (0, [.ref t, .int (nI z56.1.1), .int (nI z56.2)])), (h, .inr (5, [.ref res, .int ie, .ref t, .int (nI z133.1.1), .int (nI z133.1.2.1), .int (wI z133.1.2.2), .int pa, .int a.1.2.1, .int a.1.2.2.1, .ref ki])), (t, .inl (cB, n, .inl (tx u)))]) (pl := (alC cO a.2.2.1 ++ (a.2.2.2.2 ++ []))) (wr := [(ki, .inr (11, [.ref (alO sb a.2.2.1), .int (nI a.1.2.2.2.length), .int a.2.2.2.1])), (q61, .inr (0, [.ref t, .int (nI z56.1.1), .int (nI z56.2)])), (t, .inl (cB, n, .inl (tx u)))]) (w1 := [(h, .inr (5, [.ref res, .int ie, .ref t, .int (nI z152.1), .int (nI z152.2.1), .int (wI z152.2.2), .int pa, .int a.1.2.1, .int a.1.2.2.1, .ref ki]))]) hP hD [2] [0, 1, 3] rfl rfl (by decide) (by decide) hk1 hFc hP1 hD1
          change va_P (dC, dI) classes (([(ki, .inr (11, [.ref (alO sb a.2.2.1), .int (nI a.1.2.2.2.length), .int a.2.2.2.1])), (q61, .inr (0, [.ref t, .int (nI z56.1.1), .int (nI z56.2)])), (t, .inl (cB, n, .inl (tx u))), (h, .inr (5, [.ref res, .int ie, .ref t, .int (nI z152.1), .int (nI z152.2.1), .int (wI z152.2.2), .int pa, .int a.1.2.1, .int a.1.2.2.1, .ref ki]))] : va_W) ++ (alC cO a.2.2.1 ++ (a.2.2.2.2 ++ []))) H152 at hP
          change va_D A (([(ki, .inr (11, [.ref (alO sb a.2.2.1), .int (nI a.1.2.2.2.length), .int a.2.2.2.1])), (q61, .inr (0, [.ref t, .int (nI z56.1.1), .int (nI z56.2)])), (t, .inl (cB, n, .inl (tx u))), (h, .inr (5, [.ref res, .int ie, .ref t, .int (nI z152.1), .int (nI z152.2.1), .int (wI z152.2.2), .int pa, .int a.1.2.1, .int a.1.2.2.1, .ref ki]))] : va_W) ++ (alC cO a.2.2.1 ++ (a.2.2.2.2 ++ []))) at hD
          have hz152 : z152 = rd_lea z133.1 z120.2 (1 : Int32) := hw152
          have hi152 : rdInv n z152 := by rw [hz152]; exact lea_inv hi133 (by omega)
          have hb152 : z152.1 ≤ n := hi152.1
          refine lv_aload_n hx hb d_Reader_readExtensions_155 rfl (lv_at hl 6 rfl) ?_
          refine lv_dup hx hb d_Reader_readExtensions_156 rfl ?_
          refine va_get (v := .int a.1.2.1) hx hb htb i_ListReader hown hK hP 3 rfl rfl 7 (by decide) (htb _ q3_76) (fun _ h9 => h9) rfl d_Reader_readExtensions_157 ?_
          refine lv_iload hx hb d_Reader_readExtensions_160 (lv_at hl 1 rfl) ?_
          refine lv_if_eq (tgt := 169) hx hb d_Reader_readExtensions_162 (by decide) (fun c162 => ?_) (fun c162 => ?_)
          · exact absurd c162 (by rw [← (zP_t p107)]; decide)
          refine lv_iconst (v := 1) hx hb d_Reader_readExtensions_165 (by decide) ?_
          refine lv_goto (tgt := 170) hx hb d_Reader_readExtensions_166 (by decide) ?_
          refine lv_iadd hx hb d_Reader_readExtensions_170 ?_
          refine va_put (v := .int (a.1.2.1 + 1)) (ty := .int) hx hb htb i_ListReader t_ListReader t_ListReader_ok n_ListReader hown hK hP hD hS 3 rfl rfl 7 (by decide) (htb _ q3_76) (fun _ h9 => h9) rfl (by decide +kernel) rfl rfl (Nat.le_of_ble_eq_true rfl) d_Reader_readExtensions_171 (fun H171 locs hP hD hS => ?_)
          change va_P (dC, dI) classes (([(ki, .inr (11, [.ref (alO sb a.2.2.1), .int (nI a.1.2.2.2.length), .int a.2.2.2.1])), (q61, .inr (0, [.ref t, .int (nI z56.1.1), .int (nI z56.2)])), (t, .inl (cB, n, .inl (tx u))), (h, .inr (5, [.ref res, .int ie, .ref t, .int (nI z152.1), .int (nI z152.2.1), .int (wI z152.2.2), .int pa, .int (a.1.2.1 + 1), .int a.1.2.2.1, .ref ki]))] : va_W) ++ (alC cO a.2.2.1 ++ (a.2.2.2.2 ++ []))) H171 at hP
          change va_D A (([(ki, .inr (11, [.ref (alO sb a.2.2.1), .int (nI a.1.2.2.2.length), .int a.2.2.2.1])), (q61, .inr (0, [.ref t, .int (nI z56.1.1), .int (nI z56.2)])), (t, .inl (cB, n, .inl (tx u))), (h, .inr (5, [.ref res, .int ie, .ref t, .int (nI z152.1), .int (nI z152.2.1), .int (wI z152.2.2), .int pa, .int (a.1.2.1 + 1), .int a.1.2.2.1, .ref ki]))] : va_W) ++ (alC cO a.2.2.1 ++ (a.2.2.2.2 ++ []))) at hD
          refine lv_aload_n hx hb d_Reader_readExtensions_174 rfl (lv_at hl 6 rfl) ?_
          refine lv_iload hx hb d_Reader_readExtensions_175 (lv_at hl 4 rfl) ?_
          have hFc := va_free (wc := [(h, .inr (5, [.ref res, .int ie, .ref t, .int (nI z152.1), .int (nI z152.2.1), .int (wI z152.2.2), .int pa, .int (a.1.2.1 + 1), .int a.1.2.2.1, .ref ki]))]) hD hS hA [3] rfl
          refine va_callv (mu_runU (As := [.int (nI z46.2)]) (rest := []) ⟨hx, hb, hml, hown, hts⟩ (cL_finish l dC dI sb h res t ki z152.1 z152.2.1 n z152.2.2 pa (a.1.2.1 + 1) a.1.2.2.1 ie cB u z46.2 H171.size ((hi152).w hn) (by have := (hi152).1; omega) (by omega)) (cu_of (n := 1) hts tbin q3_183 q9_201 q3_163 q9_203 q1_15 q3_164 rfl (by decide +kernel) ⟨rfl, rfl⟩ ⟨Nat.le_of_ble_eq_true rfl, Nat.le_of_ble_eq_true rfl⟩) rfl ⟨by omega, by omega⟩ hN (hT0.keep hS hAs) hAs (Nat.le_trans hB0 hS.1) hK hP hD [3] (by decide) rfl [] rfl 3 5 rfl rfl rfl hl.1 rfl (Nat.le_of_ble_eq_true rfl) d_Reader_readExtensions_177) hS (fun q _ h => hFc q h) hFc (fun u177 tS H177 locs ht hvm hw177 hB hz1 hk1 hS => ?_)
          obtain ⟨z177, rfl⟩ : ∃ z, z = u177 := ⟨_, rfl⟩
          obtain ⟨hP1, hK1, hD1⟩ := hB
          rw [ht] at hP1
          obtain ⟨hP, hD⟩ := va_joinQ (X := [(ki, .inr (11, [.ref (alO sb a.2.2.1), .int (nI a.1.2.2.2.length), .int a.2.2.2.1])), (q61, .inr (0, [.ref t, .int (nI z56.1.1), .int (nI z56.2)])), (t, .inl (cB, n, .inl (tx u))), (h, .inr (5, [.ref res, .int ie, .ref t, .int (nI z152.1), .int (nI z152.2.1), .int (wI z152.2.2), .int pa, .int (a.1.2.1 + 1), .int a.1.2.2.1, .ref ki]))]) (pl := (alC cO a.2.2.1 ++ (a.2.2.2.2 ++ []))) (wr := [(ki, .inr (11, [.ref (alO sb a.2.2.1), .int (nI a.1.2.2.2.length), .int a.2.2.2.1])), (q61, .inr (0, [.ref t, .int (nI z56.1.1), .int (nI z56.2)])), (t, .inl (cB, n, .inl (tx u)))]) (w1 := [(h, .inr (5, [.ref res, .int ie, .ref t, .int (nI z177.1), .int (nI z177.2.1), .int (wI z177.2.2), .int pa, .int (a.1.2.1 + 1), .int a.1.2.2.1, .ref ki]))]) hP hD [3] [0, 1, 2] rfl rfl (by decide) (by decide) hk1 hFc hP1 hD1
          change va_P (dC, dI) classes (([(ki, .inr (11, [.ref (alO sb a.2.2.1), .int (nI a.1.2.2.2.length), .int a.2.2.2.1])), (q61, .inr (0, [.ref t, .int (nI z56.1.1), .int (nI z56.2)])), (t, .inl (cB, n, .inl (tx u))), (h, .inr (5, [.ref res, .int ie, .ref t, .int (nI z177.1), .int (nI z177.2.1), .int (wI z177.2.2), .int pa, .int (a.1.2.1 + 1), .int a.1.2.2.1, .ref ki]))] : va_W) ++ (alC cO a.2.2.1 ++ (a.2.2.2.2 ++ []))) H177 at hP
          change va_D A (([(ki, .inr (11, [.ref (alO sb a.2.2.1), .int (nI a.1.2.2.2.length), .int a.2.2.2.1])), (q61, .inr (0, [.ref t, .int (nI z56.1.1), .int (nI z56.2)])), (t, .inl (cB, n, .inl (tx u))), (h, .inr (5, [.ref res, .int ie, .ref t, .int (nI z177.1), .int (nI z177.2.1), .int (wI z177.2.2), .int pa, .int (a.1.2.1 + 1), .int a.1.2.2.1, .ref ki]))] : va_W) ++ (alC cO a.2.2.1 ++ (a.2.2.2.2 ++ []))) at hD
          have hz177 : z177 = rd_fin z152 z46.2 := hw177
          have hi177 : rdInv n z177 := by rw [hz177]; exact fin_inv hi152
          have hb177 : z177.1 ≤ n := hi177.1
          refine lv_aload_n hx hb d_Reader_readExtensions_180 rfl (lv_at hl 6 rfl) ?_
          refine lv_aload hx hb d_Reader_readExtensions_181 (lv_at hl 2 rfl) ?_
          have hPc : va_P (dC, dI) classes (([(h, .inr (5, [.ref res, .int ie, .ref t, .int (nI z177.1), .int (nI z177.2.1), .int (wI z177.2.2), .int pa, .int (a.1.2.1 + 1), .int a.1.2.2.1, .ref ki])), (t, .inl (cB, n, .inl (tx u))), (q61, .inr (0, [.ref t, .int (nI z56.1.1), .int (nI z56.2)])), (ki, .inr (11, [.ref (alO sb a.2.2.1), .int (nI a.1.2.2.2.length), .int a.2.2.2.1]))] : va_W) ++ (alC cO a.2.2.1 ++ (a.2.2.2.2 ++ []))) H177 := by
            have hPm : List.Perm ((([(ki, .inr (11, [.ref (alO sb a.2.2.1), .int (nI a.1.2.2.2.length), .int a.2.2.2.1])), (q61, .inr (0, [.ref t, .int (nI z56.1.1), .int (nI z56.2)])), (t, .inl (cB, n, .inl (tx u))), (h, .inr (5, [.ref res, .int ie, .ref t, .int (nI z177.1), .int (nI z177.2.1), .int (wI z177.2.2), .int pa, .int (a.1.2.1 + 1), .int a.1.2.2.1, .ref ki]))] : va_W) ++ (alC cO a.2.2.1 ++ (a.2.2.2.2 ++ []))) : va_W) (([(h, .inr (5, [.ref res, .int ie, .ref t, .int (nI z177.1), .int (nI z177.2.1), .int (wI z177.2.2), .int pa, .int (a.1.2.1 + 1), .int a.1.2.2.1, .ref ki]))] : va_W) ++ (([(t, .inl (cB, n, .inl (tx u)))] : va_W) ++ (([(q61, .inr (0, [.ref t, .int (nI z56.1.1), .int (nI z56.2)]))] : va_W) ++ (([(ki, .inr (11, [.ref (alO sb a.2.2.1), .int (nI a.1.2.2.2.length), .int a.2.2.2.1]))] : va_W) ++ (alC cO a.2.2.1 ++ (a.2.2.2.2 ++ [])))))) := ((fun (b0 b1 b2 b3 b4 b5 : va_W) => (blk_perm (fun i => ([b0, b1, b2, b3, b4, b5] : List va_W).getD i []) [0, 1, 2, 3, 4, 5] [3, 2, 1, 0, 4, 5] rfl : List.Perm (b0 ++ (b1 ++ (b2 ++ (b3 ++ (b4 ++ (b5 ++ [])))))) (b3 ++ (b2 ++ (b1 ++ (b0 ++ (b4 ++ (b5 ++ [])))))))) ([(ki, .inr (11, [.ref (alO sb a.2.2.1), .int (nI a.1.2.2.2.length), .int a.2.2.2.1]))]) ([(q61, .inr (0, [.ref t, .int (nI z56.1.1), .int (nI z56.2)]))]) ([(t, .inl (cB, n, .inl (tx u)))]) ([(h, .inr (5, [.ref res, .int ie, .ref t, .int (nI z177.1), .int (nI z177.2.1), .int (wI z177.2.2), .int pa, .int (a.1.2.1 + 1), .int a.1.2.2.1, .ref ki]))]) (alC cO a.2.2.1) (a.2.2.2.2))
            have hPe : (([(h, .inr (5, [.ref res, .int ie, .ref t, .int (nI z177.1), .int (nI z177.2.1), .int (wI z177.2.2), .int pa, .int (a.1.2.1 + 1), .int a.1.2.2.1, .ref ki]))] : va_W) ++ (([(t, .inl (cB, n, .inl (tx u)))] : va_W) ++ (([(q61, .inr (0, [.ref t, .int (nI z56.1.1), .int (nI z56.2)]))] : va_W) ++ (([(ki, .inr (11, [.ref (alO sb a.2.2.1), .int (nI a.1.2.2.2.length), .int a.2.2.2.1]))] : va_W) ++ (alC cO a.2.2.1 ++ (a.2.2.2.2 ++ [])))))) = (([(h, .inr (5, [.ref res, .int ie, .ref t, .int (nI z177.1), .int (nI z177.2.1), .int (wI z177.2.2), .int pa, .int (a.1.2.1 + 1), .int a.1.2.2.1, .ref ki])), (t, .inl (cB, n, .inl (tx u))), (q61, .inr (0, [.ref t, .int (nI z56.1.1), .int (nI z56.2)])), (ki, .inr (11, [.ref (alO sb a.2.2.1), .int (nI a.1.2.2.2.length), .int a.2.2.2.1]))] : va_W) ++ (alC cO a.2.2.1 ++ (a.2.2.2.2 ++ []))) ++ [] := ((fun (b0 b1 b2 b3 b4 b5 : va_W) => (by simp only [List.append_assoc, List.nil_append, List.append_nil] : (b0 ++ (b1 ++ (b2 ++ (b3 ++ (b4 ++ (b5 ++ [])))))) = (b0 ++ (b1 ++ (b2 ++ (b3 ++ (b4 ++ (b5 ++ [])))))) ++ [])) ([(h, .inr (5, [.ref res, .int ie, .ref t, .int (nI z177.1), .int (nI z177.2.1), .int (wI z177.2.2), .int pa, .int (a.1.2.1 + 1), .int a.1.2.2.1, .ref ki]))]) ([(t, .inl (cB, n, .inl (tx u)))]) ([(q61, .inr (0, [.ref t, .int (nI z56.1.1), .int (nI z56.2)]))]) ([(ki, .inr (11, [.ref (alO sb a.2.2.1), .int (nI a.1.2.2.2.length), .int a.2.2.2.1]))]) (alC cO a.2.2.1) (a.2.2.2.2))
            have h9 := hP.perm hPm
            rw [hPe] at h9
            exact h9.front
          refine vp_callSi (pd_callU (As := [.ref q61]) (rest := []) ⟨hx, hb, hml, hown, hts⟩ (cL_isRepeated l dC dI sb h res t ki n z177 pa (a.1.2.1 + 1) a.1.2.2.1 ie cB u q61 z56.1.1 z56.2 a.2.2.2.1 cO a.2.2.1 a.1.2.2.2 a.2.2.2.2 hu hn hi177 (by omega) (by omega) hj3) (cu_of (n := 1) hts tbin q4_204 q9_212 q4_206 qx_11 q1_15 q4_207 rfl (by decide +kernel) ⟨rfl, rfl⟩ ⟨Nat.le_of_ble_eq_true rfl, Nat.le_of_ble_eq_true rfl⟩) rfl ⟨by omega, by omega⟩ hN (hT0.keep hS hAs) hK hP hPc [0, 1] rfl 3 5 rfl rfl rfl hl.1 rfl (Nat.le_of_ble_eq_true rfl) d_Reader_readExtensions_183) (fun r183 hr183 => ?_)
          obtain rfl := bz_zP hr183
          clear hPc
          refine lv_if_eq (tgt := 195) hx hb d_Reader_readExtensions_186 (by decide) (fun c186 => ?_) (fun c186 => ?_)
          · have p186 : ¬ (repP u a.1.2.2.2 z56.1.1 z56.2) := (zP_0.mp c186)
            refine lv_aload_n hx hb d_Reader_readExtensions_195 rfl (lv_at hl 6 rfl) ?_
            refine va_get (v := .ref ki) hx hb htb i_ListReader hown hK hP 3 rfl rfl 9 (by decide) (htb _ q3_84) (fun _ h9 => h9) rfl d_Reader_readExtensions_196 ?_
            refine lv_aload hx hb d_Reader_readExtensions_199 (lv_at hl 2 rfl) ?_
            have hPm : List.Perm ((([(ki, .inr (11, [.ref (alO sb a.2.2.1), .int (nI a.1.2.2.2.length), .int a.2.2.2.1])), (q61, .inr (0, [.ref t, .int (nI z56.1.1), .int (nI z56.2)])), (t, .inl (cB, n, .inl (tx u))), (h, .inr (5, [.ref res, .int ie, .ref t, .int (nI z177.1), .int (nI z177.2.1), .int (wI z177.2.2), .int pa, .int (a.1.2.1 + 1), .int a.1.2.2.1, .ref ki]))] : va_W) ++ (alC cO a.2.2.1 ++ (a.2.2.2.2 ++ []))) : va_W) ((ki, .inr (11, [.ref (alO sb a.2.2.1), .int (nI a.1.2.2.2.length), .int a.2.2.2.1])) :: (alC cO a.2.2.1 ++ (([(q61, .inr (0, [.ref t, .int (nI z56.1.1), .int (nI z56.2)])), (t, .inl (cB, n, .inl (tx u))), (h, .inr (5, [.ref res, .int ie, .ref t, .int (nI z177.1), .int (nI z177.2.1), .int (wI z177.2.2), .int pa, .int (a.1.2.1 + 1), .int a.1.2.2.1, .ref ki]))] : va_W) ++ (a.2.2.2.2 ++ [])))) := ((fun (b0 b1 b2 b3 b4 b5 : va_W) => (blk_perm (fun i => ([b0, b1, b2, b3, b4, b5] : List va_W).getD i []) [0, 1, 2, 3, 4, 5] [0, 4, 1, 2, 3, 5] rfl : List.Perm (b0 ++ (b1 ++ (b2 ++ (b3 ++ (b4 ++ (b5 ++ [])))))) (b0 ++ (b4 ++ (b1 ++ (b2 ++ (b3 ++ (b5 ++ [])))))))) ([(ki, .inr (11, [.ref (alO sb a.2.2.1), .int (nI a.1.2.2.2.length), .int a.2.2.2.1]))]) ([(q61, .inr (0, [.ref t, .int (nI z56.1.1), .int (nI z56.2)]))]) ([(t, .inl (cB, n, .inl (tx u)))]) ([(h, .inr (5, [.ref res, .int ie, .ref t, .int (nI z177.1), .int (nI z177.2.1), .int (wI z177.2.2), .int pa, .int (a.1.2.1 + 1), .int a.1.2.2.1, .ref ki]))]) (alC cO a.2.2.1) (a.2.2.2.2))
            have hP := hP.perm hPm
            have hD := hD.perm hPm
            have hal201 : mxB (4 * alK a.2.2.1 + alS a.2.2.1 a.1.2.2.2.length) (4 * alK a.2.2.1) (4 * (10 + 2 * a.1.2.2.2.length)) := al_costM hj3.1
            have haz201 := (al_cost hj3.1).2
            refine al_add (own := "TrustChain$Reader") 0 _ q61 ki a.1.2.2.2.length a.2.2.2.1 cO a.2.2.1 rfl qn9_238 ⟨hx, hb, hml, hown, hts⟩ tbin q4_224 hN (hT0.keep hS hAs) hAs (Nat.le_trans hB0 hS.1) hA hK 1 rfl hP hD hS hj3.1 (by omega) (hj3.toF (fun q9 hq9 => List.mem_append_right _ (List.mem_append_left _ hq9))) ⟨0, _, rfl⟩ (Nat.le_of_ble_eq_true rfl) (Nat.le_of_ble_eq_true rfl) (by omega) (by have := mxU hal201; have h1 := mxU hj6; omega) hl.1 (Nat.le_of_ble_eq_true rfl) d_Reader_readExtensions_201 (fun o201 m201 H201 locs hi201 hg201 hk201 he201 hf201 hv201 hP hD hS => ?_)
            change mxB (alK o201) (alK a.2.2.1) (10 + 2 * a.1.2.2.2.length) at hk201
            have hsa201 : (6 * a.2.1 + 4 * (alK a.2.2.1 - alK o70)) + 6 + alS a.2.2.1 a.1.2.2.2.length ≤ (6 * ((en - x.1) / 4 + 1) + 4 * (10 + 2 * ((en - x.1) / 4 + 1))) := by have := mxU hal201; have h1 := mxU hj6; omega
            clear hal201
            have hln201 : a.1.2.2.2.length + 1 = (a.1.2.2.2 ++ [(z56.1.1, z56.2)]).length := by rw [List.length_append]; rfl
            rw [hln201] at hP hD
            have hPm : List.Perm ((ki, .inr (11, [.ref (alO sb o201), .int (nI (a.1.2.2.2 ++ [(z56.1.1, z56.2)]).length), .int m201])) :: (alC cO o201 ++ (([(q61, .inr (0, [.ref t, .int (nI z56.1.1), .int (nI z56.2)])), (t, .inl (cB, n, .inl (tx u))), (h, .inr (5, [.ref res, .int ie, .ref t, .int (nI z177.1), .int (nI z177.2.1), .int (wI z177.2.2), .int pa, .int (a.1.2.1 + 1), .int a.1.2.2.1, .ref ki]))] : va_W) ++ (a.2.2.2.2 ++ []))) : va_W) (([(ki, .inr (11, [.ref (alO sb o201), .int (nI (a.1.2.2.2 ++ [(z56.1.1, z56.2)]).length), .int m201])), (t, .inl (cB, n, .inl (tx u))), (h, .inr (5, [.ref res, .int ie, .ref t, .int (nI z177.1), .int (nI z177.2.1), .int (wI z177.2.2), .int pa, .int (a.1.2.1 + 1), .int a.1.2.2.1, .ref ki]))] : va_W) ++ (alC cO o201 ++ (a.2.2.2.2 ++ (([(q61, .inr (0, [.ref t, .int (nI z56.1.1), .int (nI z56.2)]))] : va_W) ++ [])))) := ((fun (b0 b1 b2 b3 b4 b5 : va_W) => (blk_perm (fun i => ([b0, b1, b2, b3, b4, b5] : List va_W).getD i []) [0, 1, 2, 3, 4, 5] [0, 3, 4, 1, 5, 2] rfl : List.Perm (b0 ++ (b1 ++ (b2 ++ (b3 ++ (b4 ++ (b5 ++ [])))))) (b0 ++ (b3 ++ (b4 ++ (b1 ++ (b5 ++ (b2 ++ [])))))))) ([(ki, .inr (11, [.ref (alO sb o201), .int (nI (a.1.2.2.2 ++ [(z56.1.1, z56.2)]).length), .int m201]))]) (alC cO o201) ([(q61, .inr (0, [.ref t, .int (nI z56.1.1), .int (nI z56.2)]))]) ([(t, .inl (cB, n, .inl (tx u)))]) ([(h, .inr (5, [.ref res, .int ie, .ref t, .int (nI z177.1), .int (nI z177.2.1), .int (wI z177.2.2), .int pa, .int (a.1.2.1 + 1), .int a.1.2.2.1, .ref ki]))]) (a.2.2.2.2))
            have hP := hP.perm hPm
            have hD := hD.perm hPm
            obtain ⟨pl201, hpl201⟩ : ∃ z : va_W, z = a.2.2.2.2 ++ [(q61, .inr (0, [.ref t, .int (nI z56.1.1), .int (nI z56.2)]))] := ⟨_, rfl⟩
            have hPe : (([(ki, .inr (11, [.ref (alO sb o201), .int (nI (a.1.2.2.2 ++ [(z56.1.1, z56.2)]).length), .int m201])), (t, .inl (cB, n, .inl (tx u))), (h, .inr (5, [.ref res, .int ie, .ref t, .int (nI z177.1), .int (nI z177.2.1), .int (wI z177.2.2), .int pa, .int (a.1.2.1 + 1), .int a.1.2.2.1, .ref ki]))] : va_W) ++ (alC cO o201 ++ (a.2.2.2.2 ++ (([(q61, .inr (0, [.ref t, .int (nI z56.1.1), .int (nI z56.2)]))] : va_W) ++ [])))) = (([(ki, .inr (11, [.ref (alO sb o201), .int (nI (a.1.2.2.2 ++ [(z56.1.1, z56.2)]).length), .int m201])), (t, .inl (cB, n, .inl (tx u))), (h, .inr (5, [.ref res, .int ie, .ref t, .int (nI z177.1), .int (nI z177.2.1), .int (wI z177.2.2), .int pa, .int (a.1.2.1 + 1), .int a.1.2.2.1, .ref ki]))] : va_W) ++ (alC cO o201 ++ (pl201 ++ []))) := by
              subst hpl201
              exact ((fun (b0 b1 b2 b3 b4 b5 : va_W) => (by simp only [List.append_assoc] : (b0 ++ (b1 ++ (b2 ++ (b3 ++ (b4 ++ (b5 ++ [])))))) = (b0 ++ (b1 ++ (b2 ++ (b3 ++ ((b4 ++ b5) ++ []))))))) ([(ki, .inr (11, [.ref (alO sb o201), .int (nI (a.1.2.2.2 ++ [(z56.1.1, z56.2)]).length), .int m201]))]) ([(t, .inl (cB, n, .inl (tx u)))]) ([(h, .inr (5, [.ref res, .int ie, .ref t, .int (nI z177.1), .int (nI z177.2.1), .int (wI z177.2.2), .int pa, .int (a.1.2.1 + 1), .int a.1.2.2.1, .ref ki]))]) (alC cO o201) (a.2.2.2.2) ([(q61, .inr (0, [.ref t, .int (nI z56.1.1), .int (nI z56.2)]))]))
            rw [hPe] at hP hD
            have hm201 : ∀ q ∈ a.2.2.2.2, q ∈ pl201 := fun q hq => by rw [hpl201]; exact List.mem_append_left _ hq
            have E201 : elS t n pl201 o201 (a.1.2.2.2 ++ [(z56.1.1, z56.2)]) := hj3.snoc hm201 hi201 hf201 hv201 (by rw [hpl201]; exact List.mem_append_right _ (List.mem_singleton.mpr rfl)) (by omega) (by omega)
            have hpm := fun q hq => hm201 q (hj4 q hq)
            refine lv_pop hx hb d_Reader_readExtensions_204 rfl ?_
            refine lv_aload_n hx hb d_Reader_readExtensions_205 rfl (lv_at hl 6 rfl) ?_
            refine lv_dup hx hb d_Reader_readExtensions_206 rfl ?_
            refine va_get (v := .int a.1.2.2.1) hx hb htb i_ListReader hown hK hP 2 rfl rfl 8 (by decide) (htb _ q3_81) (fun _ h9 => h9) rfl d_Reader_readExtensions_207 ?_
            refine lv_iconst (v := 1) hx hb d_Reader_readExtensions_210 (by decide) ?_
            refine lv_iadd hx hb d_Reader_readExtensions_211 ?_
            refine va_put (v := .int (a.1.2.2.1 + 1)) (ty := .int) hx hb htb i_ListReader t_ListReader t_ListReader_ok n_ListReader hown hK hP hD hS 2 rfl rfl 8 (by decide) (htb _ q3_81) (fun _ h9 => h9) rfl (by decide +kernel) rfl rfl (Nat.le_of_ble_eq_true rfl) d_Reader_readExtensions_212 (fun H212 locs hP hD hS => ?_)
            change va_P (dC, dI) classes (([(ki, .inr (11, [.ref (alO sb o201), .int (nI (a.1.2.2.2 ++ [(z56.1.1, z56.2)]).length), .int m201])), (t, .inl (cB, n, .inl (tx u))), (h, .inr (5, [.ref res, .int ie, .ref t, .int (nI z177.1), .int (nI z177.2.1), .int (wI z177.2.2), .int pa, .int (a.1.2.1 + 1), .int (a.1.2.2.1 + 1), .ref ki]))] : va_W) ++ (alC cO o201 ++ (pl201 ++ []))) H212 at hP
            change va_D A (([(ki, .inr (11, [.ref (alO sb o201), .int (nI (a.1.2.2.2 ++ [(z56.1.1, z56.2)]).length), .int m201])), (t, .inl (cB, n, .inl (tx u))), (h, .inr (5, [.ref res, .int ie, .ref t, .int (nI z177.1), .int (nI z177.2.1), .int (wI z177.2.2), .int pa, .int (a.1.2.1 + 1), .int (a.1.2.2.1 + 1), .ref ki]))] : va_W) ++ (alC cO o201 ++ (pl201 ++ []))) at hD
            refine lv_iinc (v := nI (a.2.1 + 1)) (lv' := [(3, .int (nI (a.2.1 + 1))), (9, .int (nI z120.2)), (8, .int (zP (z93.2.2 = none ∧ z93.1 < z46.2 ∧ u z93.1 = 1))), (7, .ref q61), (6, .int (nI z56.2)), (5, .int (nI z46.2)), (4, .int (nI a.1.1.1)), (0, .ref h), (2, .int (nI z4.2))]) hx hb d_Reader_readExtensions_215 hl (k := 8) rfl (nI_1 _) (by decide) rfl (fun ls hl => ?_)
            refine lv_goto (tgt := 17) hx hb d_Reader_readExtensions_218 (by decide) ?_
            have e9 : rb_extL u n ie z4.2 a.1 = (z177, a.1.2.1 + 1, a.1.2.2.1 + 1, (a.1.2.2.2 ++ [(z56.1.1, z56.2)])) := by
              subst hz177
              subst hz152
              subst hz133
              subst hz120
              subst hz113
              subst hz93
              subst hz56
              subst hz46
              exact ((if_pos p107).trans ((if_pos p136).trans ((if_neg p186).trans rfl)))
            have B46 := opn_bd u n a.1.1 48 z4.2
            rw [← hz46] at B46
            have B56 := opn_bd u n z46.1 6 z46.2
            rw [← hz56] at B56
            have B93 := lea_bd z56.1 z56.2 (zP (oidOK u z56.1.1 z56.2)) hc56
            rw [← hz93] at B93
            have B113 := flag_bd u n z93 z46.2
            rw [← hz113] at B113
            have B120 := opn_bd u n z113 4 z46.2
            rw [← hz120] at B120
            have B133 := (knL_bd u n ie (kdN u z56.1.1 z56.2) z120.1 z120.2)
            rw [← hz133] at B133
            have B7 := lea_bd z133.1 z120.2 (1 : Int32) (by have := B133.2.1; omega)
            rw [← hz152] at B7
            have B7' : z152.2.2 = none → z120.2 ≤ z152.1 := fun q => by rw [hz152] at q ⊢; exact Nat.le_of_eq (lea_at q).1.symm
            have B8 := fin_bd z152 z46.2 z46.2
            rw [← hz177] at B8
            have hch := ext_chain B46.1 (fun q => (B46.2.2.2.2 q).1) B46.2.2.1 B56.1 (fun q => (B56.2.2.2.2 q).1) B56.2.2.1 B93 (B113) B120.1 B120.2.2.1 B133 B7 B7' B8 (bd.rf z177 z4.2)
            clear B46 B56 B93 B120 B133 B7 B7' B8 B113
            change bd a.1.1 z177 z4.2 ∧ (z177.2.2 = none → a.1.1.1 + 4 ≤ z120.1.1 ∧ z120.2 ≤ z177.1) at hch
            obtain ⟨⟨hq1, hq2, hq3⟩, hq4⟩ := hch
            have hq2 : z177.1 ≤ z4.2 := by omega
            have hlp := loop_go hj2 (by omega) hcond
            rw [e9] at hlp
            refine W.widen (k := (3 * (a.2.1 + 1))) (n := (6 * (a.2.1 + 1) + 4 * (alK o201 - alK o70))) (by omega) (by omega) ?_
            exact ih ((z177, a.1.2.1 + 1, a.1.2.2.1 + 1, (a.1.2.2.2 ++ [(z56.1.1, z56.2)])), a.2.1 + 1, o201, m201, pl201) _ _ ls (by show 2048 - (a.2.1 + 1) < 2048 - a.2.1; omega) (⟨hi177, hk2, hlp, E201, hpm, by show alK o70 ≤ alK o201; omega, by have h1 := mxU hj6; have h2 := mxU hk201; show alK o201 ≤ max (alK o70) (10 + 2 * (a.1.2.2.2 ++ [(z56.1.1, z56.2)]).length); omega, by show (a.1.2.2.2 ++ [(z56.1.1, z56.2)]).length = a.2.1 + 1; omega, by show z177.1 ≤ z4.2; omega, by show z4.1.1 ≤ z177.1; omega, fun q => q.elim (fun q => by have := hq4 q; show z4.1.1 + 4 * (a.2.1 + 1) ≤ z177.1; omega) (fun q => absurd q (Nat.succ_ne_zero _)), by show z4.1.1 + 4 * (a.2.1 + 1) ≤ z177.1 + 4; omega⟩) (hP.part [2, 1, 0] rfl) (hD.part [2, 1, 0] (by decide) rfl) hS (lv_sub hl [7, 8, 0] rfl)
          · have p186 : repP u a.1.2.2.2 z56.1.1 z56.2 := (zP_1 c186)
            refine lv_aload_n hx hb d_Reader_readExtensions_189 rfl (lv_at hl 6 rfl) ?_
            refine lv_iload hx hb d_Reader_readExtensions_190 (lv_at hl 5 rfl) ?_
            have hFc := va_free (wc := [(h, .inr (5, [.ref res, .int ie, .ref t, .int (nI z177.1), .int (nI z177.2.1), .int (wI z177.2.2), .int pa, .int (a.1.2.1 + 1), .int a.1.2.2.1, .ref ki]))]) hD hS hA [3] rfl
            refine va_callv (mu_runU (As := [.int (nI a.1.1.1)]) (rest := []) ⟨hx, hb, hml, hown, hts⟩ (cL_refuse l dC dI sb h res t ki z177.1 z177.2.1 n z177.2.2 pa (a.1.2.1 + 1) a.1.2.2.1 ie cB u a.1.1.1 H177.size ((hi177).w hn)) (cu_of (n := 1) hts tbin q3_227 q3_229 q3_228 q3_231 q1_15 q3_232 rfl (by decide +kernel) ⟨rfl, rfl⟩ ⟨Nat.le_of_ble_eq_true rfl, Nat.le_of_ble_eq_true rfl⟩) rfl ⟨by omega, by omega⟩ hN (hT0.keep hS hAs) hAs (Nat.le_trans hB0 hS.1) hK hP hD [3] (by decide) rfl [] rfl 3 5 rfl rfl rfl hl.1 rfl (Nat.le_of_ble_eq_true rfl) d_Reader_readExtensions_192) hS (fun q _ h => hFc q h) hFc (fun u192 tS H192 locs ht hvm hw192 hB hz1 hk1 hS => ?_)
            obtain ⟨z192, rfl⟩ : ∃ z, z = u192 := ⟨_, rfl⟩
            obtain ⟨hP1, hK1, hD1⟩ := hB
            rw [ht] at hP1
            obtain ⟨hP, hD⟩ := va_joinQ (X := [(ki, .inr (11, [.ref (alO sb a.2.2.1), .int (nI a.1.2.2.2.length), .int a.2.2.2.1])), (q61, .inr (0, [.ref t, .int (nI z56.1.1), .int (nI z56.2)])), (t, .inl (cB, n, .inl (tx u))), (h, .inr (5, [.ref res, .int ie, .ref t, .int (nI z177.1), .int (nI z177.2.1), .int (wI z177.2.2), .int pa, .int (a.1.2.1 + 1), .int a.1.2.2.1, .ref ki]))]) (pl := (alC cO a.2.2.1 ++ (a.2.2.2.2 ++ []))) (wr := [(ki, .inr (11, [.ref (alO sb a.2.2.1), .int (nI a.1.2.2.2.length), .int a.2.2.2.1])), (q61, .inr (0, [.ref t, .int (nI z56.1.1), .int (nI z56.2)])), (t, .inl (cB, n, .inl (tx u)))]) (w1 := [(h, .inr (5, [.ref res, .int ie, .ref t, .int (nI z192.1), .int (nI z192.2.1), .int (wI z192.2.2), .int pa, .int (a.1.2.1 + 1), .int a.1.2.2.1, .ref ki]))]) hP hD [3] [0, 1, 2] rfl rfl (by decide) (by decide) hk1 hFc hP1 hD1
            change va_P (dC, dI) classes (([(ki, .inr (11, [.ref (alO sb a.2.2.1), .int (nI a.1.2.2.2.length), .int a.2.2.2.1])), (q61, .inr (0, [.ref t, .int (nI z56.1.1), .int (nI z56.2)])), (t, .inl (cB, n, .inl (tx u))), (h, .inr (5, [.ref res, .int ie, .ref t, .int (nI z192.1), .int (nI z192.2.1), .int (wI z192.2.2), .int pa, .int (a.1.2.1 + 1), .int a.1.2.2.1, .ref ki]))] : va_W) ++ (alC cO a.2.2.1 ++ (a.2.2.2.2 ++ []))) H192 at hP
            change va_D A (([(ki, .inr (11, [.ref (alO sb a.2.2.1), .int (nI a.1.2.2.2.length), .int a.2.2.2.1])), (q61, .inr (0, [.ref t, .int (nI z56.1.1), .int (nI z56.2)])), (t, .inl (cB, n, .inl (tx u))), (h, .inr (5, [.ref res, .int ie, .ref t, .int (nI z192.1), .int (nI z192.2.1), .int (wI z192.2.2), .int pa, .int (a.1.2.1 + 1), .int a.1.2.2.1, .ref ki]))] : va_W) ++ (alC cO a.2.2.1 ++ (a.2.2.2.2 ++ []))) at hD
            have hz192 : z192 = rd_ref z177 a.1.1.1 := hw192
            have hi192 : rdInv n z192 := by rw [hz192]; exact ref_inv hi177 (by have := hi.1; omega)
            have hb192 : z192.1 ≤ n := hi192.1
            refine lv_aload_n hx hb d_Reader_readExtensions_195 rfl (lv_at hl 6 rfl) ?_
            refine va_get (v := .ref ki) hx hb htb i_ListReader hown hK hP 3 rfl rfl 9 (by decide) (htb _ q3_84) (fun _ h9 => h9) rfl d_Reader_readExtensions_196 ?_
            refine lv_aload hx hb d_Reader_readExtensions_199 (lv_at hl 2 rfl) ?_
            have hPm : List.Perm ((([(ki, .inr (11, [.ref (alO sb a.2.2.1), .int (nI a.1.2.2.2.length), .int a.2.2.2.1])), (q61, .inr (0, [.ref t, .int (nI z56.1.1), .int (nI z56.2)])), (t, .inl (cB, n, .inl (tx u))), (h, .inr (5, [.ref res, .int ie, .ref t, .int (nI z192.1), .int (nI z192.2.1), .int (wI z192.2.2), .int pa, .int (a.1.2.1 + 1), .int a.1.2.2.1, .ref ki]))] : va_W) ++ (alC cO a.2.2.1 ++ (a.2.2.2.2 ++ []))) : va_W) ((ki, .inr (11, [.ref (alO sb a.2.2.1), .int (nI a.1.2.2.2.length), .int a.2.2.2.1])) :: (alC cO a.2.2.1 ++ (([(q61, .inr (0, [.ref t, .int (nI z56.1.1), .int (nI z56.2)])), (t, .inl (cB, n, .inl (tx u))), (h, .inr (5, [.ref res, .int ie, .ref t, .int (nI z192.1), .int (nI z192.2.1), .int (wI z192.2.2), .int pa, .int (a.1.2.1 + 1), .int a.1.2.2.1, .ref ki]))] : va_W) ++ (a.2.2.2.2 ++ [])))) := ((fun (b0 b1 b2 b3 b4 b5 : va_W) => (blk_perm (fun i => ([b0, b1, b2, b3, b4, b5] : List va_W).getD i []) [0, 1, 2, 3, 4, 5] [0, 4, 1, 2, 3, 5] rfl : List.Perm (b0 ++ (b1 ++ (b2 ++ (b3 ++ (b4 ++ (b5 ++ [])))))) (b0 ++ (b4 ++ (b1 ++ (b2 ++ (b3 ++ (b5 ++ [])))))))) ([(ki, .inr (11, [.ref (alO sb a.2.2.1), .int (nI a.1.2.2.2.length), .int a.2.2.2.1]))]) ([(q61, .inr (0, [.ref t, .int (nI z56.1.1), .int (nI z56.2)]))]) ([(t, .inl (cB, n, .inl (tx u)))]) ([(h, .inr (5, [.ref res, .int ie, .ref t, .int (nI z192.1), .int (nI z192.2.1), .int (wI z192.2.2), .int pa, .int (a.1.2.1 + 1), .int a.1.2.2.1, .ref ki]))]) (alC cO a.2.2.1) (a.2.2.2.2))
            have hP := hP.perm hPm
            have hD := hD.perm hPm
            have hal201 : mxB (4 * alK a.2.2.1 + alS a.2.2.1 a.1.2.2.2.length) (4 * alK a.2.2.1) (4 * (10 + 2 * a.1.2.2.2.length)) := al_costM hj3.1
            have haz201 := (al_cost hj3.1).2
            refine al_add (own := "TrustChain$Reader") 0 _ q61 ki a.1.2.2.2.length a.2.2.2.1 cO a.2.2.1 rfl qn9_238 ⟨hx, hb, hml, hown, hts⟩ tbin q4_224 hN (hT0.keep hS hAs) hAs (Nat.le_trans hB0 hS.1) hA hK 1 rfl hP hD hS hj3.1 (by omega) (hj3.toF (fun q9 hq9 => List.mem_append_right _ (List.mem_append_left _ hq9))) ⟨0, _, rfl⟩ (Nat.le_of_ble_eq_true rfl) (Nat.le_of_ble_eq_true rfl) (by omega) (by have := mxU hal201; have h1 := mxU hj6; omega) hl.1 (Nat.le_of_ble_eq_true rfl) d_Reader_readExtensions_201 (fun o201 m201 H201 locs hi201 hg201 hk201 he201 hf201 hv201 hP hD hS => ?_)
            change mxB (alK o201) (alK a.2.2.1) (10 + 2 * a.1.2.2.2.length) at hk201
            have hsa201 : (6 * a.2.1 + 4 * (alK a.2.2.1 - alK o70)) + 6 + alS a.2.2.1 a.1.2.2.2.length ≤ (6 * ((en - x.1) / 4 + 1) + 4 * (10 + 2 * ((en - x.1) / 4 + 1))) := by have := mxU hal201; have h1 := mxU hj6; omega
            clear hal201
            have hln201 : a.1.2.2.2.length + 1 = (a.1.2.2.2 ++ [(z56.1.1, z56.2)]).length := by rw [List.length_append]; rfl
            rw [hln201] at hP hD
            have hPm : List.Perm ((ki, .inr (11, [.ref (alO sb o201), .int (nI (a.1.2.2.2 ++ [(z56.1.1, z56.2)]).length), .int m201])) :: (alC cO o201 ++ (([(q61, .inr (0, [.ref t, .int (nI z56.1.1), .int (nI z56.2)])), (t, .inl (cB, n, .inl (tx u))), (h, .inr (5, [.ref res, .int ie, .ref t, .int (nI z192.1), .int (nI z192.2.1), .int (wI z192.2.2), .int pa, .int (a.1.2.1 + 1), .int a.1.2.2.1, .ref ki]))] : va_W) ++ (a.2.2.2.2 ++ []))) : va_W) (([(ki, .inr (11, [.ref (alO sb o201), .int (nI (a.1.2.2.2 ++ [(z56.1.1, z56.2)]).length), .int m201])), (t, .inl (cB, n, .inl (tx u))), (h, .inr (5, [.ref res, .int ie, .ref t, .int (nI z192.1), .int (nI z192.2.1), .int (wI z192.2.2), .int pa, .int (a.1.2.1 + 1), .int a.1.2.2.1, .ref ki]))] : va_W) ++ (alC cO o201 ++ (a.2.2.2.2 ++ (([(q61, .inr (0, [.ref t, .int (nI z56.1.1), .int (nI z56.2)]))] : va_W) ++ [])))) := ((fun (b0 b1 b2 b3 b4 b5 : va_W) => (blk_perm (fun i => ([b0, b1, b2, b3, b4, b5] : List va_W).getD i []) [0, 1, 2, 3, 4, 5] [0, 3, 4, 1, 5, 2] rfl : List.Perm (b0 ++ (b1 ++ (b2 ++ (b3 ++ (b4 ++ (b5 ++ [])))))) (b0 ++ (b3 ++ (b4 ++ (b1 ++ (b5 ++ (b2 ++ [])))))))) ([(ki, .inr (11, [.ref (alO sb o201), .int (nI (a.1.2.2.2 ++ [(z56.1.1, z56.2)]).length), .int m201]))]) (alC cO o201) ([(q61, .inr (0, [.ref t, .int (nI z56.1.1), .int (nI z56.2)]))]) ([(t, .inl (cB, n, .inl (tx u)))]) ([(h, .inr (5, [.ref res, .int ie, .ref t, .int (nI z192.1), .int (nI z192.2.1), .int (wI z192.2.2), .int pa, .int (a.1.2.1 + 1), .int a.1.2.2.1, .ref ki]))]) (a.2.2.2.2))
            have hP := hP.perm hPm
            have hD := hD.perm hPm
            obtain ⟨pl201, hpl201⟩ : ∃ z : va_W, z = a.2.2.2.2 ++ [(q61, .inr (0, [.ref t, .int (nI z56.1.1), .int (nI z56.2)]))] := ⟨_, rfl⟩
            have hPe : (([(ki, .inr (11, [.ref (alO sb o201), .int (nI (a.1.2.2.2 ++ [(z56.1.1, z56.2)]).length), .int m201])), (t, .inl (cB, n, .inl (tx u))), (h, .inr (5, [.ref res, .int ie, .ref t, .int (nI z192.1), .int (nI z192.2.1), .int (wI z192.2.2), .int pa, .int (a.1.2.1 + 1), .int a.1.2.2.1, .ref ki]))] : va_W) ++ (alC cO o201 ++ (a.2.2.2.2 ++ (([(q61, .inr (0, [.ref t, .int (nI z56.1.1), .int (nI z56.2)]))] : va_W) ++ [])))) = (([(ki, .inr (11, [.ref (alO sb o201), .int (nI (a.1.2.2.2 ++ [(z56.1.1, z56.2)]).length), .int m201])), (t, .inl (cB, n, .inl (tx u))), (h, .inr (5, [.ref res, .int ie, .ref t, .int (nI z192.1), .int (nI z192.2.1), .int (wI z192.2.2), .int pa, .int (a.1.2.1 + 1), .int a.1.2.2.1, .ref ki]))] : va_W) ++ (alC cO o201 ++ (pl201 ++ []))) := by
              subst hpl201
              exact ((fun (b0 b1 b2 b3 b4 b5 : va_W) => (by simp only [List.append_assoc] : (b0 ++ (b1 ++ (b2 ++ (b3 ++ (b4 ++ (b5 ++ [])))))) = (b0 ++ (b1 ++ (b2 ++ (b3 ++ ((b4 ++ b5) ++ []))))))) ([(ki, .inr (11, [.ref (alO sb o201), .int (nI (a.1.2.2.2 ++ [(z56.1.1, z56.2)]).length), .int m201]))]) ([(t, .inl (cB, n, .inl (tx u)))]) ([(h, .inr (5, [.ref res, .int ie, .ref t, .int (nI z192.1), .int (nI z192.2.1), .int (wI z192.2.2), .int pa, .int (a.1.2.1 + 1), .int a.1.2.2.1, .ref ki]))]) (alC cO o201) (a.2.2.2.2) ([(q61, .inr (0, [.ref t, .int (nI z56.1.1), .int (nI z56.2)]))]))
            rw [hPe] at hP hD
            have hm201 : ∀ q ∈ a.2.2.2.2, q ∈ pl201 := fun q hq => by rw [hpl201]; exact List.mem_append_left _ hq
            have E201 : elS t n pl201 o201 (a.1.2.2.2 ++ [(z56.1.1, z56.2)]) := hj3.snoc hm201 hi201 hf201 hv201 (by rw [hpl201]; exact List.mem_append_right _ (List.mem_singleton.mpr rfl)) (by omega) (by omega)
            have hpm := fun q hq => hm201 q (hj4 q hq)
            refine lv_pop hx hb d_Reader_readExtensions_204 rfl ?_
            refine lv_aload_n hx hb d_Reader_readExtensions_205 rfl (lv_at hl 6 rfl) ?_
            refine lv_dup hx hb d_Reader_readExtensions_206 rfl ?_
            refine va_get (v := .int a.1.2.2.1) hx hb htb i_ListReader hown hK hP 2 rfl rfl 8 (by decide) (htb _ q3_81) (fun _ h9 => h9) rfl d_Reader_readExtensions_207 ?_
            refine lv_iconst (v := 1) hx hb d_Reader_readExtensions_210 (by decide) ?_
            refine lv_iadd hx hb d_Reader_readExtensions_211 ?_
            refine va_put (v := .int (a.1.2.2.1 + 1)) (ty := .int) hx hb htb i_ListReader t_ListReader t_ListReader_ok n_ListReader hown hK hP hD hS 2 rfl rfl 8 (by decide) (htb _ q3_81) (fun _ h9 => h9) rfl (by decide +kernel) rfl rfl (Nat.le_of_ble_eq_true rfl) d_Reader_readExtensions_212 (fun H212 locs hP hD hS => ?_)
            change va_P (dC, dI) classes (([(ki, .inr (11, [.ref (alO sb o201), .int (nI (a.1.2.2.2 ++ [(z56.1.1, z56.2)]).length), .int m201])), (t, .inl (cB, n, .inl (tx u))), (h, .inr (5, [.ref res, .int ie, .ref t, .int (nI z192.1), .int (nI z192.2.1), .int (wI z192.2.2), .int pa, .int (a.1.2.1 + 1), .int (a.1.2.2.1 + 1), .ref ki]))] : va_W) ++ (alC cO o201 ++ (pl201 ++ []))) H212 at hP
            change va_D A (([(ki, .inr (11, [.ref (alO sb o201), .int (nI (a.1.2.2.2 ++ [(z56.1.1, z56.2)]).length), .int m201])), (t, .inl (cB, n, .inl (tx u))), (h, .inr (5, [.ref res, .int ie, .ref t, .int (nI z192.1), .int (nI z192.2.1), .int (wI z192.2.2), .int pa, .int (a.1.2.1 + 1), .int (a.1.2.2.1 + 1), .ref ki]))] : va_W) ++ (alC cO o201 ++ (pl201 ++ []))) at hD
            refine lv_iinc (v := nI (a.2.1 + 1)) (lv' := [(3, .int (nI (a.2.1 + 1))), (9, .int (nI z120.2)), (8, .int (zP (z93.2.2 = none ∧ z93.1 < z46.2 ∧ u z93.1 = 1))), (7, .ref q61), (6, .int (nI z56.2)), (5, .int (nI z46.2)), (4, .int (nI a.1.1.1)), (0, .ref h), (2, .int (nI z4.2))]) hx hb d_Reader_readExtensions_215 hl (k := 8) rfl (nI_1 _) (by decide) rfl (fun ls hl => ?_)
            refine lv_goto (tgt := 17) hx hb d_Reader_readExtensions_218 (by decide) ?_
            have e9 : rb_extL u n ie z4.2 a.1 = (z192, a.1.2.1 + 1, a.1.2.2.1 + 1, (a.1.2.2.2 ++ [(z56.1.1, z56.2)])) := by
              subst hz192
              subst hz177
              subst hz152
              subst hz133
              subst hz120
              subst hz113
              subst hz93
              subst hz56
              subst hz46
              exact ((if_pos p107).trans ((if_pos p136).trans ((if_pos p186).trans rfl)))
            have B46 := opn_bd u n a.1.1 48 z4.2
            rw [← hz46] at B46
            have B56 := opn_bd u n z46.1 6 z46.2
            rw [← hz56] at B56
            have B93 := lea_bd z56.1 z56.2 (zP (oidOK u z56.1.1 z56.2)) hc56
            rw [← hz93] at B93
            have B113 := flag_bd u n z93 z46.2
            rw [← hz113] at B113
            have B120 := opn_bd u n z113 4 z46.2
            rw [← hz120] at B120
            have B133 := (knL_bd u n ie (kdN u z56.1.1 z56.2) z120.1 z120.2)
            rw [← hz133] at B133
            have B7 := lea_bd z133.1 z120.2 (1 : Int32) (by have := B133.2.1; omega)
            rw [← hz152] at B7
            have B7' : z152.2.2 = none → z120.2 ≤ z152.1 := fun q => by rw [hz152] at q ⊢; exact Nat.le_of_eq (lea_at q).1.symm
            have B8 := fin_bd z152 z46.2 z46.2
            rw [← hz177] at B8
            have B9 := ref_bd z177 a.1.1.1 z4.2
            rw [← hz192] at B9
            have hch := ext_chain B46.1 (fun q => (B46.2.2.2.2 q).1) B46.2.2.1 B56.1 (fun q => (B56.2.2.2.2 q).1) B56.2.2.1 B93 (B113) B120.1 B120.2.2.1 B133 B7 B7' B8 (B9)
            clear B46 B56 B93 B120 B133 B7 B7' B8 B113 B9
            change bd a.1.1 z192 z4.2 ∧ (z192.2.2 = none → a.1.1.1 + 4 ≤ z120.1.1 ∧ z120.2 ≤ z192.1) at hch
            obtain ⟨⟨hq1, hq2, hq3⟩, hq4⟩ := hch
            have hq2 : z192.1 ≤ z4.2 := by omega
            have hlp := loop_go hj2 (by omega) hcond
            rw [e9] at hlp
            refine W.widen (k := (3 * (a.2.1 + 1))) (n := (6 * (a.2.1 + 1) + 4 * (alK o201 - alK o70))) (by omega) (by omega) ?_
            exact ih ((z192, a.1.2.1 + 1, a.1.2.2.1 + 1, (a.1.2.2.2 ++ [(z56.1.1, z56.2)])), a.2.1 + 1, o201, m201, pl201) _ _ ls (by show 2048 - (a.2.1 + 1) < 2048 - a.2.1; omega) (⟨hi192, hk2, hlp, E201, hpm, by show alK o70 ≤ alK o201; omega, by have h1 := mxU hj6; have h2 := mxU hk201; show alK o201 ≤ max (alK o70) (10 + 2 * (a.1.2.2.2 ++ [(z56.1.1, z56.2)]).length); omega, by show (a.1.2.2.2 ++ [(z56.1.1, z56.2)]).length = a.2.1 + 1; omega, by show z192.1 ≤ z4.2; omega, by show z4.1.1 ≤ z192.1; omega, fun q => q.elim (fun q => by have := hq4 q; show z4.1.1 + 4 * (a.2.1 + 1) ≤ z192.1; omega) (fun q => absurd q (Nat.succ_ne_zero _)), by show z4.1.1 + 4 * (a.2.1 + 1) ≤ z192.1 + 4; omega⟩) (hP.part [2, 1, 0] rfl) (hD.part [2, 1, 0] (by decide) rfl) hS (lv_sub hl [7, 8, 0] rfl)
        · have p136 : ¬ (z133.2 = (0 : Int32)) := c136
          refine lv_aload_n hx hb d_Reader_readExtensions_139 rfl (lv_at hl 6 rfl) ?_
          refine lv_iload hx hb d_Reader_readExtensions_140 (lv_at hl 0 rfl) ?_
          have hFc := va_free (wc := [(h, .inr (5, [.ref res, .int ie, .ref t, .int (nI z133.1.1), .int (nI z133.1.2.1), .int (wI z133.1.2.2), .int pa, .int a.1.2.1, .int a.1.2.2.1, .ref ki]))]) hD hS hA [2] rfl
          refine va_callv (mu_runU (As := [.int (nI z120.2)]) (rest := []) ⟨hx, hb, hml, hown, hts⟩ (cL_finish l dC dI sb h res t ki z133.1.1 z133.1.2.1 n z133.1.2.2 pa a.1.2.1 a.1.2.2.1 ie cB u z120.2 H133.size ((hi133).w hn) (by have := (hi133).1; omega) (by omega)) (cu_of (n := 1) hts tbin q3_183 q9_201 q3_163 q9_203 q1_15 q3_164 rfl (by decide +kernel) ⟨rfl, rfl⟩ ⟨Nat.le_of_ble_eq_true rfl, Nat.le_of_ble_eq_true rfl⟩) rfl ⟨by omega, by omega⟩ hN (hT0.keep hS hAs) hAs (Nat.le_trans hB0 hS.1) hK hP hD [2] (by decide) rfl [] rfl 2 5 rfl rfl rfl hl.1 rfl (Nat.le_of_ble_eq_true rfl) d_Reader_readExtensions_142) hS (fun q _ h => hFc q h) hFc (fun u142 tS H142 locs ht hvm hw142 hB hz1 hk1 hS => ?_)
          obtain ⟨z142, rfl⟩ : ∃ z, z = u142 := ⟨_, rfl⟩
          obtain ⟨hP1, hK1, hD1⟩ := hB
          rw [ht] at hP1
          obtain ⟨hP, hD⟩ := va_joinQ (X := [(ki, .inr (11, [.ref (alO sb a.2.2.1), .int (nI a.1.2.2.2.length), .int a.2.2.2.1])), (q61, .inr (0, [.ref t, .int (nI z56.1.1), .int (nI z56.2)])), (h, .inr (5, [.ref res, .int ie, .ref t, .int (nI z133.1.1), .int (nI z133.1.2.1), .int (wI z133.1.2.2), .int pa, .int a.1.2.1, .int a.1.2.2.1, .ref ki])), (t, .inl (cB, n, .inl (tx u)))]) (pl := (alC cO a.2.2.1 ++ (a.2.2.2.2 ++ []))) (wr := [(ki, .inr (11, [.ref (alO sb a.2.2.1), .int (nI a.1.2.2.2.length), .int a.2.2.2.1])), (q61, .inr (0, [.ref t, .int (nI z56.1.1), .int (nI z56.2)])), (t, .inl (cB, n, .inl (tx u)))]) (w1 := [(h, .inr (5, [.ref res, .int ie, .ref t, .int (nI z142.1), .int (nI z142.2.1), .int (wI z142.2.2), .int pa, .int a.1.2.1, .int a.1.2.2.1, .ref ki]))]) hP hD [2] [0, 1, 3] rfl rfl (by decide) (by decide) hk1 hFc hP1 hD1
          change va_P (dC, dI) classes (([(ki, .inr (11, [.ref (alO sb a.2.2.1), .int (nI a.1.2.2.2.length), .int a.2.2.2.1])), (q61, .inr (0, [.ref t, .int (nI z56.1.1), .int (nI z56.2)])), (t, .inl (cB, n, .inl (tx u))), (h, .inr (5, [.ref res, .int ie, .ref t, .int (nI z142.1), .int (nI z142.2.1), .int (wI z142.2.2), .int pa, .int a.1.2.1, .int a.1.2.2.1, .ref ki]))] : va_W) ++ (alC cO a.2.2.1 ++ (a.2.2.2.2 ++ []))) H142 at hP
          change va_D A (([(ki, .inr (11, [.ref (alO sb a.2.2.1), .int (nI a.1.2.2.2.length), .int a.2.2.2.1])), (q61, .inr (0, [.ref t, .int (nI z56.1.1), .int (nI z56.2)])), (t, .inl (cB, n, .inl (tx u))), (h, .inr (5, [.ref res, .int ie, .ref t, .int (nI z142.1), .int (nI z142.2.1), .int (wI z142.2.2), .int pa, .int a.1.2.1, .int a.1.2.2.1, .ref ki]))] : va_W) ++ (alC cO a.2.2.1 ++ (a.2.2.2.2 ++ []))) at hD
          have hz142 : z142 = rd_fin z133.1 z120.2 := hw142
          have hi142 : rdInv n z142 := by rw [hz142]; exact fin_inv hi133
          have hb142 : z142.1 ≤ n := hi142.1
          refine lv_goto (tgt := 174) hx hb d_Reader_readExtensions_145 (by decide) ?_
          refine lv_aload_n hx hb d_Reader_readExtensions_174 rfl (lv_at hl 6 rfl) ?_
          refine lv_iload hx hb d_Reader_readExtensions_175 (lv_at hl 4 rfl) ?_
          have hFc := va_free (wc := [(h, .inr (5, [.ref res, .int ie, .ref t, .int (nI z142.1), .int (nI z142.2.1), .int (wI z142.2.2), .int pa, .int a.1.2.1, .int a.1.2.2.1, .ref ki]))]) hD hS hA [3] rfl
          refine va_callv (mu_runU (As := [.int (nI z46.2)]) (rest := []) ⟨hx, hb, hml, hown, hts⟩ (cL_finish l dC dI sb h res t ki z142.1 z142.2.1 n z142.2.2 pa a.1.2.1 a.1.2.2.1 ie cB u z46.2 H142.size ((hi142).w hn) (by have := (hi142).1; omega) (by omega)) (cu_of (n := 1) hts tbin q3_183 q9_201 q3_163 q9_203 q1_15 q3_164 rfl (by decide +kernel) ⟨rfl, rfl⟩ ⟨Nat.le_of_ble_eq_true rfl, Nat.le_of_ble_eq_true rfl⟩) rfl ⟨by omega, by omega⟩ hN (hT0.keep hS hAs) hAs (Nat.le_trans hB0 hS.1) hK hP hD [3] (by decide) rfl [] rfl 3 5 rfl rfl rfl hl.1 rfl (Nat.le_of_ble_eq_true rfl) d_Reader_readExtensions_177) hS (fun q _ h => hFc q h) hFc (fun u177 tS H177 locs ht hvm hw177 hB hz1 hk1 hS => ?_)
          obtain ⟨z177, rfl⟩ : ∃ z, z = u177 := ⟨_, rfl⟩
          obtain ⟨hP1, hK1, hD1⟩ := hB
          rw [ht] at hP1
          obtain ⟨hP, hD⟩ := va_joinQ (X := [(ki, .inr (11, [.ref (alO sb a.2.2.1), .int (nI a.1.2.2.2.length), .int a.2.2.2.1])), (q61, .inr (0, [.ref t, .int (nI z56.1.1), .int (nI z56.2)])), (t, .inl (cB, n, .inl (tx u))), (h, .inr (5, [.ref res, .int ie, .ref t, .int (nI z142.1), .int (nI z142.2.1), .int (wI z142.2.2), .int pa, .int a.1.2.1, .int a.1.2.2.1, .ref ki]))]) (pl := (alC cO a.2.2.1 ++ (a.2.2.2.2 ++ []))) (wr := [(ki, .inr (11, [.ref (alO sb a.2.2.1), .int (nI a.1.2.2.2.length), .int a.2.2.2.1])), (q61, .inr (0, [.ref t, .int (nI z56.1.1), .int (nI z56.2)])), (t, .inl (cB, n, .inl (tx u)))]) (w1 := [(h, .inr (5, [.ref res, .int ie, .ref t, .int (nI z177.1), .int (nI z177.2.1), .int (wI z177.2.2), .int pa, .int a.1.2.1, .int a.1.2.2.1, .ref ki]))]) hP hD [3] [0, 1, 2] rfl rfl (by decide) (by decide) hk1 hFc hP1 hD1
          change va_P (dC, dI) classes (([(ki, .inr (11, [.ref (alO sb a.2.2.1), .int (nI a.1.2.2.2.length), .int a.2.2.2.1])), (q61, .inr (0, [.ref t, .int (nI z56.1.1), .int (nI z56.2)])), (t, .inl (cB, n, .inl (tx u))), (h, .inr (5, [.ref res, .int ie, .ref t, .int (nI z177.1), .int (nI z177.2.1), .int (wI z177.2.2), .int pa, .int a.1.2.1, .int a.1.2.2.1, .ref ki]))] : va_W) ++ (alC cO a.2.2.1 ++ (a.2.2.2.2 ++ []))) H177 at hP
          change va_D A (([(ki, .inr (11, [.ref (alO sb a.2.2.1), .int (nI a.1.2.2.2.length), .int a.2.2.2.1])), (q61, .inr (0, [.ref t, .int (nI z56.1.1), .int (nI z56.2)])), (t, .inl (cB, n, .inl (tx u))), (h, .inr (5, [.ref res, .int ie, .ref t, .int (nI z177.1), .int (nI z177.2.1), .int (wI z177.2.2), .int pa, .int a.1.2.1, .int a.1.2.2.1, .ref ki]))] : va_W) ++ (alC cO a.2.2.1 ++ (a.2.2.2.2 ++ []))) at hD
          have hz177 : z177 = rd_fin z142 z46.2 := hw177
          have hi177 : rdInv n z177 := by rw [hz177]; exact fin_inv hi142
          have hb177 : z177.1 ≤ n := hi177.1
          refine lv_aload_n hx hb d_Reader_readExtensions_180 rfl (lv_at hl 6 rfl) ?_
          refine lv_aload hx hb d_Reader_readExtensions_181 (lv_at hl 2 rfl) ?_
          have hPc : va_P (dC, dI) classes (([(h, .inr (5, [.ref res, .int ie, .ref t, .int (nI z177.1), .int (nI z177.2.1), .int (wI z177.2.2), .int pa, .int a.1.2.1, .int a.1.2.2.1, .ref ki])), (t, .inl (cB, n, .inl (tx u))), (q61, .inr (0, [.ref t, .int (nI z56.1.1), .int (nI z56.2)])), (ki, .inr (11, [.ref (alO sb a.2.2.1), .int (nI a.1.2.2.2.length), .int a.2.2.2.1]))] : va_W) ++ (alC cO a.2.2.1 ++ (a.2.2.2.2 ++ []))) H177 := by
            have hPm : List.Perm ((([(ki, .inr (11, [.ref (alO sb a.2.2.1), .int (nI a.1.2.2.2.length), .int a.2.2.2.1])), (q61, .inr (0, [.ref t, .int (nI z56.1.1), .int (nI z56.2)])), (t, .inl (cB, n, .inl (tx u))), (h, .inr (5, [.ref res, .int ie, .ref t, .int (nI z177.1), .int (nI z177.2.1), .int (wI z177.2.2), .int pa, .int a.1.2.1, .int a.1.2.2.1, .ref ki]))] : va_W) ++ (alC cO a.2.2.1 ++ (a.2.2.2.2 ++ []))) : va_W) (([(h, .inr (5, [.ref res, .int ie, .ref t, .int (nI z177.1), .int (nI z177.2.1), .int (wI z177.2.2), .int pa, .int a.1.2.1, .int a.1.2.2.1, .ref ki]))] : va_W) ++ (([(t, .inl (cB, n, .inl (tx u)))] : va_W) ++ (([(q61, .inr (0, [.ref t, .int (nI z56.1.1), .int (nI z56.2)]))] : va_W) ++ (([(ki, .inr (11, [.ref (alO sb a.2.2.1), .int (nI a.1.2.2.2.length), .int a.2.2.2.1]))] : va_W) ++ (alC cO a.2.2.1 ++ (a.2.2.2.2 ++ [])))))) := ((fun (b0 b1 b2 b3 b4 b5 : va_W) => (blk_perm (fun i => ([b0, b1, b2, b3, b4, b5] : List va_W).getD i []) [0, 1, 2, 3, 4, 5] [3, 2, 1, 0, 4, 5] rfl : List.Perm (b0 ++ (b1 ++ (b2 ++ (b3 ++ (b4 ++ (b5 ++ [])))))) (b3 ++ (b2 ++ (b1 ++ (b0 ++ (b4 ++ (b5 ++ [])))))))) ([(ki, .inr (11, [.ref (alO sb a.2.2.1), .int (nI a.1.2.2.2.length), .int a.2.2.2.1]))]) ([(q61, .inr (0, [.ref t, .int (nI z56.1.1), .int (nI z56.2)]))]) ([(t, .inl (cB, n, .inl (tx u)))]) ([(h, .inr (5, [.ref res, .int ie, .ref t, .int (nI z177.1), .int (nI z177.2.1), .int (wI z177.2.2), .int pa, .int a.1.2.1, .int a.1.2.2.1, .ref ki]))]) (alC cO a.2.2.1) (a.2.2.2.2))
            have hPe : (([(h, .inr (5, [.ref res, .int ie, .ref t, .int (nI z177.1), .int (nI z177.2.1), .int (wI z177.2.2), .int pa, .int a.1.2.1, .int a.1.2.2.1, .ref ki]))] : va_W) ++ (([(t, .inl (cB, n, .inl (tx u)))] : va_W) ++ (([(q61, .inr (0, [.ref t, .int (nI z56.1.1), .int (nI z56.2)]))] : va_W) ++ (([(ki, .inr (11, [.ref (alO sb a.2.2.1), .int (nI a.1.2.2.2.length), .int a.2.2.2.1]))] : va_W) ++ (alC cO a.2.2.1 ++ (a.2.2.2.2 ++ [])))))) = (([(h, .inr (5, [.ref res, .int ie, .ref t, .int (nI z177.1), .int (nI z177.2.1), .int (wI z177.2.2), .int pa, .int a.1.2.1, .int a.1.2.2.1, .ref ki])), (t, .inl (cB, n, .inl (tx u))), (q61, .inr (0, [.ref t, .int (nI z56.1.1), .int (nI z56.2)])), (ki, .inr (11, [.ref (alO sb a.2.2.1), .int (nI a.1.2.2.2.length), .int a.2.2.2.1]))] : va_W) ++ (alC cO a.2.2.1 ++ (a.2.2.2.2 ++ []))) ++ [] := ((fun (b0 b1 b2 b3 b4 b5 : va_W) => (by simp only [List.append_assoc, List.nil_append, List.append_nil] : (b0 ++ (b1 ++ (b2 ++ (b3 ++ (b4 ++ (b5 ++ [])))))) = (b0 ++ (b1 ++ (b2 ++ (b3 ++ (b4 ++ (b5 ++ [])))))) ++ [])) ([(h, .inr (5, [.ref res, .int ie, .ref t, .int (nI z177.1), .int (nI z177.2.1), .int (wI z177.2.2), .int pa, .int a.1.2.1, .int a.1.2.2.1, .ref ki]))]) ([(t, .inl (cB, n, .inl (tx u)))]) ([(q61, .inr (0, [.ref t, .int (nI z56.1.1), .int (nI z56.2)]))]) ([(ki, .inr (11, [.ref (alO sb a.2.2.1), .int (nI a.1.2.2.2.length), .int a.2.2.2.1]))]) (alC cO a.2.2.1) (a.2.2.2.2))
            have h9 := hP.perm hPm
            rw [hPe] at h9
            exact h9.front
          refine vp_callSi (pd_callU (As := [.ref q61]) (rest := []) ⟨hx, hb, hml, hown, hts⟩ (cL_isRepeated l dC dI sb h res t ki n z177 pa a.1.2.1 a.1.2.2.1 ie cB u q61 z56.1.1 z56.2 a.2.2.2.1 cO a.2.2.1 a.1.2.2.2 a.2.2.2.2 hu hn hi177 (by omega) (by omega) hj3) (cu_of (n := 1) hts tbin q4_204 q9_212 q4_206 qx_11 q1_15 q4_207 rfl (by decide +kernel) ⟨rfl, rfl⟩ ⟨Nat.le_of_ble_eq_true rfl, Nat.le_of_ble_eq_true rfl⟩) rfl ⟨by omega, by omega⟩ hN (hT0.keep hS hAs) hK hP hPc [0, 1] rfl 3 5 rfl rfl rfl hl.1 rfl (Nat.le_of_ble_eq_true rfl) d_Reader_readExtensions_183) (fun r183 hr183 => ?_)
          obtain rfl := bz_zP hr183
          clear hPc
          refine lv_if_eq (tgt := 195) hx hb d_Reader_readExtensions_186 (by decide) (fun c186 => ?_) (fun c186 => ?_)
          · have p186 : ¬ (repP u a.1.2.2.2 z56.1.1 z56.2) := (zP_0.mp c186)
            refine lv_aload_n hx hb d_Reader_readExtensions_195 rfl (lv_at hl 6 rfl) ?_
            refine va_get (v := .ref ki) hx hb htb i_ListReader hown hK hP 3 rfl rfl 9 (by decide) (htb _ q3_84) (fun _ h9 => h9) rfl d_Reader_readExtensions_196 ?_
            refine lv_aload hx hb d_Reader_readExtensions_199 (lv_at hl 2 rfl) ?_
            have hPm : List.Perm ((([(ki, .inr (11, [.ref (alO sb a.2.2.1), .int (nI a.1.2.2.2.length), .int a.2.2.2.1])), (q61, .inr (0, [.ref t, .int (nI z56.1.1), .int (nI z56.2)])), (t, .inl (cB, n, .inl (tx u))), (h, .inr (5, [.ref res, .int ie, .ref t, .int (nI z177.1), .int (nI z177.2.1), .int (wI z177.2.2), .int pa, .int a.1.2.1, .int a.1.2.2.1, .ref ki]))] : va_W) ++ (alC cO a.2.2.1 ++ (a.2.2.2.2 ++ []))) : va_W) ((ki, .inr (11, [.ref (alO sb a.2.2.1), .int (nI a.1.2.2.2.length), .int a.2.2.2.1])) :: (alC cO a.2.2.1 ++ (([(q61, .inr (0, [.ref t, .int (nI z56.1.1), .int (nI z56.2)])), (t, .inl (cB, n, .inl (tx u))), (h, .inr (5, [.ref res, .int ie, .ref t, .int (nI z177.1), .int (nI z177.2.1), .int (wI z177.2.2), .int pa, .int a.1.2.1, .int a.1.2.2.1, .ref ki]))] : va_W) ++ (a.2.2.2.2 ++ [])))) := ((fun (b0 b1 b2 b3 b4 b5 : va_W) => (blk_perm (fun i => ([b0, b1, b2, b3, b4, b5] : List va_W).getD i []) [0, 1, 2, 3, 4, 5] [0, 4, 1, 2, 3, 5] rfl : List.Perm (b0 ++ (b1 ++ (b2 ++ (b3 ++ (b4 ++ (b5 ++ [])))))) (b0 ++ (b4 ++ (b1 ++ (b2 ++ (b3 ++ (b5 ++ [])))))))) ([(ki, .inr (11, [.ref (alO sb a.2.2.1), .int (nI a.1.2.2.2.length), .int a.2.2.2.1]))]) ([(q61, .inr (0, [.ref t, .int (nI z56.1.1), .int (nI z56.2)]))]) ([(t, .inl (cB, n, .inl (tx u)))]) ([(h, .inr (5, [.ref res, .int ie, .ref t, .int (nI z177.1), .int (nI z177.2.1), .int (wI z177.2.2), .int pa, .int a.1.2.1, .int a.1.2.2.1, .ref ki]))]) (alC cO a.2.2.1) (a.2.2.2.2))
            have hP := hP.perm hPm
            have hD := hD.perm hPm
            have hal201 : mxB (4 * alK a.2.2.1 + alS a.2.2.1 a.1.2.2.2.length) (4 * alK a.2.2.1) (4 * (10 + 2 * a.1.2.2.2.length)) := al_costM hj3.1
            have haz201 := (al_cost hj3.1).2
            refine al_add (own := "TrustChain$Reader") 0 _ q61 ki a.1.2.2.2.length a.2.2.2.1 cO a.2.2.1 rfl qn9_238 ⟨hx, hb, hml, hown, hts⟩ tbin q4_224 hN (hT0.keep hS hAs) hAs (Nat.le_trans hB0 hS.1) hA hK 1 rfl hP hD hS hj3.1 (by omega) (hj3.toF (fun q9 hq9 => List.mem_append_right _ (List.mem_append_left _ hq9))) ⟨0, _, rfl⟩ (Nat.le_of_ble_eq_true rfl) (Nat.le_of_ble_eq_true rfl) (by omega) (by have := mxU hal201; have h1 := mxU hj6; omega) hl.1 (Nat.le_of_ble_eq_true rfl) d_Reader_readExtensions_201 (fun o201 m201 H201 locs hi201 hg201 hk201 he201 hf201 hv201 hP hD hS => ?_)
            change mxB (alK o201) (alK a.2.2.1) (10 + 2 * a.1.2.2.2.length) at hk201
            have hsa201 : (6 * a.2.1 + 4 * (alK a.2.2.1 - alK o70)) + 6 + alS a.2.2.1 a.1.2.2.2.length ≤ (6 * ((en - x.1) / 4 + 1) + 4 * (10 + 2 * ((en - x.1) / 4 + 1))) := by have := mxU hal201; have h1 := mxU hj6; omega
            clear hal201
            have hln201 : a.1.2.2.2.length + 1 = (a.1.2.2.2 ++ [(z56.1.1, z56.2)]).length := by rw [List.length_append]; rfl
            rw [hln201] at hP hD
            have hPm : List.Perm ((ki, .inr (11, [.ref (alO sb o201), .int (nI (a.1.2.2.2 ++ [(z56.1.1, z56.2)]).length), .int m201])) :: (alC cO o201 ++ (([(q61, .inr (0, [.ref t, .int (nI z56.1.1), .int (nI z56.2)])), (t, .inl (cB, n, .inl (tx u))), (h, .inr (5, [.ref res, .int ie, .ref t, .int (nI z177.1), .int (nI z177.2.1), .int (wI z177.2.2), .int pa, .int a.1.2.1, .int a.1.2.2.1, .ref ki]))] : va_W) ++ (a.2.2.2.2 ++ []))) : va_W) (([(ki, .inr (11, [.ref (alO sb o201), .int (nI (a.1.2.2.2 ++ [(z56.1.1, z56.2)]).length), .int m201])), (t, .inl (cB, n, .inl (tx u))), (h, .inr (5, [.ref res, .int ie, .ref t, .int (nI z177.1), .int (nI z177.2.1), .int (wI z177.2.2), .int pa, .int a.1.2.1, .int a.1.2.2.1, .ref ki]))] : va_W) ++ (alC cO o201 ++ (a.2.2.2.2 ++ (([(q61, .inr (0, [.ref t, .int (nI z56.1.1), .int (nI z56.2)]))] : va_W) ++ [])))) := ((fun (b0 b1 b2 b3 b4 b5 : va_W) => (blk_perm (fun i => ([b0, b1, b2, b3, b4, b5] : List va_W).getD i []) [0, 1, 2, 3, 4, 5] [0, 3, 4, 1, 5, 2] rfl : List.Perm (b0 ++ (b1 ++ (b2 ++ (b3 ++ (b4 ++ (b5 ++ [])))))) (b0 ++ (b3 ++ (b4 ++ (b1 ++ (b5 ++ (b2 ++ [])))))))) ([(ki, .inr (11, [.ref (alO sb o201), .int (nI (a.1.2.2.2 ++ [(z56.1.1, z56.2)]).length), .int m201]))]) (alC cO o201) ([(q61, .inr (0, [.ref t, .int (nI z56.1.1), .int (nI z56.2)]))]) ([(t, .inl (cB, n, .inl (tx u)))]) ([(h, .inr (5, [.ref res, .int ie, .ref t, .int (nI z177.1), .int (nI z177.2.1), .int (wI z177.2.2), .int pa, .int a.1.2.1, .int a.1.2.2.1, .ref ki]))]) (a.2.2.2.2))
            have hP := hP.perm hPm
            have hD := hD.perm hPm
            obtain ⟨pl201, hpl201⟩ : ∃ z : va_W, z = a.2.2.2.2 ++ [(q61, .inr (0, [.ref t, .int (nI z56.1.1), .int (nI z56.2)]))] := ⟨_, rfl⟩
            have hPe : (([(ki, .inr (11, [.ref (alO sb o201), .int (nI (a.1.2.2.2 ++ [(z56.1.1, z56.2)]).length), .int m201])), (t, .inl (cB, n, .inl (tx u))), (h, .inr (5, [.ref res, .int ie, .ref t, .int (nI z177.1), .int (nI z177.2.1), .int (wI z177.2.2), .int pa, .int a.1.2.1, .int a.1.2.2.1, .ref ki]))] : va_W) ++ (alC cO o201 ++ (a.2.2.2.2 ++ (([(q61, .inr (0, [.ref t, .int (nI z56.1.1), .int (nI z56.2)]))] : va_W) ++ [])))) = (([(ki, .inr (11, [.ref (alO sb o201), .int (nI (a.1.2.2.2 ++ [(z56.1.1, z56.2)]).length), .int m201])), (t, .inl (cB, n, .inl (tx u))), (h, .inr (5, [.ref res, .int ie, .ref t, .int (nI z177.1), .int (nI z177.2.1), .int (wI z177.2.2), .int pa, .int a.1.2.1, .int a.1.2.2.1, .ref ki]))] : va_W) ++ (alC cO o201 ++ (pl201 ++ []))) := by
              subst hpl201
              exact ((fun (b0 b1 b2 b3 b4 b5 : va_W) => (by simp only [List.append_assoc] : (b0 ++ (b1 ++ (b2 ++ (b3 ++ (b4 ++ (b5 ++ [])))))) = (b0 ++ (b1 ++ (b2 ++ (b3 ++ ((b4 ++ b5) ++ []))))))) ([(ki, .inr (11, [.ref (alO sb o201), .int (nI (a.1.2.2.2 ++ [(z56.1.1, z56.2)]).length), .int m201]))]) ([(t, .inl (cB, n, .inl (tx u)))]) ([(h, .inr (5, [.ref res, .int ie, .ref t, .int (nI z177.1), .int (nI z177.2.1), .int (wI z177.2.2), .int pa, .int a.1.2.1, .int a.1.2.2.1, .ref ki]))]) (alC cO o201) (a.2.2.2.2) ([(q61, .inr (0, [.ref t, .int (nI z56.1.1), .int (nI z56.2)]))]))
            rw [hPe] at hP hD
            have hm201 : ∀ q ∈ a.2.2.2.2, q ∈ pl201 := fun q hq => by rw [hpl201]; exact List.mem_append_left _ hq
            have E201 : elS t n pl201 o201 (a.1.2.2.2 ++ [(z56.1.1, z56.2)]) := hj3.snoc hm201 hi201 hf201 hv201 (by rw [hpl201]; exact List.mem_append_right _ (List.mem_singleton.mpr rfl)) (by omega) (by omega)
            have hpm := fun q hq => hm201 q (hj4 q hq)
            refine lv_pop hx hb d_Reader_readExtensions_204 rfl ?_
            refine lv_aload_n hx hb d_Reader_readExtensions_205 rfl (lv_at hl 6 rfl) ?_
            refine lv_dup hx hb d_Reader_readExtensions_206 rfl ?_
            refine va_get (v := .int a.1.2.2.1) hx hb htb i_ListReader hown hK hP 2 rfl rfl 8 (by decide) (htb _ q3_81) (fun _ h9 => h9) rfl d_Reader_readExtensions_207 ?_
            refine lv_iconst (v := 1) hx hb d_Reader_readExtensions_210 (by decide) ?_
            refine lv_iadd hx hb d_Reader_readExtensions_211 ?_
            refine va_put (v := .int (a.1.2.2.1 + 1)) (ty := .int) hx hb htb i_ListReader t_ListReader t_ListReader_ok n_ListReader hown hK hP hD hS 2 rfl rfl 8 (by decide) (htb _ q3_81) (fun _ h9 => h9) rfl (by decide +kernel) rfl rfl (Nat.le_of_ble_eq_true rfl) d_Reader_readExtensions_212 (fun H212 locs hP hD hS => ?_)
            change va_P (dC, dI) classes (([(ki, .inr (11, [.ref (alO sb o201), .int (nI (a.1.2.2.2 ++ [(z56.1.1, z56.2)]).length), .int m201])), (t, .inl (cB, n, .inl (tx u))), (h, .inr (5, [.ref res, .int ie, .ref t, .int (nI z177.1), .int (nI z177.2.1), .int (wI z177.2.2), .int pa, .int a.1.2.1, .int (a.1.2.2.1 + 1), .ref ki]))] : va_W) ++ (alC cO o201 ++ (pl201 ++ []))) H212 at hP
            change va_D A (([(ki, .inr (11, [.ref (alO sb o201), .int (nI (a.1.2.2.2 ++ [(z56.1.1, z56.2)]).length), .int m201])), (t, .inl (cB, n, .inl (tx u))), (h, .inr (5, [.ref res, .int ie, .ref t, .int (nI z177.1), .int (nI z177.2.1), .int (wI z177.2.2), .int pa, .int a.1.2.1, .int (a.1.2.2.1 + 1), .ref ki]))] : va_W) ++ (alC cO o201 ++ (pl201 ++ []))) at hD
            refine lv_iinc (v := nI (a.2.1 + 1)) (lv' := [(3, .int (nI (a.2.1 + 1))), (9, .int (nI z120.2)), (8, .int (zP (z93.2.2 = none ∧ z93.1 < z46.2 ∧ u z93.1 = 1))), (7, .ref q61), (6, .int (nI z56.2)), (5, .int (nI z46.2)), (4, .int (nI a.1.1.1)), (0, .ref h), (2, .int (nI z4.2))]) hx hb d_Reader_readExtensions_215 hl (k := 8) rfl (nI_1 _) (by decide) rfl (fun ls hl => ?_)
            refine lv_goto (tgt := 17) hx hb d_Reader_readExtensions_218 (by decide) ?_
            have e9 : rb_extL u n ie z4.2 a.1 = (z177, a.1.2.1, a.1.2.2.1 + 1, (a.1.2.2.2 ++ [(z56.1.1, z56.2)])) := by
              subst hz177
              subst hz142
              subst hz133
              subst hz120
              subst hz113
              subst hz93
              subst hz56
              subst hz46
              exact ((if_pos p107).trans ((if_neg p136).trans ((if_neg p186).trans rfl)))
            have B46 := opn_bd u n a.1.1 48 z4.2
            rw [← hz46] at B46
            have B56 := opn_bd u n z46.1 6 z46.2
            rw [← hz56] at B56
            have B93 := lea_bd z56.1 z56.2 (zP (oidOK u z56.1.1 z56.2)) hc56
            rw [← hz93] at B93
            have B113 := flag_bd u n z93 z46.2
            rw [← hz113] at B113
            have B120 := opn_bd u n z113 4 z46.2
            rw [← hz120] at B120
            have B133 := (knL_bd u n ie (kdN u z56.1.1 z56.2) z120.1 z120.2)
            rw [← hz133] at B133
            have B7 := fin_bd z133.1 z120.2 z120.2
            rw [← hz142] at B7
            have B7' : z142.2.2 = none → z120.2 ≤ z142.1 := fun q => by rw [hz142] at q ⊢; exact (fin_at q).1
            have B8 := fin_bd z142 z46.2 z46.2
            rw [← hz177] at B8
            have hch := ext_chain B46.1 (fun q => (B46.2.2.2.2 q).1) B46.2.2.1 B56.1 (fun q => (B56.2.2.2.2 q).1) B56.2.2.1 B93 (B113) B120.1 B120.2.2.1 B133 B7 B7' B8 (bd.rf z177 z4.2)
            clear B46 B56 B93 B120 B133 B7 B7' B8 B113
            change bd a.1.1 z177 z4.2 ∧ (z177.2.2 = none → a.1.1.1 + 4 ≤ z120.1.1 ∧ z120.2 ≤ z177.1) at hch
            obtain ⟨⟨hq1, hq2, hq3⟩, hq4⟩ := hch
            have hq2 : z177.1 ≤ z4.2 := by omega
            have hlp := loop_go hj2 (by omega) hcond
            rw [e9] at hlp
            refine W.widen (k := (3 * (a.2.1 + 1))) (n := (6 * (a.2.1 + 1) + 4 * (alK o201 - alK o70))) (by omega) (by omega) ?_
            exact ih ((z177, a.1.2.1, a.1.2.2.1 + 1, (a.1.2.2.2 ++ [(z56.1.1, z56.2)])), a.2.1 + 1, o201, m201, pl201) _ _ ls (by show 2048 - (a.2.1 + 1) < 2048 - a.2.1; omega) (⟨hi177, hk2, hlp, E201, hpm, by show alK o70 ≤ alK o201; omega, by have h1 := mxU hj6; have h2 := mxU hk201; show alK o201 ≤ max (alK o70) (10 + 2 * (a.1.2.2.2 ++ [(z56.1.1, z56.2)]).length); omega, by show (a.1.2.2.2 ++ [(z56.1.1, z56.2)]).length = a.2.1 + 1; omega, by show z177.1 ≤ z4.2; omega, by show z4.1.1 ≤ z177.1; omega, fun q => q.elim (fun q => by have := hq4 q; show z4.1.1 + 4 * (a.2.1 + 1) ≤ z177.1; omega) (fun q => absurd q (Nat.succ_ne_zero _)), by show z4.1.1 + 4 * (a.2.1 + 1) ≤ z177.1 + 4; omega⟩) (hP.part [2, 1, 0] rfl) (hD.part [2, 1, 0] (by decide) rfl) hS (lv_sub hl [7, 8, 0] rfl)
          · have p186 : repP u a.1.2.2.2 z56.1.1 z56.2 := (zP_1 c186)
            refine lv_aload_n hx hb d_Reader_readExtensions_189 rfl (lv_at hl 6 rfl) ?_
            refine lv_iload hx hb d_Reader_readExtensions_190 (lv_at hl 5 rfl) ?_
            have hFc := va_free (wc := [(h, .inr (5, [.ref res, .int ie, .ref t, .int (nI z177.1), .int (nI z177.2.1), .int (wI z177.2.2), .int pa, .int a.1.2.1, .int a.1.2.2.1, .ref ki]))]) hD hS hA [3] rfl
            refine va_callv (mu_runU (As := [.int (nI a.1.1.1)]) (rest := []) ⟨hx, hb, hml, hown, hts⟩ (cL_refuse l dC dI sb h res t ki z177.1 z177.2.1 n z177.2.2 pa a.1.2.1 a.1.2.2.1 ie cB u a.1.1.1 H177.size ((hi177).w hn)) (cu_of (n := 1) hts tbin q3_227 q3_229 q3_228 q3_231 q1_15 q3_232 rfl (by decide +kernel) ⟨rfl, rfl⟩ ⟨Nat.le_of_ble_eq_true rfl, Nat.le_of_ble_eq_true rfl⟩) rfl ⟨by omega, by omega⟩ hN (hT0.keep hS hAs) hAs (Nat.le_trans hB0 hS.1) hK hP hD [3] (by decide) rfl [] rfl 3 5 rfl rfl rfl hl.1 rfl (Nat.le_of_ble_eq_true rfl) d_Reader_readExtensions_192) hS (fun q _ h => hFc q h) hFc (fun u192 tS H192 locs ht hvm hw192 hB hz1 hk1 hS => ?_)
            obtain ⟨z192, rfl⟩ : ∃ z, z = u192 := ⟨_, rfl⟩
            obtain ⟨hP1, hK1, hD1⟩ := hB
            rw [ht] at hP1
            obtain ⟨hP, hD⟩ := va_joinQ (X := [(ki, .inr (11, [.ref (alO sb a.2.2.1), .int (nI a.1.2.2.2.length), .int a.2.2.2.1])), (q61, .inr (0, [.ref t, .int (nI z56.1.1), .int (nI z56.2)])), (t, .inl (cB, n, .inl (tx u))), (h, .inr (5, [.ref res, .int ie, .ref t, .int (nI z177.1), .int (nI z177.2.1), .int (wI z177.2.2), .int pa, .int a.1.2.1, .int a.1.2.2.1, .ref ki]))]) (pl := (alC cO a.2.2.1 ++ (a.2.2.2.2 ++ []))) (wr := [(ki, .inr (11, [.ref (alO sb a.2.2.1), .int (nI a.1.2.2.2.length), .int a.2.2.2.1])), (q61, .inr (0, [.ref t, .int (nI z56.1.1), .int (nI z56.2)])), (t, .inl (cB, n, .inl (tx u)))]) (w1 := [(h, .inr (5, [.ref res, .int ie, .ref t, .int (nI z192.1), .int (nI z192.2.1), .int (wI z192.2.2), .int pa, .int a.1.2.1, .int a.1.2.2.1, .ref ki]))]) hP hD [3] [0, 1, 2] rfl rfl (by decide) (by decide) hk1 hFc hP1 hD1
            change va_P (dC, dI) classes (([(ki, .inr (11, [.ref (alO sb a.2.2.1), .int (nI a.1.2.2.2.length), .int a.2.2.2.1])), (q61, .inr (0, [.ref t, .int (nI z56.1.1), .int (nI z56.2)])), (t, .inl (cB, n, .inl (tx u))), (h, .inr (5, [.ref res, .int ie, .ref t, .int (nI z192.1), .int (nI z192.2.1), .int (wI z192.2.2), .int pa, .int a.1.2.1, .int a.1.2.2.1, .ref ki]))] : va_W) ++ (alC cO a.2.2.1 ++ (a.2.2.2.2 ++ []))) H192 at hP
            change va_D A (([(ki, .inr (11, [.ref (alO sb a.2.2.1), .int (nI a.1.2.2.2.length), .int a.2.2.2.1])), (q61, .inr (0, [.ref t, .int (nI z56.1.1), .int (nI z56.2)])), (t, .inl (cB, n, .inl (tx u))), (h, .inr (5, [.ref res, .int ie, .ref t, .int (nI z192.1), .int (nI z192.2.1), .int (wI z192.2.2), .int pa, .int a.1.2.1, .int a.1.2.2.1, .ref ki]))] : va_W) ++ (alC cO a.2.2.1 ++ (a.2.2.2.2 ++ []))) at hD
            have hz192 : z192 = rd_ref z177 a.1.1.1 := hw192
            have hi192 : rdInv n z192 := by rw [hz192]; exact ref_inv hi177 (by have := hi.1; omega)
            have hb192 : z192.1 ≤ n := hi192.1
            refine lv_aload_n hx hb d_Reader_readExtensions_195 rfl (lv_at hl 6 rfl) ?_
            refine va_get (v := .ref ki) hx hb htb i_ListReader hown hK hP 3 rfl rfl 9 (by decide) (htb _ q3_84) (fun _ h9 => h9) rfl d_Reader_readExtensions_196 ?_
            refine lv_aload hx hb d_Reader_readExtensions_199 (lv_at hl 2 rfl) ?_
            have hPm : List.Perm ((([(ki, .inr (11, [.ref (alO sb a.2.2.1), .int (nI a.1.2.2.2.length), .int a.2.2.2.1])), (q61, .inr (0, [.ref t, .int (nI z56.1.1), .int (nI z56.2)])), (t, .inl (cB, n, .inl (tx u))), (h, .inr (5, [.ref res, .int ie, .ref t, .int (nI z192.1), .int (nI z192.2.1), .int (wI z192.2.2), .int pa, .int a.1.2.1, .int a.1.2.2.1, .ref ki]))] : va_W) ++ (alC cO a.2.2.1 ++ (a.2.2.2.2 ++ []))) : va_W) ((ki, .inr (11, [.ref (alO sb a.2.2.1), .int (nI a.1.2.2.2.length), .int a.2.2.2.1])) :: (alC cO a.2.2.1 ++ (([(q61, .inr (0, [.ref t, .int (nI z56.1.1), .int (nI z56.2)])), (t, .inl (cB, n, .inl (tx u))), (h, .inr (5, [.ref res, .int ie, .ref t, .int (nI z192.1), .int (nI z192.2.1), .int (wI z192.2.2), .int pa, .int a.1.2.1, .int a.1.2.2.1, .ref ki]))] : va_W) ++ (a.2.2.2.2 ++ [])))) := ((fun (b0 b1 b2 b3 b4 b5 : va_W) => (blk_perm (fun i => ([b0, b1, b2, b3, b4, b5] : List va_W).getD i []) [0, 1, 2, 3, 4, 5] [0, 4, 1, 2, 3, 5] rfl : List.Perm (b0 ++ (b1 ++ (b2 ++ (b3 ++ (b4 ++ (b5 ++ [])))))) (b0 ++ (b4 ++ (b1 ++ (b2 ++ (b3 ++ (b5 ++ [])))))))) ([(ki, .inr (11, [.ref (alO sb a.2.2.1), .int (nI a.1.2.2.2.length), .int a.2.2.2.1]))]) ([(q61, .inr (0, [.ref t, .int (nI z56.1.1), .int (nI z56.2)]))]) ([(t, .inl (cB, n, .inl (tx u)))]) ([(h, .inr (5, [.ref res, .int ie, .ref t, .int (nI z192.1), .int (nI z192.2.1), .int (wI z192.2.2), .int pa, .int a.1.2.1, .int a.1.2.2.1, .ref ki]))]) (alC cO a.2.2.1) (a.2.2.2.2))
            have hP := hP.perm hPm
            have hD := hD.perm hPm
            have hal201 : mxB (4 * alK a.2.2.1 + alS a.2.2.1 a.1.2.2.2.length) (4 * alK a.2.2.1) (4 * (10 + 2 * a.1.2.2.2.length)) := al_costM hj3.1
            have haz201 := (al_cost hj3.1).2
            refine al_add (own := "TrustChain$Reader") 0 _ q61 ki a.1.2.2.2.length a.2.2.2.1 cO a.2.2.1 rfl qn9_238 ⟨hx, hb, hml, hown, hts⟩ tbin q4_224 hN (hT0.keep hS hAs) hAs (Nat.le_trans hB0 hS.1) hA hK 1 rfl hP hD hS hj3.1 (by omega) (hj3.toF (fun q9 hq9 => List.mem_append_right _ (List.mem_append_left _ hq9))) ⟨0, _, rfl⟩ (Nat.le_of_ble_eq_true rfl) (Nat.le_of_ble_eq_true rfl) (by omega) (by have := mxU hal201; have h1 := mxU hj6; omega) hl.1 (Nat.le_of_ble_eq_true rfl) d_Reader_readExtensions_201 (fun o201 m201 H201 locs hi201 hg201 hk201 he201 hf201 hv201 hP hD hS => ?_)
            change mxB (alK o201) (alK a.2.2.1) (10 + 2 * a.1.2.2.2.length) at hk201
            have hsa201 : (6 * a.2.1 + 4 * (alK a.2.2.1 - alK o70)) + 6 + alS a.2.2.1 a.1.2.2.2.length ≤ (6 * ((en - x.1) / 4 + 1) + 4 * (10 + 2 * ((en - x.1) / 4 + 1))) := by have := mxU hal201; have h1 := mxU hj6; omega
            clear hal201
            have hln201 : a.1.2.2.2.length + 1 = (a.1.2.2.2 ++ [(z56.1.1, z56.2)]).length := by rw [List.length_append]; rfl
            rw [hln201] at hP hD
            have hPm : List.Perm ((ki, .inr (11, [.ref (alO sb o201), .int (nI (a.1.2.2.2 ++ [(z56.1.1, z56.2)]).length), .int m201])) :: (alC cO o201 ++ (([(q61, .inr (0, [.ref t, .int (nI z56.1.1), .int (nI z56.2)])), (t, .inl (cB, n, .inl (tx u))), (h, .inr (5, [.ref res, .int ie, .ref t, .int (nI z192.1), .int (nI z192.2.1), .int (wI z192.2.2), .int pa, .int a.1.2.1, .int a.1.2.2.1, .ref ki]))] : va_W) ++ (a.2.2.2.2 ++ []))) : va_W) (([(ki, .inr (11, [.ref (alO sb o201), .int (nI (a.1.2.2.2 ++ [(z56.1.1, z56.2)]).length), .int m201])), (t, .inl (cB, n, .inl (tx u))), (h, .inr (5, [.ref res, .int ie, .ref t, .int (nI z192.1), .int (nI z192.2.1), .int (wI z192.2.2), .int pa, .int a.1.2.1, .int a.1.2.2.1, .ref ki]))] : va_W) ++ (alC cO o201 ++ (a.2.2.2.2 ++ (([(q61, .inr (0, [.ref t, .int (nI z56.1.1), .int (nI z56.2)]))] : va_W) ++ [])))) := ((fun (b0 b1 b2 b3 b4 b5 : va_W) => (blk_perm (fun i => ([b0, b1, b2, b3, b4, b5] : List va_W).getD i []) [0, 1, 2, 3, 4, 5] [0, 3, 4, 1, 5, 2] rfl : List.Perm (b0 ++ (b1 ++ (b2 ++ (b3 ++ (b4 ++ (b5 ++ [])))))) (b0 ++ (b3 ++ (b4 ++ (b1 ++ (b5 ++ (b2 ++ [])))))))) ([(ki, .inr (11, [.ref (alO sb o201), .int (nI (a.1.2.2.2 ++ [(z56.1.1, z56.2)]).length), .int m201]))]) (alC cO o201) ([(q61, .inr (0, [.ref t, .int (nI z56.1.1), .int (nI z56.2)]))]) ([(t, .inl (cB, n, .inl (tx u)))]) ([(h, .inr (5, [.ref res, .int ie, .ref t, .int (nI z192.1), .int (nI z192.2.1), .int (wI z192.2.2), .int pa, .int a.1.2.1, .int a.1.2.2.1, .ref ki]))]) (a.2.2.2.2))
            have hP := hP.perm hPm
            have hD := hD.perm hPm
            obtain ⟨pl201, hpl201⟩ : ∃ z : va_W, z = a.2.2.2.2 ++ [(q61, .inr (0, [.ref t, .int (nI z56.1.1), .int (nI z56.2)]))] := ⟨_, rfl⟩
            have hPe : (([(ki, .inr (11, [.ref (alO sb o201), .int (nI (a.1.2.2.2 ++ [(z56.1.1, z56.2)]).length), .int m201])), (t, .inl (cB, n, .inl (tx u))), (h, .inr (5, [.ref res, .int ie, .ref t, .int (nI z192.1), .int (nI z192.2.1), .int (wI z192.2.2), .int pa, .int a.1.2.1, .int a.1.2.2.1, .ref ki]))] : va_W) ++ (alC cO o201 ++ (a.2.2.2.2 ++ (([(q61, .inr (0, [.ref t, .int (nI z56.1.1), .int (nI z56.2)]))] : va_W) ++ [])))) = (([(ki, .inr (11, [.ref (alO sb o201), .int (nI (a.1.2.2.2 ++ [(z56.1.1, z56.2)]).length), .int m201])), (t, .inl (cB, n, .inl (tx u))), (h, .inr (5, [.ref res, .int ie, .ref t, .int (nI z192.1), .int (nI z192.2.1), .int (wI z192.2.2), .int pa, .int a.1.2.1, .int a.1.2.2.1, .ref ki]))] : va_W) ++ (alC cO o201 ++ (pl201 ++ []))) := by
              subst hpl201
              exact ((fun (b0 b1 b2 b3 b4 b5 : va_W) => (by simp only [List.append_assoc] : (b0 ++ (b1 ++ (b2 ++ (b3 ++ (b4 ++ (b5 ++ [])))))) = (b0 ++ (b1 ++ (b2 ++ (b3 ++ ((b4 ++ b5) ++ []))))))) ([(ki, .inr (11, [.ref (alO sb o201), .int (nI (a.1.2.2.2 ++ [(z56.1.1, z56.2)]).length), .int m201]))]) ([(t, .inl (cB, n, .inl (tx u)))]) ([(h, .inr (5, [.ref res, .int ie, .ref t, .int (nI z192.1), .int (nI z192.2.1), .int (wI z192.2.2), .int pa, .int a.1.2.1, .int a.1.2.2.1, .ref ki]))]) (alC cO o201) (a.2.2.2.2) ([(q61, .inr (0, [.ref t, .int (nI z56.1.1), .int (nI z56.2)]))]))
            rw [hPe] at hP hD
            have hm201 : ∀ q ∈ a.2.2.2.2, q ∈ pl201 := fun q hq => by rw [hpl201]; exact List.mem_append_left _ hq
            have E201 : elS t n pl201 o201 (a.1.2.2.2 ++ [(z56.1.1, z56.2)]) := hj3.snoc hm201 hi201 hf201 hv201 (by rw [hpl201]; exact List.mem_append_right _ (List.mem_singleton.mpr rfl)) (by omega) (by omega)
            have hpm := fun q hq => hm201 q (hj4 q hq)
            refine lv_pop hx hb d_Reader_readExtensions_204 rfl ?_
            refine lv_aload_n hx hb d_Reader_readExtensions_205 rfl (lv_at hl 6 rfl) ?_
            refine lv_dup hx hb d_Reader_readExtensions_206 rfl ?_
            refine va_get (v := .int a.1.2.2.1) hx hb htb i_ListReader hown hK hP 2 rfl rfl 8 (by decide) (htb _ q3_81) (fun _ h9 => h9) rfl d_Reader_readExtensions_207 ?_
            refine lv_iconst (v := 1) hx hb d_Reader_readExtensions_210 (by decide) ?_
            refine lv_iadd hx hb d_Reader_readExtensions_211 ?_
            refine va_put (v := .int (a.1.2.2.1 + 1)) (ty := .int) hx hb htb i_ListReader t_ListReader t_ListReader_ok n_ListReader hown hK hP hD hS 2 rfl rfl 8 (by decide) (htb _ q3_81) (fun _ h9 => h9) rfl (by decide +kernel) rfl rfl (Nat.le_of_ble_eq_true rfl) d_Reader_readExtensions_212 (fun H212 locs hP hD hS => ?_)
            change va_P (dC, dI) classes (([(ki, .inr (11, [.ref (alO sb o201), .int (nI (a.1.2.2.2 ++ [(z56.1.1, z56.2)]).length), .int m201])), (t, .inl (cB, n, .inl (tx u))), (h, .inr (5, [.ref res, .int ie, .ref t, .int (nI z192.1), .int (nI z192.2.1), .int (wI z192.2.2), .int pa, .int a.1.2.1, .int (a.1.2.2.1 + 1), .ref ki]))] : va_W) ++ (alC cO o201 ++ (pl201 ++ []))) H212 at hP
            change va_D A (([(ki, .inr (11, [.ref (alO sb o201), .int (nI (a.1.2.2.2 ++ [(z56.1.1, z56.2)]).length), .int m201])), (t, .inl (cB, n, .inl (tx u))), (h, .inr (5, [.ref res, .int ie, .ref t, .int (nI z192.1), .int (nI z192.2.1), .int (wI z192.2.2), .int pa, .int a.1.2.1, .int (a.1.2.2.1 + 1), .ref ki]))] : va_W) ++ (alC cO o201 ++ (pl201 ++ []))) at hD
            refine lv_iinc (v := nI (a.2.1 + 1)) (lv' := [(3, .int (nI (a.2.1 + 1))), (9, .int (nI z120.2)), (8, .int (zP (z93.2.2 = none ∧ z93.1 < z46.2 ∧ u z93.1 = 1))), (7, .ref q61), (6, .int (nI z56.2)), (5, .int (nI z46.2)), (4, .int (nI a.1.1.1)), (0, .ref h), (2, .int (nI z4.2))]) hx hb d_Reader_readExtensions_215 hl (k := 8) rfl (nI_1 _) (by decide) rfl (fun ls hl => ?_)
            refine lv_goto (tgt := 17) hx hb d_Reader_readExtensions_218 (by decide) ?_
            have e9 : rb_extL u n ie z4.2 a.1 = (z192, a.1.2.1, a.1.2.2.1 + 1, (a.1.2.2.2 ++ [(z56.1.1, z56.2)])) := by
              subst hz192
              subst hz177
              subst hz142
              subst hz133
              subst hz120
              subst hz113
              subst hz93
              subst hz56
              subst hz46
              exact ((if_pos p107).trans ((if_neg p136).trans ((if_pos p186).trans rfl)))
            have B46 := opn_bd u n a.1.1 48 z4.2
            rw [← hz46] at B46
            have B56 := opn_bd u n z46.1 6 z46.2
            rw [← hz56] at B56
            have B93 := lea_bd z56.1 z56.2 (zP (oidOK u z56.1.1 z56.2)) hc56
            rw [← hz93] at B93
            have B113 := flag_bd u n z93 z46.2
            rw [← hz113] at B113
            have B120 := opn_bd u n z113 4 z46.2
            rw [← hz120] at B120
            have B133 := (knL_bd u n ie (kdN u z56.1.1 z56.2) z120.1 z120.2)
            rw [← hz133] at B133
            have B7 := fin_bd z133.1 z120.2 z120.2
            rw [← hz142] at B7
            have B7' : z142.2.2 = none → z120.2 ≤ z142.1 := fun q => by rw [hz142] at q ⊢; exact (fin_at q).1
            have B8 := fin_bd z142 z46.2 z46.2
            rw [← hz177] at B8
            have B9 := ref_bd z177 a.1.1.1 z4.2
            rw [← hz192] at B9
            have hch := ext_chain B46.1 (fun q => (B46.2.2.2.2 q).1) B46.2.2.1 B56.1 (fun q => (B56.2.2.2.2 q).1) B56.2.2.1 B93 (B113) B120.1 B120.2.2.1 B133 B7 B7' B8 (B9)
            clear B46 B56 B93 B120 B133 B7 B7' B8 B113 B9
            change bd a.1.1 z192 z4.2 ∧ (z192.2.2 = none → a.1.1.1 + 4 ≤ z120.1.1 ∧ z120.2 ≤ z192.1) at hch
            obtain ⟨⟨hq1, hq2, hq3⟩, hq4⟩ := hch
            have hq2 : z192.1 ≤ z4.2 := by omega
            have hlp := loop_go hj2 (by omega) hcond
            rw [e9] at hlp
            refine W.widen (k := (3 * (a.2.1 + 1))) (n := (6 * (a.2.1 + 1) + 4 * (alK o201 - alK o70))) (by omega) (by omega) ?_
            exact ih ((z192, a.1.2.1, a.1.2.2.1 + 1, (a.1.2.2.2 ++ [(z56.1.1, z56.2)])), a.2.1 + 1, o201, m201, pl201) _ _ ls (by show 2048 - (a.2.1 + 1) < 2048 - a.2.1; omega) (⟨hi192, hk2, hlp, E201, hpm, by show alK o70 ≤ alK o201; omega, by have h1 := mxU hj6; have h2 := mxU hk201; show alK o201 ≤ max (alK o70) (10 + 2 * (a.1.2.2.2 ++ [(z56.1.1, z56.2)]).length); omega, by show (a.1.2.2.2 ++ [(z56.1.1, z56.2)]).length = a.2.1 + 1; omega, by show z192.1 ≤ z4.2; omega, by show z4.1.1 ≤ z192.1; omega, fun q => q.elim (fun q => by have := hq4 q; show z4.1.1 + 4 * (a.2.1 + 1) ≤ z192.1; omega) (fun q => absurd q (Nat.succ_ne_zero _)), by show z4.1.1 + 4 * (a.2.1 + 1) ≤ z192.1 + 4; omega⟩) (hP.part [2, 1, 0] rfl) (hD.part [2, 1, 0] (by decide) rfl) hS (lv_sub hl [7, 8, 0] rfl)
    · skip
      refine lv_iload_n hx hb d_Reader_readExtensions_24 rfl (lv_at hl 2 rfl) ?_
      refine lv_if_eq (tgt := 36) hx hb d_Reader_readExtensions_25 (by decide) (fun c25 => ?_) (fun c25 => ?_)
      · have p25 : a.2.1 = 0 := ((nI_eq (a := a.2.1) (b := 0) (by omega) (by omega)).mp c25)
        exact k36 ls (Or.inl (by rw [p25]; rfl)) (lv_sub hl [0, 1, 2] rfl)
      · have p25 : ¬ (a.2.1 = 0) := (fun q9 => c25 ((nI_eq (a := a.2.1) (b := 0) (by omega) (by omega)).mpr q9))
        refine lv_aload_n hx hb d_Reader_readExtensions_28 rfl (lv_at hl 0 rfl) ?_
        refine lv_iload_n hx hb d_Reader_readExtensions_29 rfl (lv_at hl 1 rfl) ?_
        refine vp_callSi (pu_callU (As := [.int (nI z4.2)]) (rest := []) ⟨hx, hb, hml, hown, hts⟩ (cL_more l dC dI sb h res t ki a.1.1.1 a.1.1.2.1 n a.1.1.2.2 pa a.1.2.1 a.1.2.2.1 ie cB u z4.2 ((hj0).w hn) (by have := (hj0).1; omega) (by omega)) (cu_of (n := 1) hts tbin q3_196 q3_198 q3_197 q3_200 q1_15 q3_201 rfl (by decide +kernel) ⟨rfl, rfl⟩ ⟨Nat.le_of_ble_eq_true rfl, Nat.le_of_ble_eq_true rfl⟩) rfl ⟨by omega, by omega⟩ hN (hT0.keep hS hAs) hK hP [0] rfl [] rfl 0 5 rfl rfl rfl hl.1 rfl (Nat.le_of_ble_eq_true rfl) d_Reader_readExtensions_30) (fun r30 hr30 => ?_)
        obtain rfl := bz_zP hr30
        refine lv_if_eq (tgt := 221) hx hb d_Reader_readExtensions_33 (by decide) (fun c33 => ?_) (fun c33 => ?_)
        · have p33 : ¬ (a.1.1.2.2 = none ∧ a.1.1.1 < z4.2) := (zP_0.mp c33)
          have hT9 : a.1 = rd_extL u n ie x en ma ex  := by
              have h7 := loop_at hj2 (by omega) (fun h9 => h9.elim (fun h8 => p25 (eq_of_beq h8)) (fun h8 => p33 h8))
              subst hN9
              subst hz4
              exact h7
          refine W.widen (k := (3 * ((en - x.1) / 4 + 1))) (n := (6 * ((en - x.1) / 4 + 1) + 4 * (10 + 2 * ((en - x.1) / 4 + 1)))) (by omega) (by omega) ?_
          exact W.vret hx hb hr (fun t ht hW => ⟨⟨(a.1, a.2.2), rfl, ⟨hT9, hj0, hj3, hj4⟩, by rw [ht]; exact hP, va_K.moved hW.alike hK, hD⟩, hS.F ht⟩) hS.2.2 d_Reader_readExtensions_221
        · have p33 : a.1.1.2.2 = none ∧ a.1.1.1 < z4.2 := (zP_1 c33)
          exact k36 ls (Or.inr ⟨p33.1, p33.2⟩) (lv_sub hl [0, 1, 2] rfl)
