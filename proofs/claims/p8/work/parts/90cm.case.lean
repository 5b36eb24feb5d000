/-! The law: what call 12 does. -/
set_option maxHeartbeats 4000000 in
set_option maxRecDepth 100000 in
theorem lw_case12 {p : Program} {e : Env} {s : State} {m : MethodId} {below : List Frame} {meth : Method} {c : Code} (l : Launch) (hl0 : l.stackTraces = false) {b L : Nat} {xs : Nat → Int32} {dC : Nat → ClassId} {dI : Nat → Nat → Nat} {γ : cG} {gT : ClassId} {sb : sB} {A : Nat → Prop} (X : lwX p s m c b L xs dC dI γ gT sb A) {Q : State → Prop} {H : Heap} {locs : List Loc} {ls : Array Slot} {cells slots q0 ou mo i : Nat} {GC GR : va_W} (hi : i + 10 ≤ L) (hJ : LJ γ sb gT q0 ou mo i cells slots GC GR) (hP : va_P (dC, dI) classes (GC ++ GR) H) (hD : va_D A (GC ++ GR)) (hS : va_S A s.heap H locs) (hl : lv_has ls 8 [(4, .int (nI i)), (3, .ref ou), (2, .ref mo), (1, .ref q0), (0, .ref b)]) (kk : ∀ (GC' GR' : va_W) (H' : Heap) (locs' : List Loc) (ls' : Array Slot) (cells' slots' : Nat), LJ γ sb gT q0 ou mo (i + 10) cells' slots' GC' GR' → va_P (dC, dI) classes (GC' ++ GR') H' → va_D A (GC' ++ GR') → va_S A s.heap H' locs' → lv_has ls' 8 [(4, .int (nI i)), (3, .ref ou), (2, .ref mo), (1, .ref q0), (0, .ref b)] → W p l e room_1 s m #[Value.ref b] below meth c H' locs' cells' slots' Q (F0 m 932 ls' [])) : W p l e room_1 s m #[Value.ref b] below meth c H locs cells slots Q (F0 m 720 ls []) := by
  obtain ⟨hx, hb, hml, hown, hts, hK, hN, hT, hTh, hB0, hA, hAs, hX, hbl, hbA, hL5⟩ := X
  have tbin : ∀ w ∈ tb, w ∈ tb := fun w h => h
  have htb : ∀ w ∈ tb, w.before #[Value.ref b] s = true := hts
  obtain ⟨fu, fd, wr, nc, nl, vc, vl, ov, xc, xl, wx, er, hC, hR, hNm, hRl⟩ := hJ
  obtain ⟨hb1, hb2, hb3, hu8, hw8, fs8, hmo⟩ := hR.nb
  obtain ⟨hrc, hrs⟩ := hNm.room hi hL5
  obtain ⟨x1, hx1⟩ : ∃ x9, xs ((nI i + 1 : Int32).toNatClampNeg) = x9 := ⟨_, rfl⟩
  obtain ⟨x2, hx2⟩ : ∃ x9, xs ((nI i + 2 : Int32).toNatClampNeg) = x9 := ⟨_, rfl⟩
  obtain ⟨x3, hx3⟩ : ∃ x9, xs ((nI i + 3 : Int32).toNatClampNeg) = x9 := ⟨_, rfl⟩
  obtain ⟨x4, hx4⟩ : ∃ x9, xs ((nI i + 4 : Int32).toNatClampNeg) = x9 := ⟨_, rfl⟩
  obtain ⟨x5, hx5⟩ : ∃ x9, xs ((nI i + 5 : Int32).toNatClampNeg) = x9 := ⟨_, rfl⟩
  obtain ⟨x6, hx6⟩ : ∃ x9, xs ((nI i + 6 : Int32).toNatClampNeg) = x9 := ⟨_, rfl⟩
  obtain ⟨x7, hx7⟩ : ∃ x9, xs ((nI i + 7 : Int32).toNatClampNeg) = x9 := ⟨_, rfl⟩
  obtain ⟨x8, hx8⟩ : ∃ x9, xs ((nI i + 8 : Int32).toNatClampNeg) = x9 := ⟨_, rfl⟩
  obtain ⟨x9, hx9⟩ : ∃ x9, xs ((nI i + 9 : Int32).toNatClampNeg) = x9 := ⟨_, rfl⟩
  refine lv_aload_n hx hb d_law_720 rfl (lv_at hl 3 rfl) ?_
  refine lv_aload_n hx hb d_law_721 rfl (lv_at hl 4 rfl) ?_
  refine lv_iload hx hb d_law_722 (lv_at hl 0 rfl) ?_
  refine lv_iconst (v := 1) hx hb d_law_724 (by decide) ?_
  refine lv_iadd hx hb d_law_725 ?_
  refine va_sld (i := (nI i) + 1) hx hb hX hbl hbA hS (vi_in 1 (by omega) hL5) d_law_726 ?_
  rw [hx1]
  refine lv_aload_n hx hb d_law_727 rfl (lv_at hl 4 rfl) ?_
  refine lv_iload hx hb d_law_728 (lv_at hl 0 rfl) ?_
  refine lv_iconst (v := 2) hx hb d_law_730 (by decide) ?_
  refine lv_iadd hx hb d_law_731 ?_
  refine va_sld (i := (nI i) + 2) hx hb hX hbl hbA hS (vi_in 2 (by omega) hL5) d_law_732 ?_
  rw [hx2]
  refine lv_i2l (v := x2.toInt64) hx hb d_law_733 rfl ?_
  refine lv_bipush (v := 32) hx hb d_law_734 (by decide) ?_
  refine lv_lshl (v := x2.toInt64 <<< ((32 : Int32).toInt64 &&& 63)) hx hb d_law_736 rfl ?_
  refine lv_aload_n hx hb d_law_737 rfl (lv_at hl 4 rfl) ?_
  refine lv_iload hx hb d_law_738 (lv_at hl 0 rfl) ?_
  refine lv_iconst (v := 3) hx hb d_law_740 (by decide) ?_
  refine lv_iadd hx hb d_law_741 ?_
  refine va_sld (i := (nI i) + 3) hx hb hX hbl hbA hS (vi_in 3 (by omega) hL5) d_law_742 ?_
  rw [hx3]
  refine lv_i2l (v := x3.toInt64) hx hb d_law_743 rfl ?_
  refine lv_ldc2 (v := 4294967295) hx hb hown (htb _ q9_190) d_law_744 ?_
  refine lv_land hx hb d_law_747 ?_
  refine lv_lor hx hb d_law_748 ?_
  refine lv_aload_n hx hb d_law_749 rfl (lv_at hl 4 rfl) ?_
  refine lv_iload hx hb d_law_750 (lv_at hl 0 rfl) ?_
  refine lv_iconst (v := 4) hx hb d_law_752 (by decide) ?_
  refine lv_iadd hx hb d_law_753 ?_
  refine va_sld (i := (nI i) + 4) hx hb hX hbl hbA hS (vi_in 4 (by omega) hL5) d_law_754 ?_
  rw [hx4]
  refine lv_i2l (v := x4.toInt64) hx hb d_law_755 rfl ?_
  refine lv_bipush (v := 32) hx hb d_law_756 (by decide) ?_
  refine lv_lshl (v := x4.toInt64 <<< ((32 : Int32).toInt64 &&& 63)) hx hb d_law_758 rfl ?_
  refine lv_aload_n hx hb d_law_759 rfl (lv_at hl 4 rfl) ?_
  refine lv_iload hx hb d_law_760 (lv_at hl 0 rfl) ?_
  refine lv_iconst (v := 5) hx hb d_law_762 (by decide) ?_
  refine lv_iadd hx hb d_law_763 ?_
  refine va_sld (i := (nI i) + 5) hx hb hX hbl hbA hS (vi_in 5 (by omega) hL5) d_law_764 ?_
  rw [hx5]
  refine lv_i2l (v := x5.toInt64) hx hb d_law_765 rfl ?_
  refine lv_ldc2 (v := 4294967295) hx hb hown (htb _ q9_190) d_law_766 ?_
  refine lv_land hx hb d_law_769 ?_
  refine lv_lor hx hb d_law_770 ?_
  refine lv_aload_n hx hb d_law_771 rfl (lv_at hl 4 rfl) ?_
  refine lv_iload hx hb d_law_772 (lv_at hl 0 rfl) ?_
  refine lv_bipush (v := 6) hx hb d_law_774 (by decide) ?_
  refine lv_iadd hx hb d_law_776 ?_
  refine va_sld (i := (nI i) + 6) hx hb hX hbl hbA hS (vi_in 6 (by omega) hL5) d_law_777 ?_
  rw [hx6]
  refine lv_i2l (v := x6.toInt64) hx hb d_law_778 rfl ?_
  refine lv_bipush (v := 32) hx hb d_law_779 (by decide) ?_
  refine lv_lshl (v := x6.toInt64 <<< ((32 : Int32).toInt64 &&& 63)) hx hb d_law_781 rfl ?_
  refine lv_aload_n hx hb d_law_782 rfl (lv_at hl 4 rfl) ?_
  refine lv_iload hx hb d_law_783 (lv_at hl 0 rfl) ?_
  refine lv_bipush (v := 7) hx hb d_law_785 (by decide) ?_
  refine lv_iadd hx hb d_law_787 ?_
  refine va_sld (i := (nI i) + 7) hx hb hX hbl hbA hS (vi_in 7 (by omega) hL5) d_law_788 ?_
  rw [hx7]
  refine lv_i2l (v := x7.toInt64) hx hb d_law_789 rfl ?_
  refine lv_ldc2 (v := 4294967295) hx hb hown (htb _ q9_190) d_law_790 ?_
  refine lv_land hx hb d_law_793 ?_
  refine lv_lor hx hb d_law_794 ?_
  refine lv_aload_n hx hb d_law_795 rfl (lv_at hl 4 rfl) ?_
  refine lv_iload hx hb d_law_796 (lv_at hl 0 rfl) ?_
  refine lv_bipush (v := 8) hx hb d_law_798 (by decide) ?_
  refine lv_iadd hx hb d_law_800 ?_
  refine va_sld (i := (nI i) + 8) hx hb hX hbl hbA hS (vi_in 8 (by omega) hL5) d_law_801 ?_
  rw [hx8]
  refine lv_i2l (v := x8.toInt64) hx hb d_law_802 rfl ?_
  refine lv_bipush (v := 32) hx hb d_law_803 (by decide) ?_
  refine lv_lshl (v := x8.toInt64 <<< ((32 : Int32).toInt64 &&& 63)) hx hb d_law_805 rfl ?_
  refine lv_aload_n hx hb d_law_806 rfl (lv_at hl 4 rfl) ?_
  refine lv_iload hx hb d_law_807 (lv_at hl 0 rfl) ?_
  refine lv_bipush (v := 9) hx hb d_law_809 (by decide) ?_
  refine lv_iadd hx hb d_law_811 ?_
  refine va_sld (i := (nI i) + 9) hx hb hX hbl hbA hS (vi_in 9 (by omega) hL5) d_law_812 ?_
  rw [hx9]
  refine lv_i2l (v := x9.toInt64) hx hb d_law_813 rfl ?_
  refine lv_ldc2 (v := 4294967295) hx hb hown (htb _ q9_190) d_law_814 ?_
  refine lv_land hx hb d_law_817 ?_
  refine lv_lor hx hb d_law_818 ?_
  refine lv_aload_n hx hb d_law_819 rfl (lv_at hl 1 rfl) ?_
  refine lc_call (As := [.ref q0, .int x1, .long ((x2.toInt64 <<< ((32 : Int32).toInt64 &&& 63)) ||| (x3.toInt64 &&& 4294967295)), .long ((x4.toInt64 <<< ((32 : Int32).toInt64 &&& 63)) ||| (x5.toInt64 &&& 4294967295)), .long ((x6.toInt64 <<< ((32 : Int32).toInt64 &&& 63)) ||| (x7.toInt64 &&& 4294967295)), .long ((x8.toInt64 <<< ((32 : Int32).toInt64 &&& 63)) ||| (x9.toInt64 &&& 4294967295)), .ref ou]) (rest := []) (G := GC) (R9 := GR) ⟨hx, hb, hml, hown, hts⟩ tbin (ci_covers l hl0 dC dI sb γ q0 ou fu fd wr nc nl vc vl ov GC x1 ((x2.toInt64 <<< ((32 : Int32).toInt64 &&& 63)) ||| (x3.toInt64 &&& 4294967295)) ((x4.toInt64 <<< ((32 : Int32).toInt64 &&& 63)) ||| (x5.toInt64 &&& 4294967295)) ((x6.toInt64 <<< ((32 : Int32).toInt64 &&& 63)) ||| (x7.toInt64 &&& 4294967295)) ((x8.toInt64 <<< ((32 : Int32).toInt64 &&& 63)) ||| (x9.toInt64 &&& 4294967295)) H.size hC ) q6_144 q6_145 q1_0 q6_146 (n := 7) (by decide +kernel) rfl ⟨Nat.le_of_ble_eq_true rfl, Nat.le_of_ble_eq_true rfl⟩ ⟨(by show cells + 1 ≤ 601024; omega), (by show slots + 6 ≤ 7293034; omega)⟩ hTh hN hT hAs hB0 hK hA hP hD hS [0, 1, 2, 3] rfl hl.1 rfl (Nat.le_of_ble_eq_true rfl) d_law_820 (fun r1 G1 H1 locs hw1 hP hD hS => ?_)
  change W _ _ _ _ _ _ _ _ _ _ _ _ (cells + 1) (slots + 6) _ _
  obtain ⟨hP, hD⟩ := two_swap hP hD
  obtain ⟨ov1, hC1⟩ := hw1
  refine lv_istore (lv' := [(5, .int r1), (4, .int (nI i)), (3, .ref ou), (2, .ref mo), (1, .ref q0), (0, .ref b)]) hx hb d_law_823 hl (by decide) rfl (fun ls hl => ?_)
  refine lv_aload_n hx hb d_law_825 rfl (lv_at hl 3 rfl) ?_
  refine lv_aload_n hx hb d_law_826 rfl (lv_at hl 5 rfl) ?_
  refine lv_iload hx hb d_law_827 (lv_at hl 1 rfl) ?_
  refine lv_iconst (v := 1) hx hb d_law_829 (by decide) ?_
  refine lv_iadd hx hb d_law_830 ?_
  refine va_sld (i := (nI i) + 1) hx hb hX hbl hbA hS (vi_in 1 (by omega) hL5) d_law_831 ?_
  rw [hx1]
  refine lv_aload_n hx hb d_law_832 rfl (lv_at hl 5 rfl) ?_
  refine lv_iload hx hb d_law_833 (lv_at hl 1 rfl) ?_
  refine lv_iconst (v := 2) hx hb d_law_835 (by decide) ?_
  refine lv_iadd hx hb d_law_836 ?_
  refine va_sld (i := (nI i) + 2) hx hb hX hbl hbA hS (vi_in 2 (by omega) hL5) d_law_837 ?_
  rw [hx2]
  refine lv_i2l (v := x2.toInt64) hx hb d_law_838 rfl ?_
  refine lv_bipush (v := 32) hx hb d_law_839 (by decide) ?_
  refine lv_lshl (v := x2.toInt64 <<< ((32 : Int32).toInt64 &&& 63)) hx hb d_law_841 rfl ?_
  refine lv_aload_n hx hb d_law_842 rfl (lv_at hl 5 rfl) ?_
  refine lv_iload hx hb d_law_843 (lv_at hl 1 rfl) ?_
  refine lv_iconst (v := 3) hx hb d_law_845 (by decide) ?_
  refine lv_iadd hx hb d_law_846 ?_
  refine va_sld (i := (nI i) + 3) hx hb hX hbl hbA hS (vi_in 3 (by omega) hL5) d_law_847 ?_
  rw [hx3]
  refine lv_i2l (v := x3.toInt64) hx hb d_law_848 rfl ?_
  refine lv_ldc2 (v := 4294967295) hx hb hown (htb _ q9_190) d_law_849 ?_
  refine lv_land hx hb d_law_852 ?_
  refine lv_lor hx hb d_law_853 ?_
  refine lv_aload_n hx hb d_law_854 rfl (lv_at hl 5 rfl) ?_
  refine lv_iload hx hb d_law_855 (lv_at hl 1 rfl) ?_
  refine lv_iconst (v := 4) hx hb d_law_857 (by decide) ?_
  refine lv_iadd hx hb d_law_858 ?_
  refine va_sld (i := (nI i) + 4) hx hb hX hbl hbA hS (vi_in 4 (by omega) hL5) d_law_859 ?_
  rw [hx4]
  refine lv_i2l (v := x4.toInt64) hx hb d_law_860 rfl ?_
  refine lv_bipush (v := 32) hx hb d_law_861 (by decide) ?_
  refine lv_lshl (v := x4.toInt64 <<< ((32 : Int32).toInt64 &&& 63)) hx hb d_law_863 rfl ?_
  refine lv_aload_n hx hb d_law_864 rfl (lv_at hl 5 rfl) ?_
  refine lv_iload hx hb d_law_865 (lv_at hl 1 rfl) ?_
  refine lv_iconst (v := 5) hx hb d_law_867 (by decide) ?_
  refine lv_iadd hx hb d_law_868 ?_
  refine va_sld (i := (nI i) + 5) hx hb hX hbl hbA hS (vi_in 5 (by omega) hL5) d_law_869 ?_
  rw [hx5]
  refine lv_i2l (v := x5.toInt64) hx hb d_law_870 rfl ?_
  refine lv_ldc2 (v := 4294967295) hx hb hown (htb _ q9_190) d_law_871 ?_
  refine lv_land hx hb d_law_874 ?_
  refine lv_lor hx hb d_law_875 ?_
  refine lv_aload_n hx hb d_law_876 rfl (lv_at hl 5 rfl) ?_
  refine lv_iload hx hb d_law_877 (lv_at hl 1 rfl) ?_
  refine lv_bipush (v := 6) hx hb d_law_879 (by decide) ?_
  refine lv_iadd hx hb d_law_881 ?_
  refine va_sld (i := (nI i) + 6) hx hb hX hbl hbA hS (vi_in 6 (by omega) hL5) d_law_882 ?_
  rw [hx6]
  refine lv_i2l (v := x6.toInt64) hx hb d_law_883 rfl ?_
  refine lv_bipush (v := 32) hx hb d_law_884 (by decide) ?_
  refine lv_lshl (v := x6.toInt64 <<< ((32 : Int32).toInt64 &&& 63)) hx hb d_law_886 rfl ?_
  refine lv_aload_n hx hb d_law_887 rfl (lv_at hl 5 rfl) ?_
  refine lv_iload hx hb d_law_888 (lv_at hl 1 rfl) ?_
  refine lv_bipush (v := 7) hx hb d_law_890 (by decide) ?_
  refine lv_iadd hx hb d_law_892 ?_
  refine va_sld (i := (nI i) + 7) hx hb hX hbl hbA hS (vi_in 7 (by omega) hL5) d_law_893 ?_
  rw [hx7]
  refine lv_i2l (v := x7.toInt64) hx hb d_law_894 rfl ?_
  refine lv_ldc2 (v := 4294967295) hx hb hown (htb _ q9_190) d_law_895 ?_
  refine lv_land hx hb d_law_898 ?_
  refine lv_lor hx hb d_law_899 ?_
  refine lv_aload_n hx hb d_law_900 rfl (lv_at hl 5 rfl) ?_
  refine lv_iload hx hb d_law_901 (lv_at hl 1 rfl) ?_
  refine lv_bipush (v := 8) hx hb d_law_903 (by decide) ?_
  refine lv_iadd hx hb d_law_905 ?_
  refine va_sld (i := (nI i) + 8) hx hb hX hbl hbA hS (vi_in 8 (by omega) hL5) d_law_906 ?_
  rw [hx8]
  refine lv_i2l (v := x8.toInt64) hx hb d_law_907 rfl ?_
  refine lv_bipush (v := 32) hx hb d_law_908 (by decide) ?_
  refine lv_lshl (v := x8.toInt64 <<< ((32 : Int32).toInt64 &&& 63)) hx hb d_law_910 rfl ?_
  refine lv_aload_n hx hb d_law_911 rfl (lv_at hl 5 rfl) ?_
  refine lv_iload hx hb d_law_912 (lv_at hl 1 rfl) ?_
  refine lv_bipush (v := 9) hx hb d_law_914 (by decide) ?_
  refine lv_iadd hx hb d_law_916 ?_
  refine va_sld (i := (nI i) + 9) hx hb hX hbl hbA hS (vi_in 9 (by omega) hL5) d_law_917 ?_
  rw [hx9]
  refine lv_i2l (v := x9.toInt64) hx hb d_law_918 rfl ?_
  refine lv_ldc2 (v := 4294967295) hx hb hown (htb _ q9_190) d_law_919 ?_
  refine lv_land hx hb d_law_922 ?_
  refine lv_lor hx hb d_law_923 ?_
  refine rc_calli (As := [.int x1, .long ((x2.toInt64 <<< ((32 : Int32).toInt64 &&& 63)) ||| (x3.toInt64 &&& 4294967295)), .long ((x4.toInt64 <<< ((32 : Int32).toInt64 &&& 63)) ||| (x5.toInt64 &&& 4294967295)), .long ((x6.toInt64 <<< ((32 : Int32).toInt64 &&& 63)) ||| (x7.toInt64 &&& 4294967295)), .long ((x8.toInt64 <<< ((32 : Int32).toInt64 &&& 63)) ||| (x9.toInt64 &&& 4294967295))]) (rest := []) (G := GR) (R9 := G1) ⟨hx, hb, hml, hown, hts⟩ tbin (ri_covers l dC dI sb γ gT mo fu fd wr nc nl xc xl wx er GR x1 ((x2.toInt64 <<< ((32 : Int32).toInt64 &&& 63)) ||| (x3.toInt64 &&& 4294967295)) ((x4.toInt64 <<< ((32 : Int32).toInt64 &&& 63)) ||| (x5.toInt64 &&& 4294967295)) ((x6.toInt64 <<< ((32 : Int32).toInt64 &&& 63)) ||| (x7.toInt64 &&& 4294967295)) ((x8.toInt64 <<< ((32 : Int32).toInt64 &&& 63)) ||| (x9.toInt64 &&& 4294967295)) H1.size hR ) q9_182 q9_183 q9_184 q1_9 q9_185 (n := 5) (by decide +kernel) rfl ⟨Nat.le_of_ble_eq_true rfl, Nat.le_of_ble_eq_true rfl⟩ ⟨(by show cells + 1 + 0 ≤ 601024; omega), (by show slots + 6 + 0 ≤ 7293034; omega)⟩ hN hT hAs hB0 hK hA hP hD hS [0, 1, 2, 3, 4] rfl hmo rfl rfl hl.1 rfl (Nat.le_of_ble_eq_true rfl) d_law_924 (fun r2 G2 H2 locs hw2 hP hD hS => ?_)
  change W _ _ _ _ _ _ _ _ _ _ _ _ (cells + 1 + 0) (slots + 6 + 0) _ _
  obtain ⟨hP, hD⟩ := two_swap hP hD
  obtain ⟨er2, hR2⟩ := hw2
  refine lv_istore (lv' := [(6, .int r2), (5, .int r1), (4, .int (nI i)), (3, .ref ou), (2, .ref mo), (1, .ref q0), (0, .ref b)]) hx hb d_law_927 hl (by decide) rfl (fun ls hl => ?_)
  refine lv_goto (tgt := 932) hx hb d_law_929 (by decide) ?_
  exact kk G1 G2 _ _ ls _ _ ⟨fu, fd, wr, nc, nl, _, _, _, _, _, _, _, hC1, hR2, hNm.next (by omega) (by omega), hRl⟩ hP hD hS (lv_sub hl [2, 3, 4, 5, 6] rfl)
