/-! The law: what call 12 does. -/
set_option maxHeartbeats 4000000 in
set_option maxRecDepth 100000 in
theorem lw_case12 {p : Program} {e : Env} {s : State} {m : MethodId} {below : List Frame} {meth : Method} {c : Code} (l : Launch) (hl0 : l.stackTraces = false) {b L : Nat} {xs : Nat → Int32} {dC : Nat → ClassId} {dI : Nat → Nat → Nat} {γ : cG} {gT : ClassId} {sb : sB} {A : Nat → Prop} (X : lwX p s m c b L xs dC dI γ gT sb A) {Q : State → Prop} {H : Heap} {locs : List Loc} {ls : Array Slot} {cells slots q0 ou mo i : Nat} {GC GR : va_W} (hi : i + 10 ≤ L) (hJ : LJ γ sb gT q0 ou mo i cells slots GC GR) (hP : va_P (dC, dI) classes (GC ++ GR) H) (hD : va_D A (GC ++ GR)) (hS : va_S A s.heap H locs) (hl : lv_has ls 8 [(4, .int (nI i)), (3, .ref ou), (2, .ref mo), (1, .ref q0), (0, .ref b)]) (kk : ∀ (GC' GR' : va_W) (H' : Heap) (locs' : List Loc) (ls' : Array Slot) (cells' slots' : Nat), LJ γ sb gT q0 ou mo (i + 10) cells' slots' GC' GR' → va_P (dC, dI) classes (GC' ++ GR') H' → va_D A (GC' ++ GR') → va_S A s.heap H' locs' → lv_has ls' 8 [(4, .int (nI i)), (3, .ref ou), (2, .ref mo), (1, .ref q0), (0, .ref b)] → W p l e room_1 s m #[Value.ref b] below meth c H' locs' cells' slots' Q (F0 m 933 ls' [])) : W p l e room_1 s m #[Value.ref b] below meth c H locs cells slots Q (F0 m 721 ls []) := by
  obtain ⟨hx, hb, hml, hown, hts, hK, hN, hT, hTh, hB0, hA, hAs, hX, hbl, hbA, hL5⟩ := X
  have tbin : ∀ w ∈ tb, w ∈ tb := fun w h => h
  have htb : ∀ w ∈ tb, w.before #[Value.ref b] s = true := hts
  obtain ⟨fu, fd, wr, nc, nl, vc, vl, cc, cl, vs, ov, xc, xl, wx, er, hC, hR, hNm, hRl⟩ := hJ
  obtain ⟨hb1, hb2, hb3, hu8, hw8, fs8, hmo⟩ := hR.nb
  obtain ⟨hrc, hrs⟩ := hNm.room hi hL5
  obtain ⟨x1, hx1⟩ : ∃ x9, xs ((nI i + 1 : Int32).toNatClampNeg) = x9 := ⟨_, rfl⟩
  obtain ⟨x2, hx2⟩ : ∃ x9, xs ((nI i + 2 : Int32).toNatClampNeg) = x9 := ⟨_, rfl⟩
  obtain ⟨x3, hx3⟩ : ∃ x9, xs ((nI i + 3 : Int32).toNatClampNeg) = x9 := ⟨_, rfl⟩
  obtain ⟨x4, hx4⟩ : ∃ x9, xs ((nI i + 4 : Int32).toNatClampNeg) = x9 := ⟨_, rfl⟩
  obtain ⟨x5, hx5⟩ : ∃ x9, xs ((nI i + 5 : Int32).toNatClampNeg) = x9 := ⟨_, rfl⟩
  obtain ⟨x6, hx6⟩ : ∃ x9, xs ((nI i + 6 : Int32).toNatClampNeg) = x9 := ⟨_, rfl⟩
  obtain ⟨x7, hx7⟩ : ∃ x9, xs ((nI i + 7 : Int32).toNatClampNeg) = x9 := ⟨_, rfl⟩
  obtain ⟨x8, hx8⟩ : ∃ x9, xs ((nI i + 8 : Int32).toNatClampNeg) = x9 := ⟨_, rfl⟩
  obtain ⟨x9, hx9⟩ : ∃ x9, xs ((nI i + 9 : Int32).toNatClampNeg) = x9 := ⟨_, rfl⟩
  refine lv_aload_n hx hb d_law_721 rfl (lv_at hl 3 rfl) ?_
  refine lv_aload_n hx hb d_law_722 rfl (lv_at hl 4 rfl) ?_
  refine lv_iload hx hb d_law_723 (lv_at hl 0 rfl) ?_
  refine lv_iconst (v := 1) hx hb d_law_725 (by decide) ?_
  refine lv_iadd hx hb d_law_726 ?_
  refine va_sld (i := (nI i) + 1) hx hb hX hbl hbA hS (vi_in 1 (by omega) hL5) d_law_727 ?_
  rw [hx1]
  refine lv_aload_n hx hb d_law_728 rfl (lv_at hl 4 rfl) ?_
  refine lv_iload hx hb d_law_729 (lv_at hl 0 rfl) ?_
  refine lv_iconst (v := 2) hx hb d_law_731 (by decide) ?_
  refine lv_iadd hx hb d_law_732 ?_
  refine va_sld (i := (nI i) + 2) hx hb hX hbl hbA hS (vi_in 2 (by omega) hL5) d_law_733 ?_
  rw [hx2]
  refine lv_i2l (v := x2.toInt64) hx hb d_law_734 rfl ?_
  refine lv_bipush (v := 32) hx hb d_law_735 (by decide) ?_
  refine lv_lshl (v := x2.toInt64 <<< ((32 : Int32).toInt64 &&& 63)) hx hb d_law_737 rfl ?_
  refine lv_aload_n hx hb d_law_738 rfl (lv_at hl 4 rfl) ?_
  refine lv_iload hx hb d_law_739 (lv_at hl 0 rfl) ?_
  refine lv_iconst (v := 3) hx hb d_law_741 (by decide) ?_
  refine lv_iadd hx hb d_law_742 ?_
  refine va_sld (i := (nI i) + 3) hx hb hX hbl hbA hS (vi_in 3 (by omega) hL5) d_law_743 ?_
  rw [hx3]
  refine lv_i2l (v := x3.toInt64) hx hb d_law_744 rfl ?_
  refine lv_ldc2 (v := 4294967295) hx hb hown (htb _ q9_190) d_law_745 ?_
  refine lv_land hx hb d_law_748 ?_
  refine lv_lor hx hb d_law_749 ?_
  refine lv_aload_n hx hb d_law_750 rfl (lv_at hl 4 rfl) ?_
  refine lv_iload hx hb d_law_751 (lv_at hl 0 rfl) ?_
  refine lv_iconst (v := 4) hx hb d_law_753 (by decide) ?_
  refine lv_iadd hx hb d_law_754 ?_
  refine va_sld (i := (nI i) + 4) hx hb hX hbl hbA hS (vi_in 4 (by omega) hL5) d_law_755 ?_
  rw [hx4]
  refine lv_i2l (v := x4.toInt64) hx hb d_law_756 rfl ?_
  refine lv_bipush (v := 32) hx hb d_law_757 (by decide) ?_
  refine lv_lshl (v := x4.toInt64 <<< ((32 : Int32).toInt64 &&& 63)) hx hb d_law_759 rfl ?_
  refine lv_aload_n hx hb d_law_760 rfl (lv_at hl 4 rfl) ?_
  refine lv_iload hx hb d_law_761 (lv_at hl 0 rfl) ?_
  refine lv_iconst (v := 5) hx hb d_law_763 (by decide) ?_
  refine lv_iadd hx hb d_law_764 ?_
  refine va_sld (i := (nI i) + 5) hx hb hX hbl hbA hS (vi_in 5 (by omega) hL5) d_law_765 ?_
  rw [hx5]
  refine lv_i2l (v := x5.toInt64) hx hb d_law_766 rfl ?_
  refine lv_ldc2 (v := 4294967295) hx hb hown (htb _ q9_190) d_law_767 ?_
  refine lv_land hx hb d_law_770 ?_
  refine lv_lor hx hb d_law_771 ?_
  refine lv_aload_n hx hb d_law_772 rfl (lv_at hl 4 rfl) ?_
  refine lv_iload hx hb d_law_773 (lv_at hl 0 rfl) ?_
  refine lv_bipush (v := 6) hx hb d_law_775 (by decide) ?_
  refine lv_iadd hx hb d_law_777 ?_
  refine va_sld (i := (nI i) + 6) hx hb hX hbl hbA hS (vi_in 6 (by omega) hL5) d_law_778 ?_
  rw [hx6]
  refine lv_i2l (v := x6.toInt64) hx hb d_law_779 rfl ?_
  refine lv_bipush (v := 32) hx hb d_law_780 (by decide) ?_
  refine lv_lshl (v := x6.toInt64 <<< ((32 : Int32).toInt64 &&& 63)) hx hb d_law_782 rfl ?_
  refine lv_aload_n hx hb d_law_783 rfl (lv_at hl 4 rfl) ?_
  refine lv_iload hx hb d_law_784 (lv_at hl 0 rfl) ?_
  refine lv_bipush (v := 7) hx hb d_law_786 (by decide) ?_
  refine lv_iadd hx hb d_law_788 ?_
  refine va_sld (i := (nI i) + 7) hx hb hX hbl hbA hS (vi_in 7 (by omega) hL5) d_law_789 ?_
  rw [hx7]
  refine lv_i2l (v := x7.toInt64) hx hb d_law_790 rfl ?_
  refine lv_ldc2 (v := 4294967295) hx hb hown (htb _ q9_190) d_law_791 ?_
  refine lv_land hx hb d_law_794 ?_
  refine lv_lor hx hb d_law_795 ?_
  refine lv_aload_n hx hb d_law_796 rfl (lv_at hl 4 rfl) ?_
  refine lv_iload hx hb d_law_797 (lv_at hl 0 rfl) ?_
  refine lv_bipush (v := 8) hx hb d_law_799 (by decide) ?_
  refine lv_iadd hx hb d_law_801 ?_
  refine va_sld (i := (nI i) + 8) hx hb hX hbl hbA hS (vi_in 8 (by omega) hL5) d_law_802 ?_
  rw [hx8]
  refine lv_i2l (v := x8.toInt64) hx hb d_law_803 rfl ?_
  refine lv_bipush (v := 32) hx hb d_law_804 (by decide) ?_
  refine lv_lshl (v := x8.toInt64 <<< ((32 : Int32).toInt64 &&& 63)) hx hb d_law_806 rfl ?_
  refine lv_aload_n hx hb d_law_807 rfl (lv_at hl 4 rfl) ?_
  refine lv_iload hx hb d_law_808 (lv_at hl 0 rfl) ?_
  refine lv_bipush (v := 9) hx hb d_law_810 (by decide) ?_
  refine lv_iadd hx hb d_law_812 ?_
  refine va_sld (i := (nI i) + 9) hx hb hX hbl hbA hS (vi_in 9 (by omega) hL5) d_law_813 ?_
  rw [hx9]
  refine lv_i2l (v := x9.toInt64) hx hb d_law_814 rfl ?_
  refine lv_ldc2 (v := 4294967295) hx hb hown (htb _ q9_190) d_law_815 ?_
  refine lv_land hx hb d_law_818 ?_
  refine lv_lor hx hb d_law_819 ?_
  refine lv_aload_n hx hb d_law_820 rfl (lv_at hl 1 rfl) ?_
  refine lc_call (As := [.ref q0, .int x1, .long ((x2.toInt64 <<< ((32 : Int32).toInt64 &&& 63)) ||| (x3.toInt64 &&& 4294967295)), .long ((x4.toInt64 <<< ((32 : Int32).toInt64 &&& 63)) ||| (x5.toInt64 &&& 4294967295)), .long ((x6.toInt64 <<< ((32 : Int32).toInt64 &&& 63)) ||| (x7.toInt64 &&& 4294967295)), .long ((x8.toInt64 <<< ((32 : Int32).toInt64 &&& 63)) ||| (x9.toInt64 &&& 4294967295)), .ref ou]) (rest := []) (G := GC) (R9 := GR) ⟨hx, hb, hml, hown, hts⟩ tbin (ci_covers l hl0 dC dI sb γ q0 ou fu fd wr nc nl vc vl cc cl vs ov GC x1 ((x2.toInt64 <<< ((32 : Int32).toInt64 &&& 63)) ||| (x3.toInt64 &&& 4294967295)) ((x4.toInt64 <<< ((32 : Int32).toInt64 &&& 63)) ||| (x5.toInt64 &&& 4294967295)) ((x6.toInt64 <<< ((32 : Int32).toInt64 &&& 63)) ||| (x7.toInt64 &&& 4294967295)) ((x8.toInt64 <<< ((32 : Int32).toInt64 &&& 63)) ||| (x9.toInt64 &&& 4294967295)) H.size hC ) q6_144 q6_145 q1_0 q6_146 (n := 7) (by decide +kernel) rfl ⟨Nat.le_of_ble_eq_true rfl, Nat.le_of_ble_eq_true rfl⟩ ⟨(by show cells + 1 ≤ 601024; omega), (by show slots + 6 ≤ 7293034; omega)⟩ hTh hN hT hAs hB0 hK hA hP hD hS [0, 1, 2, 3] rfl hl.1 rfl (Nat.le_of_ble_eq_true rfl) d_law_821 (fun r1 G1 H1 locs hw1 hP hD hS => ?_)
  change W _ _ _ _ _ _ _ _ _ _ _ _ (cells + 1) (slots + 6) _ _
  obtain ⟨hP, hD⟩ := two_swap hP hD
  obtain ⟨ov1, hC1⟩ := hw1
  refine lv_istore (lv' := [(5, .int r1), (4, .int (nI i)), (3, .ref ou), (2, .ref mo), (1, .ref q0), (0, .ref b)]) hx hb d_law_824 hl (by decide) rfl (fun ls hl => ?_)
  refine lv_aload_n hx hb d_law_826 rfl (lv_at hl 3 rfl) ?_
  refine lv_aload_n hx hb d_law_827 rfl (lv_at hl 5 rfl) ?_
  refine lv_iload hx hb d_law_828 (lv_at hl 1 rfl) ?_
  refine lv_iconst (v := 1) hx hb d_law_830 (by decide) ?_
  refine lv_iadd hx hb d_law_831 ?_
  refine va_sld (i := (nI i) + 1) hx hb hX hbl hbA hS (vi_in 1 (by omega) hL5) d_law_832 ?_
  rw [hx1]
  refine lv_aload_n hx hb d_law_833 rfl (lv_at hl 5 rfl) ?_
  refine lv_iload hx hb d_law_834 (lv_at hl 1 rfl) ?_
  refine lv_iconst (v := 2) hx hb d_law_836 (by decide) ?_
  refine lv_iadd hx hb d_law_837 ?_
  refine va_sld (i := (nI i) + 2) hx hb hX hbl hbA hS (vi_in 2 (by omega) hL5) d_law_838 ?_
  rw [hx2]
  refine lv_i2l (v := x2.toInt64) hx hb d_law_839 rfl ?_
  refine lv_bipush (v := 32) hx hb d_law_840 (by decide) ?_
  refine lv_lshl (v := x2.toInt64 <<< ((32 : Int32).toInt64 &&& 63)) hx hb d_law_842 rfl ?_
  refine lv_aload_n hx hb d_law_843 rfl (lv_at hl 5 rfl) ?_
  refine lv_iload hx hb d_law_844 (lv_at hl 1 rfl) ?_
  refine lv_iconst (v := 3) hx hb d_law_846 (by decide) ?_
  refine lv_iadd hx hb d_law_847 ?_
  refine va_sld (i := (nI i) + 3) hx hb hX hbl hbA hS (vi_in 3 (by omega) hL5) d_law_848 ?_
  rw [hx3]
  refine lv_i2l (v := x3.toInt64) hx hb d_law_849 rfl ?_
  refine lv_ldc2 (v := 4294967295) hx hb hown (htb _ q9_190) d_law_850 ?_
  refine lv_land hx hb d_law_853 ?_
  refine lv_lor hx hb d_law_854 ?_
  refine lv_aload_n hx hb d_law_855 rfl (lv_at hl 5 rfl) ?_
  refine lv_iload hx hb d_law_856 (lv_at hl 1 rfl) ?_
  refine lv_iconst (v := 4) hx hb d_law_858 (by decide) ?_
  refine lv_iadd hx hb d_law_859 ?_
  refine va_sld (i := (nI i) + 4) hx hb hX hbl hbA hS (vi_in 4 (by omega) hL5) d_law_860 ?_
  rw [hx4]
  refine lv_i2l (v := x4.toInt64) hx hb d_law_861 rfl ?_
  refine lv_bipush (v := 32) hx hb d_law_862 (by decide) ?_
  refine lv_lshl (v := x4.toInt64 <<< ((32 : Int32).toInt64 &&& 63)) hx hb d_law_864 rfl ?_
  refine lv_aload_n hx hb d_law_865 rfl (lv_at hl 5 rfl) ?_
  refine lv_iload hx hb d_law_866 (lv_at hl 1 rfl) ?_
  refine lv_iconst (v := 5) hx hb d_law_868 (by decide) ?_
  refine lv_iadd hx hb d_law_869 ?_
  refine va_sld (i := (nI i) + 5) hx hb hX hbl hbA hS (vi_in 5 (by omega) hL5) d_law_870 ?_
  rw [hx5]
  refine lv_i2l (v := x5.toInt64) hx hb d_law_871 rfl ?_
  refine lv_ldc2 (v := 4294967295) hx hb hown (htb _ q9_190) d_law_872 ?_
  refine lv_land hx hb d_law_875 ?_
  refine lv_lor hx hb d_law_876 ?_
  refine lv_aload_n hx hb d_law_877 rfl (lv_at hl 5 rfl) ?_
  refine lv_iload hx hb d_law_878 (lv_at hl 1 rfl) ?_
  refine lv_bipush (v := 6) hx hb d_law_880 (by decide) ?_
  refine lv_iadd hx hb d_law_882 ?_
  refine va_sld (i := (nI i) + 6) hx hb hX hbl hbA hS (vi_in 6 (by omega) hL5) d_law_883 ?_
  rw [hx6]
  refine lv_i2l (v := x6.toInt64) hx hb d_law_884 rfl ?_
  refine lv_bipush (v := 32) hx hb d_law_885 (by decide) ?_
  refine lv_lshl (v := x6.toInt64 <<< ((32 : Int32).toInt64 &&& 63)) hx hb d_law_887 rfl ?_
  refine lv_aload_n hx hb d_law_888 rfl (lv_at hl 5 rfl) ?_
  refine lv_iload hx hb d_law_889 (lv_at hl 1 rfl) ?_
  refine lv_bipush (v := 7) hx hb d_law_891 (by decide) ?_
  refine lv_iadd hx hb d_law_893 ?_
  refine va_sld (i := (nI i) + 7) hx hb hX hbl hbA hS (vi_in 7 (by omega) hL5) d_law_894 ?_
  rw [hx7]
  refine lv_i2l (v := x7.toInt64) hx hb d_law_895 rfl ?_
  refine lv_ldc2 (v := 4294967295) hx hb hown (htb _ q9_190) d_law_896 ?_
  refine lv_land hx hb d_law_899 ?_
  refine lv_lor hx hb d_law_900 ?_
  refine lv_aload_n hx hb d_law_901 rfl (lv_at hl 5 rfl) ?_
  refine lv_iload hx hb d_law_902 (lv_at hl 1 rfl) ?_
  refine lv_bipush (v := 8) hx hb d_law_904 (by decide) ?_
  refine lv_iadd hx hb d_law_906 ?_
  refine va_sld (i := (nI i) + 8) hx hb hX hbl hbA hS (vi_in 8 (by omega) hL5) d_law_907 ?_
  rw [hx8]
  refine lv_i2l (v := x8.toInt64) hx hb d_law_908 rfl ?_
  refine lv_bipush (v := 32) hx hb d_law_909 (by decide) ?_
  refine lv_lshl (v := x8.toInt64 <<< ((32 : Int32).toInt64 &&& 63)) hx hb d_law_911 rfl ?_
  refine lv_aload_n hx hb d_law_912 rfl (lv_at hl 5 rfl) ?_
  refine lv_iload hx hb d_law_913 (lv_at hl 1 rfl) ?_
  refine lv_bipush (v := 9) hx hb d_law_915 (by decide) ?_
  refine lv_iadd hx hb d_law_917 ?_
  refine va_sld (i := (nI i) + 9) hx hb hX hbl hbA hS (vi_in 9 (by omega) hL5) d_law_918 ?_
  rw [hx9]
  refine lv_i2l (v := x9.toInt64) hx hb d_law_919 rfl ?_
  refine lv_ldc2 (v := 4294967295) hx hb hown (htb _ q9_190) d_law_920 ?_
  refine lv_land hx hb d_law_923 ?_
  refine lv_lor hx hb d_law_924 ?_
  refine rc_calli (As := [.int x1, .long ((x2.toInt64 <<< ((32 : Int32).toInt64 &&& 63)) ||| (x3.toInt64 &&& 4294967295)), .long ((x4.toInt64 <<< ((32 : Int32).toInt64 &&& 63)) ||| (x5.toInt64 &&& 4294967295)), .long ((x6.toInt64 <<< ((32 : Int32).toInt64 &&& 63)) ||| (x7.toInt64 &&& 4294967295)), .long ((x8.toInt64 <<< ((32 : Int32).toInt64 &&& 63)) ||| (x9.toInt64 &&& 4294967295))]) (rest := []) (G := GR) (R9 := G1) ⟨hx, hb, hml, hown, hts⟩ tbin (ri_covers l dC dI sb γ gT mo fu fd wr nc nl xc xl wx vs er GR x1 ((x2.toInt64 <<< ((32 : Int32).toInt64 &&& 63)) ||| (x3.toInt64 &&& 4294967295)) ((x4.toInt64 <<< ((32 : Int32).toInt64 &&& 63)) ||| (x5.toInt64 &&& 4294967295)) ((x6.toInt64 <<< ((32 : Int32).toInt64 &&& 63)) ||| (x7.toInt64 &&& 4294967295)) ((x8.toInt64 <<< ((32 : Int32).toInt64 &&& 63)) ||| (x9.toInt64 &&& 4294967295)) H1.size hR ) q9_182 q9_183 q9_184 q1_9 q9_185 (n := 5) (by decide +kernel) rfl ⟨Nat.le_of_ble_eq_true rfl, Nat.le_of_ble_eq_true rfl⟩ ⟨(by show cells + 1 + 0 ≤ 601024; omega), (by show slots + 6 + 0 ≤ 7293034; omega)⟩ hN hT hAs hB0 hK hA hP hD hS [0, 1, 2, 3, 4] rfl hmo rfl rfl hl.1 rfl (Nat.le_of_ble_eq_true rfl) d_law_925 (fun r2 G2 H2 locs hw2 hP hD hS => ?_)
  change W _ _ _ _ _ _ _ _ _ _ _ _ (cells + 1 + 0) (slots + 6 + 0) _ _
  obtain ⟨hP, hD⟩ := two_swap hP hD
  obtain ⟨er2, hR2⟩ := hw2
  refine lv_istore (lv' := [(6, .int r2), (5, .int r1), (4, .int (nI i)), (3, .ref ou), (2, .ref mo), (1, .ref q0), (0, .ref b)]) hx hb d_law_928 hl (by decide) rfl (fun ls hl => ?_)
  refine lv_goto (tgt := 933) hx hb d_law_930 (by decide) ?_
  exact kk G1 G2 _ _ ls _ _ ⟨fu, fd, wr, nc, nl, _, _, _, _, _, _, _, _, _, _, hC1, hR2, hNm.next (by omega) (by omega), hRl⟩ hP hD hS (lv_sub hl [2, 3, 4, 5, 6] rfl)
