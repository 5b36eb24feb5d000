/-! The reference's arithmetic returns. -/
def y_Model_trim : MethodName := ⟨"TrustChainModel", "trim", "([II)I"⟩
abbrev b_Model_trim : ByteArray := prog_14_method_6_code
def w_Model_trim : List Cond := Cond.code y_Model_trim b_Model_trim 3 ((some FieldType.int)) :: tb
theorem d_Model_trim_0 : decode b_Model_trim 0 = .ok (.iload_n 1, 1) := by decide +kernel
theorem d_Model_trim_1 : decode b_Model_trim 1 = .ok (.istore_n 2, 1) := by decide +kernel
theorem d_Model_trim_2 : decode b_Model_trim 2 = .ok (.iload_n 2, 1) := by decide +kernel
theorem d_Model_trim_3 : decode b_Model_trim 3 = .ok (.ifCond .le 17, 3) := by decide +kernel
theorem d_Model_trim_6 : decode b_Model_trim 6 = .ok (.aload_n 0, 1) := by decide +kernel
theorem d_Model_trim_7 : decode b_Model_trim 7 = .ok (.iload_n 2, 1) := by decide +kernel
theorem d_Model_trim_8 : decode b_Model_trim 8 = .ok (.iconst 1, 1) := by decide +kernel
theorem d_Model_trim_9 : decode b_Model_trim 9 = .ok (.isub, 1) := by decide +kernel
theorem d_Model_trim_10 : decode b_Model_trim 10 = .ok (.iaload, 1) := by decide +kernel
theorem d_Model_trim_11 : decode b_Model_trim 11 = .ok (.ifCond .ne 9, 3) := by decide +kernel
theorem d_Model_trim_14 : decode b_Model_trim 14 = .ok (.iinc 2 (-1), 3) := by decide +kernel
theorem d_Model_trim_17 : decode b_Model_trim 17 = .ok (.goto (-15), 3) := by decide +kernel
theorem d_Model_trim_20 : decode b_Model_trim 20 = .ok (.iload_n 2, 1) := by decide +kernel
theorem d_Model_trim_21 : decode b_Model_trim 21 = .ok (.ireturn, 1) := by decide +kernel
def y_Model_compared : MethodName := ⟨"TrustChainModel", "compared", "([II[II)I"⟩
abbrev b_Model_compared : ByteArray := prog_14_method_3_code
def w_Model_compared : List Cond := Cond.code y_Model_compared b_Model_compared 5 ((some FieldType.int)) :: tb
theorem d_Model_compared_0 : decode b_Model_compared 0 = .ok (.iload_n 1, 1) := by decide +kernel
theorem d_Model_compared_1 : decode b_Model_compared 1 = .ok (.iload_n 3, 1) := by decide +kernel
theorem d_Model_compared_2 : decode b_Model_compared 2 = .ok (.if_icmp .eq 14, 3) := by decide +kernel
theorem d_Model_compared_5 : decode b_Model_compared 5 = .ok (.iload_n 1, 1) := by decide +kernel
theorem d_Model_compared_6 : decode b_Model_compared 6 = .ok (.iload_n 3, 1) := by decide +kernel
theorem d_Model_compared_7 : decode b_Model_compared 7 = .ok (.if_icmp .ge 7, 3) := by decide +kernel
theorem d_Model_compared_10 : decode b_Model_compared 10 = .ok (.iconst (-1), 1) := by decide +kernel
theorem d_Model_compared_11 : decode b_Model_compared 11 = .ok (.goto 4, 3) := by decide +kernel
theorem d_Model_compared_14 : decode b_Model_compared 14 = .ok (.iconst 1, 1) := by decide +kernel
theorem d_Model_compared_15 : decode b_Model_compared 15 = .ok (.ireturn, 1) := by decide +kernel
theorem d_Model_compared_16 : decode b_Model_compared 16 = .ok (.iload_n 1, 1) := by decide +kernel
theorem d_Model_compared_17 : decode b_Model_compared 17 = .ok (.iconst 1, 1) := by decide +kernel
theorem d_Model_compared_18 : decode b_Model_compared 18 = .ok (.isub, 1) := by decide +kernel
theorem d_Model_compared_19 : decode b_Model_compared 19 = .ok (.istore 4, 2) := by decide +kernel
theorem d_Model_compared_21 : decode b_Model_compared 21 = .ok (.iload 4, 2) := by decide +kernel
theorem d_Model_compared_23 : decode b_Model_compared 23 = .ok (.ifCond .lt 37, 3) := by decide +kernel
theorem d_Model_compared_26 : decode b_Model_compared 26 = .ok (.aload_n 0, 1) := by decide +kernel
theorem d_Model_compared_27 : decode b_Model_compared 27 = .ok (.iload 4, 2) := by decide +kernel
theorem d_Model_compared_29 : decode b_Model_compared 29 = .ok (.iaload, 1) := by decide +kernel
theorem d_Model_compared_30 : decode b_Model_compared 30 = .ok (.aload_n 2, 1) := by decide +kernel
theorem d_Model_compared_31 : decode b_Model_compared 31 = .ok (.iload 4, 2) := by decide +kernel
theorem d_Model_compared_33 : decode b_Model_compared 33 = .ok (.iaload, 1) := by decide +kernel
theorem d_Model_compared_34 : decode b_Model_compared 34 = .ok (.if_icmp .eq 20, 3) := by decide +kernel
theorem d_Model_compared_37 : decode b_Model_compared 37 = .ok (.aload_n 0, 1) := by decide +kernel
theorem d_Model_compared_38 : decode b_Model_compared 38 = .ok (.iload 4, 2) := by decide +kernel
theorem d_Model_compared_40 : decode b_Model_compared 40 = .ok (.iaload, 1) := by decide +kernel
theorem d_Model_compared_41 : decode b_Model_compared 41 = .ok (.aload_n 2, 1) := by decide +kernel
theorem d_Model_compared_42 : decode b_Model_compared 42 = .ok (.iload 4, 2) := by decide +kernel
theorem d_Model_compared_44 : decode b_Model_compared 44 = .ok (.iaload, 1) := by decide +kernel
theorem d_Model_compared_45 : decode b_Model_compared 45 = .ok (.if_icmp .ge 7, 3) := by decide +kernel
theorem d_Model_compared_48 : decode b_Model_compared 48 = .ok (.iconst (-1), 1) := by decide +kernel
theorem d_Model_compared_49 : decode b_Model_compared 49 = .ok (.goto 4, 3) := by decide +kernel
theorem d_Model_compared_52 : decode b_Model_compared 52 = .ok (.iconst 1, 1) := by decide +kernel
theorem d_Model_compared_53 : decode b_Model_compared 53 = .ok (.ireturn, 1) := by decide +kernel
theorem d_Model_compared_54 : decode b_Model_compared 54 = .ok (.iinc 4 (-1), 3) := by decide +kernel
theorem d_Model_compared_57 : decode b_Model_compared 57 = .ok (.goto (-36), 3) := by decide +kernel
theorem d_Model_compared_60 : decode b_Model_compared 60 = .ok (.iconst 0, 1) := by decide +kernel
theorem d_Model_compared_61 : decode b_Model_compared 61 = .ok (.ireturn, 1) := by decide +kernel
theorem jD_dec' (k : Nat) : nI k - 1 = jD k := by
  rw [Int32.sub_eq_add_neg]
  exact jD_dec k
def y_Model_times : MethodName := ⟨"TrustChainModel", "times", "([II[II[I)I"⟩
abbrev b_Model_times : ByteArray := prog_14_method_7_code
def w_Model_times : List Cond := Cond.code y_Model_times b_Model_times 9 ((some FieldType.int)) :: tb
theorem d_Model_times_0 : decode b_Model_times 0 = .ok (.iconst 0, 1) := by decide +kernel
theorem d_Model_times_1 : decode b_Model_times 1 = .ok (.istore 5, 2) := by decide +kernel
theorem d_Model_times_3 : decode b_Model_times 3 = .ok (.iload 5, 2) := by decide +kernel
theorem d_Model_times_5 : decode b_Model_times 5 = .ok (.iload_n 1, 1) := by decide +kernel
theorem d_Model_times_6 : decode b_Model_times 6 = .ok (.iload_n 3, 1) := by decide +kernel
theorem d_Model_times_7 : decode b_Model_times 7 = .ok (.iadd, 1) := by decide +kernel
theorem d_Model_times_8 : decode b_Model_times 8 = .ok (.if_icmp .ge 15, 3) := by decide +kernel
theorem d_Model_times_11 : decode b_Model_times 11 = .ok (.aload 4, 2) := by decide +kernel
theorem d_Model_times_13 : decode b_Model_times 13 = .ok (.iload 5, 2) := by decide +kernel
theorem d_Model_times_15 : decode b_Model_times 15 = .ok (.iconst 0, 1) := by decide +kernel
theorem d_Model_times_16 : decode b_Model_times 16 = .ok (.iastore, 1) := by decide +kernel
theorem d_Model_times_17 : decode b_Model_times 17 = .ok (.iinc 5 1, 3) := by decide +kernel
theorem d_Model_times_20 : decode b_Model_times 20 = .ok (.goto (-17), 3) := by decide +kernel
theorem d_Model_times_23 : decode b_Model_times 23 = .ok (.iconst 0, 1) := by decide +kernel
theorem d_Model_times_24 : decode b_Model_times 24 = .ok (.istore 5, 2) := by decide +kernel
theorem d_Model_times_26 : decode b_Model_times 26 = .ok (.iload 5, 2) := by decide +kernel
theorem d_Model_times_28 : decode b_Model_times 28 = .ok (.iload_n 1, 1) := by decide +kernel
theorem d_Model_times_29 : decode b_Model_times 29 = .ok (.if_icmp .ge 85, 3) := by decide +kernel
theorem d_Model_times_32 : decode b_Model_times 32 = .ok (.lconst 0, 1) := by decide +kernel
theorem d_Model_times_33 : decode b_Model_times 33 = .ok (.lstore 6, 2) := by decide +kernel
theorem d_Model_times_35 : decode b_Model_times 35 = .ok (.iconst 0, 1) := by decide +kernel
theorem d_Model_times_36 : decode b_Model_times 36 = .ok (.istore 8, 2) := by decide +kernel
theorem d_Model_times_38 : decode b_Model_times 38 = .ok (.iload 8, 2) := by decide +kernel
theorem d_Model_times_40 : decode b_Model_times 40 = .ok (.iload_n 3, 1) := by decide +kernel
theorem d_Model_times_41 : decode b_Model_times 41 = .ok (.if_icmp .ge 57, 3) := by decide +kernel
theorem d_Model_times_44 : decode b_Model_times 44 = .ok (.lload 6, 2) := by decide +kernel
theorem d_Model_times_46 : decode b_Model_times 46 = .ok (.aload_n 0, 1) := by decide +kernel
theorem d_Model_times_47 : decode b_Model_times 47 = .ok (.iload 5, 2) := by decide +kernel
theorem d_Model_times_49 : decode b_Model_times 49 = .ok (.iaload, 1) := by decide +kernel
theorem d_Model_times_50 : decode b_Model_times 50 = .ok (.i2l, 1) := by decide +kernel
theorem d_Model_times_51 : decode b_Model_times 51 = .ok (.aload_n 2, 1) := by decide +kernel
theorem d_Model_times_52 : decode b_Model_times 52 = .ok (.iload 8, 2) := by decide +kernel
theorem d_Model_times_54 : decode b_Model_times 54 = .ok (.iaload, 1) := by decide +kernel
theorem d_Model_times_55 : decode b_Model_times 55 = .ok (.i2l, 1) := by decide +kernel
theorem d_Model_times_56 : decode b_Model_times 56 = .ok (.lmul, 1) := by decide +kernel
theorem d_Model_times_57 : decode b_Model_times 57 = .ok (.aload 4, 2) := by decide +kernel
theorem d_Model_times_59 : decode b_Model_times 59 = .ok (.iload 5, 2) := by decide +kernel
theorem d_Model_times_61 : decode b_Model_times 61 = .ok (.iload 8, 2) := by decide +kernel
theorem d_Model_times_63 : decode b_Model_times 63 = .ok (.iadd, 1) := by decide +kernel
theorem d_Model_times_64 : decode b_Model_times 64 = .ok (.iaload, 1) := by decide +kernel
theorem d_Model_times_65 : decode b_Model_times 65 = .ok (.i2l, 1) := by decide +kernel
theorem d_Model_times_66 : decode b_Model_times 66 = .ok (.ladd, 1) := by decide +kernel
theorem d_Model_times_67 : decode b_Model_times 67 = .ok (.ladd, 1) := by decide +kernel
theorem d_Model_times_68 : decode b_Model_times 68 = .ok (.lstore 6, 2) := by decide +kernel
theorem d_Model_times_70 : decode b_Model_times 70 = .ok (.aload 4, 2) := by decide +kernel
theorem d_Model_times_72 : decode b_Model_times 72 = .ok (.iload 5, 2) := by decide +kernel
theorem d_Model_times_74 : decode b_Model_times 74 = .ok (.iload 8, 2) := by decide +kernel
theorem d_Model_times_76 : decode b_Model_times 76 = .ok (.iadd, 1) := by decide +kernel
theorem d_Model_times_77 : decode b_Model_times 77 = .ok (.lload 6, 2) := by decide +kernel
theorem d_Model_times_79 : decode b_Model_times 79 = .ok (.ldc2_w 153, 3) := by decide +kernel
theorem d_Model_times_82 : decode b_Model_times 82 = .ok (.land, 1) := by decide +kernel
theorem d_Model_times_83 : decode b_Model_times 83 = .ok (.l2i, 1) := by decide +kernel
theorem d_Model_times_84 : decode b_Model_times 84 = .ok (.iastore, 1) := by decide +kernel
theorem d_Model_times_85 : decode b_Model_times 85 = .ok (.lload 6, 2) := by decide +kernel
theorem d_Model_times_87 : decode b_Model_times 87 = .ok (.bipush 16, 2) := by decide +kernel
theorem d_Model_times_89 : decode b_Model_times 89 = .ok (.lushr, 1) := by decide +kernel
theorem d_Model_times_90 : decode b_Model_times 90 = .ok (.lstore 6, 2) := by decide +kernel
theorem d_Model_times_92 : decode b_Model_times 92 = .ok (.iinc 8 1, 3) := by decide +kernel
theorem d_Model_times_95 : decode b_Model_times 95 = .ok (.goto (-57), 3) := by decide +kernel
theorem d_Model_times_98 : decode b_Model_times 98 = .ok (.aload 4, 2) := by decide +kernel
theorem d_Model_times_100 : decode b_Model_times 100 = .ok (.iload 5, 2) := by decide +kernel
theorem d_Model_times_102 : decode b_Model_times 102 = .ok (.iload_n 3, 1) := by decide +kernel
theorem d_Model_times_103 : decode b_Model_times 103 = .ok (.iadd, 1) := by decide +kernel
theorem d_Model_times_104 : decode b_Model_times 104 = .ok (.lload 6, 2) := by decide +kernel
theorem d_Model_times_106 : decode b_Model_times 106 = .ok (.l2i, 1) := by decide +kernel
theorem d_Model_times_107 : decode b_Model_times 107 = .ok (.iastore, 1) := by decide +kernel
theorem d_Model_times_108 : decode b_Model_times 108 = .ok (.iinc 5 1, 3) := by decide +kernel
theorem d_Model_times_111 : decode b_Model_times 111 = .ok (.goto (-85), 3) := by decide +kernel
theorem d_Model_times_114 : decode b_Model_times 114 = .ok (.aload 4, 2) := by decide +kernel
theorem d_Model_times_116 : decode b_Model_times 116 = .ok (.iload_n 1, 1) := by decide +kernel
theorem d_Model_times_117 : decode b_Model_times 117 = .ok (.iload_n 3, 1) := by decide +kernel
theorem d_Model_times_118 : decode b_Model_times 118 = .ok (.iadd, 1) := by decide +kernel
theorem d_Model_times_119 : decode b_Model_times 119 = .ok (.invokestatic 149, 3) := by decide +kernel
theorem d_Model_times_122 : decode b_Model_times 122 = .ok (.ireturn, 1) := by decide +kernel
/-- what has no kind stays, but for these -/
def FL (Ad X : List Nat) (G G' : va_W) : Prop := ∀ q : Nat × va_E, q.1 ∉ Ad → q.1 ∉ X → q ∈ G → q ∈ G'
theorem FL.rf (Ad X : List Nat) (G : va_W) : FL Ad X G G := fun _ _ _ h => h
theorem FL.tr {Ad X : List Nat} {G1 G2 G3 : va_W} (h : FL Ad X G1 G2) (g : FL Ad X G2 G3) : FL Ad X G1 G3 := fun q a b z => g q a b (h q a b z)
theorem FR.l {Ad X : List Nat} {G G' : va_W} (h : FR Ad G G') : FL Ad X G G' := fun q a _ z => h q a z
theorem FL.up {Ad X X' : List Nat} {G G' : va_W} (h : FL Ad X G G') (hX : ∀ x, x ∈ X → x ∈ X') : FL Ad X' G G' := fun q a b z => h q a (fun w => b (hX _ w)) z
theorem FL.set {Ad X : List Nat} {G : va_W} {i a : Nat} {c c' : va_E} (hg : G[i]? = some (a, c)) (ha : a ∈ X) : FL Ad X G (G.set i (a, c')) := fun q _ hn h => mem_setX hg h (fun e => hn (by rw [e]; exact ha))
theorem Xc.fl {Ad X : List Nat} {G G' : va_W} {a : Nat} {c : va_E} (h : Xc Ad a c G) (hf : FL Ad X G G') (ha : a ∉ X) : Xc Ad a c G' := ⟨h.1, hf (a, c) h.1 ha h.2⟩
