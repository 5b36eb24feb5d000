/-! Reader.time. -/
noncomputable def tgN (L : Prop) : Nat := @ite _ L (Classical.propDecidable L) 24 23
noncomputable def yoN (L : Prop) : Nat := @ite _ L (Classical.propDecidable L) 4 2
theorem tgN_lt (L : Prop) : tgN L < 256 := by unfold tgN; split <;> omega
theorem yoN_le (L : Prop) : yoN L ≤ 4 := by unfold yoN; split <;> omega
noncomputable def yr0 (u : Nat → Nat) (n a : Nat) (L : Prop) : Int32 := @ite _ L (Classical.propDecidable L) (dg u n a * 100 + dg u n (a + 2)) (dg u n a)
noncomputable def yr1 (u : Nat → Nat) (n a : Nat) (L : Prop) : Int32 := @ite _ L (Classical.propDecidable L) (yr0 u n a L) (yr0 u n a L + if 50 ≤ yr0 u n a L then 1900 else 2000)
def tmW (u : Nat → Nat) (n a b z : Nat) : Prop := z = b + 11 ∧ digsN u n a (z - 1) ∧ oc u n (z - 1) = 90
def tmD (u : Nat → Nat) (n b : Nat) : Prop := ¬ 24 ≤ dg u n (b + 4) ∧ ¬ 60 ≤ dg u n (b + 6) ∧ ¬ 60 ≤ dg u n (b + 8)
def tmOK (u : Nat → Nat) (n a z : Nat) (L : Prop) : Prop :=
  tmW u n a (a + yoN L) z ∧ tmD u n (a + yoN L) ∧ dayI (yr1 u n a L) (dg u n (a + yoN L)) (dg u n (a + yoN L + 2)) ∧ (¬ L ∨ ¬ yr1 u n a L < 2050)
noncomputable def tmV (u : Nat → Nat) (n a : Nat) (L : Prop) : Int64 :=
  ((dtI (yr1 u n a L) (dg u n (a + yoN L)) (dg u n (a + yoN L + 2)) * 24 + (dg u n (a + yoN L + 4)).toInt64) * 60 + (dg u n (a + yoN L + 6)).toInt64) * 60 + (dg u n (a + yoN L + 8)).toInt64
def isLg (u : Nat → Nat) (x : rS) (en : Nat) : Prop := x.2.2 = none ∧ x.1 < en ∧ u x.1 = 24
noncomputable def rd_time (u : Nat → Nat) (n : Nat) (x : rS) (en : Nat) : rS × Int64 :=
  let o := rd_opn u n x (tgN (isLg u x en)) en
  (rd_lea o.1 o.2 (zP (tmOK u n o.1.1 o.2 (isLg u x en))), tmV u n o.1.1 (isLg u x en))
theorem time_inv {u : Nat → Nat} {n en : Nat} {x : rS} (h : rdInv n x) (he : en ≤ n) : rdInv n (rd_time u n x en).1 := by
  have h1 := opn_inv (u := u) (tg := tgN (isLg u x en)) h he
  exact lea_inv h1.1 h1.2.2.1

def y_Reader_time : MethodName := ⟨"TrustChain$Reader", "time", "(I)J"⟩
abbrev b_Reader_time : ByteArray := prog_8_method_22_code
def w_Reader_time : List Cond := Cond.code y_Reader_time b_Reader_time 13 ((some FieldType.long)) :: tb
theorem d_Reader_time_0 : decode b_Reader_time 0 = .ok (.aload_n 0, 1) := by decide +kernel
theorem d_Reader_time_1 : decode b_Reader_time 1 = .ok (.bipush 24, 2) := by decide +kernel
theorem d_Reader_time_3 : decode b_Reader_time 3 = .ok (.iload_n 1, 1) := by decide +kernel
theorem d_Reader_time_4 : decode b_Reader_time 4 = .ok (.invokevirtual 89, 3) := by decide +kernel
theorem d_Reader_time_7 : decode b_Reader_time 7 = .ok (.istore_n 2, 1) := by decide +kernel
theorem d_Reader_time_8 : decode b_Reader_time 8 = .ok (.aload_n 0, 1) := by decide +kernel
theorem d_Reader_time_9 : decode b_Reader_time 9 = .ok (.iload_n 2, 1) := by decide +kernel
theorem d_Reader_time_10 : decode b_Reader_time 10 = .ok (.ifCond .eq 8, 3) := by decide +kernel
theorem d_Reader_time_13 : decode b_Reader_time 13 = .ok (.bipush 24, 2) := by decide +kernel
theorem d_Reader_time_15 : decode b_Reader_time 15 = .ok (.goto 5, 3) := by decide +kernel
theorem d_Reader_time_18 : decode b_Reader_time 18 = .ok (.bipush 23, 2) := by decide +kernel
theorem d_Reader_time_20 : decode b_Reader_time 20 = .ok (.iload_n 1, 1) := by decide +kernel
theorem d_Reader_time_21 : decode b_Reader_time 21 = .ok (.invokevirtual 49, 3) := by decide +kernel
theorem d_Reader_time_24 : decode b_Reader_time 24 = .ok (.istore_n 3, 1) := by decide +kernel
theorem d_Reader_time_25 : decode b_Reader_time 25 = .ok (.aload_n 0, 1) := by decide +kernel
theorem d_Reader_time_26 : decode b_Reader_time 26 = .ok (.getfield 9, 3) := by decide +kernel
theorem d_Reader_time_29 : decode b_Reader_time 29 = .ok (.iload_n 2, 1) := by decide +kernel
theorem d_Reader_time_30 : decode b_Reader_time 30 = .ok (.ifCond .eq 7, 3) := by decide +kernel
theorem d_Reader_time_33 : decode b_Reader_time 33 = .ok (.iconst 4, 1) := by decide +kernel
theorem d_Reader_time_34 : decode b_Reader_time 34 = .ok (.goto 4, 3) := by decide +kernel
theorem d_Reader_time_37 : decode b_Reader_time 37 = .ok (.iconst 2, 1) := by decide +kernel
theorem d_Reader_time_38 : decode b_Reader_time 38 = .ok (.iadd, 1) := by decide +kernel
theorem d_Reader_time_39 : decode b_Reader_time 39 = .ok (.istore 4, 2) := by decide +kernel
theorem d_Reader_time_41 : decode b_Reader_time 41 = .ok (.iload_n 2, 1) := by decide +kernel
theorem d_Reader_time_42 : decode b_Reader_time 42 = .ok (.ifCond .eq 28, 3) := by decide +kernel
theorem d_Reader_time_45 : decode b_Reader_time 45 = .ok (.aload_n 0, 1) := by decide +kernel
theorem d_Reader_time_46 : decode b_Reader_time 46 = .ok (.aload_n 0, 1) := by decide +kernel
theorem d_Reader_time_47 : decode b_Reader_time 47 = .ok (.getfield 9, 3) := by decide +kernel
theorem d_Reader_time_50 : decode b_Reader_time 50 = .ok (.invokevirtual 144, 3) := by decide +kernel
theorem d_Reader_time_53 : decode b_Reader_time 53 = .ok (.bipush 100, 2) := by decide +kernel
theorem d_Reader_time_55 : decode b_Reader_time 55 = .ok (.imul, 1) := by decide +kernel
theorem d_Reader_time_56 : decode b_Reader_time 56 = .ok (.aload_n 0, 1) := by decide +kernel
theorem d_Reader_time_57 : decode b_Reader_time 57 = .ok (.aload_n 0, 1) := by decide +kernel
theorem d_Reader_time_58 : decode b_Reader_time 58 = .ok (.getfield 9, 3) := by decide +kernel
theorem d_Reader_time_61 : decode b_Reader_time 61 = .ok (.iconst 2, 1) := by decide +kernel
theorem d_Reader_time_62 : decode b_Reader_time 62 = .ok (.iadd, 1) := by decide +kernel
theorem d_Reader_time_63 : decode b_Reader_time 63 = .ok (.invokevirtual 144, 3) := by decide +kernel
theorem d_Reader_time_66 : decode b_Reader_time 66 = .ok (.iadd, 1) := by decide +kernel
theorem d_Reader_time_67 : decode b_Reader_time 67 = .ok (.goto 11, 3) := by decide +kernel
theorem d_Reader_time_70 : decode b_Reader_time 70 = .ok (.aload_n 0, 1) := by decide +kernel
theorem d_Reader_time_71 : decode b_Reader_time 71 = .ok (.aload_n 0, 1) := by decide +kernel
theorem d_Reader_time_72 : decode b_Reader_time 72 = .ok (.getfield 9, 3) := by decide +kernel
theorem d_Reader_time_75 : decode b_Reader_time 75 = .ok (.invokevirtual 144, 3) := by decide +kernel
theorem d_Reader_time_78 : decode b_Reader_time 78 = .ok (.istore 5, 2) := by decide +kernel
theorem d_Reader_time_80 : decode b_Reader_time 80 = .ok (.iload_n 2, 1) := by decide +kernel
theorem d_Reader_time_81 : decode b_Reader_time 81 = .ok (.ifCond .ne 24, 3) := by decide +kernel
theorem d_Reader_time_84 : decode b_Reader_time 84 = .ok (.iload 5, 2) := by decide +kernel
theorem d_Reader_time_86 : decode b_Reader_time 86 = .ok (.iload 5, 2) := by decide +kernel
theorem d_Reader_time_88 : decode b_Reader_time 88 = .ok (.bipush 50, 2) := by decide +kernel
theorem d_Reader_time_90 : decode b_Reader_time 90 = .ok (.if_icmp .lt 9, 3) := by decide +kernel
theorem d_Reader_time_93 : decode b_Reader_time 93 = .ok (.sipush 1900, 3) := by decide +kernel
theorem d_Reader_time_96 : decode b_Reader_time 96 = .ok (.goto 6, 3) := by decide +kernel
theorem d_Reader_time_99 : decode b_Reader_time 99 = .ok (.sipush 2000, 3) := by decide +kernel
theorem d_Reader_time_102 : decode b_Reader_time 102 = .ok (.iadd, 1) := by decide +kernel
theorem d_Reader_time_103 : decode b_Reader_time 103 = .ok (.istore 5, 2) := by decide +kernel
theorem d_Reader_time_105 : decode b_Reader_time 105 = .ok (.aload_n 0, 1) := by decide +kernel
theorem d_Reader_time_106 : decode b_Reader_time 106 = .ok (.iload 4, 2) := by decide +kernel
theorem d_Reader_time_108 : decode b_Reader_time 108 = .ok (.invokevirtual 144, 3) := by decide +kernel
theorem d_Reader_time_111 : decode b_Reader_time 111 = .ok (.istore 6, 2) := by decide +kernel
theorem d_Reader_time_113 : decode b_Reader_time 113 = .ok (.aload_n 0, 1) := by decide +kernel
theorem d_Reader_time_114 : decode b_Reader_time 114 = .ok (.iload 4, 2) := by decide +kernel
theorem d_Reader_time_116 : decode b_Reader_time 116 = .ok (.iconst 2, 1) := by decide +kernel
theorem d_Reader_time_117 : decode b_Reader_time 117 = .ok (.iadd, 1) := by decide +kernel
theorem d_Reader_time_118 : decode b_Reader_time 118 = .ok (.invokevirtual 144, 3) := by decide +kernel
theorem d_Reader_time_121 : decode b_Reader_time 121 = .ok (.istore 7, 2) := by decide +kernel
theorem d_Reader_time_123 : decode b_Reader_time 123 = .ok (.aload_n 0, 1) := by decide +kernel
theorem d_Reader_time_124 : decode b_Reader_time 124 = .ok (.iload 4, 2) := by decide +kernel
theorem d_Reader_time_126 : decode b_Reader_time 126 = .ok (.iconst 4, 1) := by decide +kernel
theorem d_Reader_time_127 : decode b_Reader_time 127 = .ok (.iadd, 1) := by decide +kernel
theorem d_Reader_time_128 : decode b_Reader_time 128 = .ok (.invokevirtual 144, 3) := by decide +kernel
theorem d_Reader_time_131 : decode b_Reader_time 131 = .ok (.istore 8, 2) := by decide +kernel
theorem d_Reader_time_133 : decode b_Reader_time 133 = .ok (.aload_n 0, 1) := by decide +kernel
theorem d_Reader_time_134 : decode b_Reader_time 134 = .ok (.iload 4, 2) := by decide +kernel
theorem d_Reader_time_136 : decode b_Reader_time 136 = .ok (.bipush 6, 2) := by decide +kernel
theorem d_Reader_time_138 : decode b_Reader_time 138 = .ok (.iadd, 1) := by decide +kernel
theorem d_Reader_time_139 : decode b_Reader_time 139 = .ok (.invokevirtual 144, 3) := by decide +kernel
theorem d_Reader_time_142 : decode b_Reader_time 142 = .ok (.istore 9, 2) := by decide +kernel
theorem d_Reader_time_144 : decode b_Reader_time 144 = .ok (.aload_n 0, 1) := by decide +kernel
theorem d_Reader_time_145 : decode b_Reader_time 145 = .ok (.iload 4, 2) := by decide +kernel
theorem d_Reader_time_147 : decode b_Reader_time 147 = .ok (.bipush 8, 2) := by decide +kernel
theorem d_Reader_time_149 : decode b_Reader_time 149 = .ok (.iadd, 1) := by decide +kernel
theorem d_Reader_time_150 : decode b_Reader_time 150 = .ok (.invokevirtual 144, 3) := by decide +kernel
theorem d_Reader_time_153 : decode b_Reader_time 153 = .ok (.istore 10, 2) := by decide +kernel
theorem d_Reader_time_155 : decode b_Reader_time 155 = .ok (.iload_n 3, 1) := by decide +kernel
theorem d_Reader_time_156 : decode b_Reader_time 156 = .ok (.iload 4, 2) := by decide +kernel
theorem d_Reader_time_158 : decode b_Reader_time 158 = .ok (.bipush 11, 2) := by decide +kernel
theorem d_Reader_time_160 : decode b_Reader_time 160 = .ok (.iadd, 1) := by decide +kernel
theorem d_Reader_time_161 : decode b_Reader_time 161 = .ok (.if_icmp .ne 33, 3) := by decide +kernel
theorem d_Reader_time_164 : decode b_Reader_time 164 = .ok (.aload_n 0, 1) := by decide +kernel
theorem d_Reader_time_165 : decode b_Reader_time 165 = .ok (.aload_n 0, 1) := by decide +kernel
theorem d_Reader_time_166 : decode b_Reader_time 166 = .ok (.getfield 9, 3) := by decide +kernel
theorem d_Reader_time_169 : decode b_Reader_time 169 = .ok (.iload_n 3, 1) := by decide +kernel
theorem d_Reader_time_170 : decode b_Reader_time 170 = .ok (.iconst 1, 1) := by decide +kernel
theorem d_Reader_time_171 : decode b_Reader_time 171 = .ok (.isub, 1) := by decide +kernel
theorem d_Reader_time_172 : decode b_Reader_time 172 = .ok (.invokevirtual 147, 3) := by decide +kernel
theorem d_Reader_time_175 : decode b_Reader_time 175 = .ok (.ifCond .eq 19, 3) := by decide +kernel
theorem d_Reader_time_178 : decode b_Reader_time 178 = .ok (.aload_n 0, 1) := by decide +kernel
theorem d_Reader_time_179 : decode b_Reader_time 179 = .ok (.iload_n 3, 1) := by decide +kernel
theorem d_Reader_time_180 : decode b_Reader_time 180 = .ok (.iconst 1, 1) := by decide +kernel
theorem d_Reader_time_181 : decode b_Reader_time 181 = .ok (.isub, 1) := by decide +kernel
theorem d_Reader_time_182 : decode b_Reader_time 182 = .ok (.invokevirtual 45, 3) := by decide +kernel
theorem d_Reader_time_185 : decode b_Reader_time 185 = .ok (.bipush 90, 2) := by decide +kernel
theorem d_Reader_time_187 : decode b_Reader_time 187 = .ok (.if_icmp .ne 7, 3) := by decide +kernel
theorem d_Reader_time_190 : decode b_Reader_time 190 = .ok (.iconst 1, 1) := by decide +kernel
theorem d_Reader_time_191 : decode b_Reader_time 191 = .ok (.goto 4, 3) := by decide +kernel
theorem d_Reader_time_194 : decode b_Reader_time 194 = .ok (.iconst 0, 1) := by decide +kernel
theorem d_Reader_time_195 : decode b_Reader_time 195 = .ok (.istore 11, 2) := by decide +kernel
theorem d_Reader_time_197 : decode b_Reader_time 197 = .ok (.iload 8, 2) := by decide +kernel
theorem d_Reader_time_199 : decode b_Reader_time 199 = .ok (.bipush 24, 2) := by decide +kernel
theorem d_Reader_time_201 : decode b_Reader_time 201 = .ok (.if_icmp .ge 21, 3) := by decide +kernel
theorem d_Reader_time_204 : decode b_Reader_time 204 = .ok (.iload 9, 2) := by decide +kernel
theorem d_Reader_time_206 : decode b_Reader_time 206 = .ok (.bipush 60, 2) := by decide +kernel
theorem d_Reader_time_208 : decode b_Reader_time 208 = .ok (.if_icmp .ge 14, 3) := by decide +kernel
theorem d_Reader_time_211 : decode b_Reader_time 211 = .ok (.iload 10, 2) := by decide +kernel
theorem d_Reader_time_213 : decode b_Reader_time 213 = .ok (.bipush 60, 2) := by decide +kernel
theorem d_Reader_time_215 : decode b_Reader_time 215 = .ok (.if_icmp .ge 7, 3) := by decide +kernel
theorem d_Reader_time_218 : decode b_Reader_time 218 = .ok (.iconst 1, 1) := by decide +kernel
theorem d_Reader_time_219 : decode b_Reader_time 219 = .ok (.goto 4, 3) := by decide +kernel
theorem d_Reader_time_222 : decode b_Reader_time 222 = .ok (.iconst 0, 1) := by decide +kernel
theorem d_Reader_time_223 : decode b_Reader_time 223 = .ok (.istore 12, 2) := by decide +kernel
theorem d_Reader_time_225 : decode b_Reader_time 225 = .ok (.aload_n 0, 1) := by decide +kernel
theorem d_Reader_time_226 : decode b_Reader_time 226 = .ok (.iload_n 3, 1) := by decide +kernel
theorem d_Reader_time_227 : decode b_Reader_time 227 = .ok (.iload 11, 2) := by decide +kernel
theorem d_Reader_time_229 : decode b_Reader_time 229 = .ok (.ifCond .eq 36, 3) := by decide +kernel
theorem d_Reader_time_232 : decode b_Reader_time 232 = .ok (.iload 12, 2) := by decide +kernel
theorem d_Reader_time_234 : decode b_Reader_time 234 = .ok (.ifCond .eq 31, 3) := by decide +kernel
theorem d_Reader_time_237 : decode b_Reader_time 237 = .ok (.iload 5, 2) := by decide +kernel
theorem d_Reader_time_239 : decode b_Reader_time 239 = .ok (.iload 6, 2) := by decide +kernel
theorem d_Reader_time_241 : decode b_Reader_time 241 = .ok (.iload 7, 2) := by decide +kernel
theorem d_Reader_time_243 : decode b_Reader_time 243 = .ok (.invokestatic 150, 3) := by decide +kernel
theorem d_Reader_time_246 : decode b_Reader_time 246 = .ok (.ifCond .eq 19, 3) := by decide +kernel
theorem d_Reader_time_249 : decode b_Reader_time 249 = .ok (.iload_n 2, 1) := by decide +kernel
theorem d_Reader_time_250 : decode b_Reader_time 250 = .ok (.ifCond .eq 11, 3) := by decide +kernel
theorem d_Reader_time_253 : decode b_Reader_time 253 = .ok (.iload 5, 2) := by decide +kernel
theorem d_Reader_time_255 : decode b_Reader_time 255 = .ok (.sipush 2050, 3) := by decide +kernel
theorem d_Reader_time_258 : decode b_Reader_time 258 = .ok (.if_icmp .lt 7, 3) := by decide +kernel
theorem d_Reader_time_261 : decode b_Reader_time 261 = .ok (.iconst 1, 1) := by decide +kernel
theorem d_Reader_time_262 : decode b_Reader_time 262 = .ok (.goto 4, 3) := by decide +kernel
theorem d_Reader_time_265 : decode b_Reader_time 265 = .ok (.iconst 0, 1) := by decide +kernel
theorem d_Reader_time_266 : decode b_Reader_time 266 = .ok (.invokevirtual 53, 3) := by decide +kernel
theorem d_Reader_time_269 : decode b_Reader_time 269 = .ok (.iload 5, 2) := by decide +kernel
theorem d_Reader_time_271 : decode b_Reader_time 271 = .ok (.iload 6, 2) := by decide +kernel
theorem d_Reader_time_273 : decode b_Reader_time 273 = .ok (.iload 7, 2) := by decide +kernel
theorem d_Reader_time_275 : decode b_Reader_time 275 = .ok (.invokestatic 153, 3) := by decide +kernel
theorem d_Reader_time_278 : decode b_Reader_time 278 = .ok (.ldc2_w 157, 3) := by decide +kernel
theorem d_Reader_time_281 : decode b_Reader_time 281 = .ok (.lmul, 1) := by decide +kernel
theorem d_Reader_time_282 : decode b_Reader_time 282 = .ok (.iload 8, 2) := by decide +kernel
theorem d_Reader_time_284 : decode b_Reader_time 284 = .ok (.i2l, 1) := by decide +kernel
theorem d_Reader_time_285 : decode b_Reader_time 285 = .ok (.ladd, 1) := by decide +kernel
theorem d_Reader_time_286 : decode b_Reader_time 286 = .ok (.ldc2_w 159, 3) := by decide +kernel
theorem d_Reader_time_289 : decode b_Reader_time 289 = .ok (.lmul, 1) := by decide +kernel
theorem d_Reader_time_290 : decode b_Reader_time 290 = .ok (.iload 9, 2) := by decide +kernel
theorem d_Reader_time_292 : decode b_Reader_time 292 = .ok (.i2l, 1) := by decide +kernel
theorem d_Reader_time_293 : decode b_Reader_time 293 = .ok (.ladd, 1) := by decide +kernel
theorem d_Reader_time_294 : decode b_Reader_time 294 = .ok (.ldc2_w 159, 3) := by decide +kernel
theorem d_Reader_time_297 : decode b_Reader_time 297 = .ok (.lmul, 1) := by decide +kernel
theorem d_Reader_time_298 : decode b_Reader_time 298 = .ok (.iload 10, 2) := by decide +kernel
theorem d_Reader_time_300 : decode b_Reader_time 300 = .ok (.i2l, 1) := by decide +kernel
theorem d_Reader_time_301 : decode b_Reader_time 301 = .ok (.ladd, 1) := by decide +kernel
theorem d_Reader_time_302 : decode b_Reader_time 302 = .ok (.lreturn, 1) := by decide +kernel
set_option maxHeartbeats 4000000 in
set_option maxRecDepth 100000 in
theorem cC_time (l : Launch) (dC : Nat → ClassId) (dI : Nat → Nat → Nat) (sb : sB) (h res t ki n : Nat) (x : rS) (pa ma ex ie : Int32) (cB : ClassId) (u : Nat → Nat) (en : Nat) (sz : Nat) (hu : ∀ j, u j < 256) (hn : n < 2 ^ 30) (hi : rdInv n x) (he : en ≤ n) : Met l y_Reader_time w_Reader_time ({ frames := 2, cells := 0, slots := 0, locals := 46 }) (mu_P [.ref h, .int (nI en)] (dC, dI) sb [(h, .inr (4, [.ref res, .ref t, .int (nI x.1), .int (nI x.2.1), .int (wI x.2.2), .int pa, .int ma, .int ex, .ref ki])), (t, .inl (cB, n, .inl (tx u)))] [(cB, .byte)] sz) (va_Ql (fun r (u' : rS) => u' = (rd_time u n x en).1 ∧ r = (rd_time u n x en).2) (mu_B (dC, dI) [(cB, .byte)] (va_A [(h, .inr (4, [.ref res, .ref t, .int (nI x.1), .int (nI x.2.1), .int (wI x.2.2), .int pa, .int ma, .int ex, .ref ki])), (t, .inl (cB, n, .inl (tx u)))] sz) (fun u' : rS => [(h, .inr (4, [.ref res, .ref t, .int (nI u'.1), .int (nI u'.2.1), .int (wI u'.2.2), .int pa, .int ma, .int ex, .ref ki])), (t, .inl (cB, n, .inl (tx u)))])) (va_A [(h, .inr (4, [.ref res, .ref t, .int (nI x.1), .int (nI x.2.1), .int (wI x.2.2), .int pa, .int ma, .int ex, .ref ki])), (t, .inl (cB, n, .inl (tx u)))] sz)) 0 0 (va_A [(h, .inr (4, [.ref res, .ref t, .int (nI x.1), .int (nI x.2.1), .int (wI x.2.2), .int pa, .int ma, .int ex, .ref ki])), (t, .inl (cB, n, .inl (tx u)))] sz) := by
  refine Met.ofW (cc := b_Reader_time) (maxL := 13) (ret := (some FieldType.long)) (by decide) rfl ?_
  intro p e s m args below meth c s₁ B hml hv
  obtain ⟨rfl, hsz, hB0, hP, hK, hD0, hN, hT0⟩ := hv
  have hx := B.exec
  have hb := B.bytes
  have hr := B.returns
  have hts := atoms_spec (ws := w_Reader_time) B.pre
  have tbin : ∀ w ∈ tb, w ∈ w_Reader_time := fun w h => List.mem_cons_of_mem _ h
  have htb : ∀ w ∈ tb, w.before _ s = true := fun w h => hts w (tbin w h)
  have hown : s.vm.findClass "TrustChain$Reader" = some m.cls := findClass_of_methodNamed B.named
  have hlocks := B.notSynchronized
  subst hsz
  have hD := hD0.self (sz := s.heap.size)
  generalize hAe : va_A [(h, .inr (4, [.ref res, .ref t, .int (nI x.1), .int (nI x.2.1), .int (wI x.2.2), .int pa, .int ma, .int ex, .ref ki])), (t, .inl (cB, n, .inl (tx u)))] s.heap.size = A at hD ⊢
  have hA : ∀ q : Nat, s.heap.size ≤ q → A q := fun q h => by rw [← hAe]; exact Or.inr h
  have hAs : ∀ q : Nat, A q → sb.1 ≤ q := fun q h => by
    rw [← hAe] at h
    rcases h with ⟨k, e, h⟩ | h
    · exact hD0.2 k _ h
    · exact Nat.le_trans hB0 h
  have hS : va_S A s.heap s.heap [] := va_S.rf
  have hcs : 0 ≤ (headSpec w_Reader_time ({ frames := 2, cells := 0, slots := 0, locals := 46 })).room.cells ∧ 0 ≤ (headSpec w_Reader_time ({ frames := 2, cells := 0, slots := 0, locals := 46 })).room.slots := ⟨Nat.le_refl _, Nat.le_refl _⟩
  have hP : va_P (dC, dI) classes [(h, .inr (4, [.ref res, .ref t, .int (nI x.1), .int (nI x.2.1), .int (wI x.2.2), .int pa, .int ma, .int ex, .ref ki])), (t, .inl (cB, n, .inl (tx u)))] s.heap := hP
  have hl := lv_entry ([.ref h, .int (nI en)]) (n := 13) (Nat.le_of_ble_eq_true rfl)
  rw [lg_entry_eq]
  generalize (lg_sl ([.ref h, .int (nI en)]) ++ List.replicate (13 - (lg_sl ([.ref h, .int (nI en)])).length) Slot.unset).toArray = ls at hl ⊢
  have hl : lv_has ls 13 [(0, .ref h), (1, .int (nI en))] := hl
  refine lv_aload_n hx hb d_Reader_time_0 rfl (lv_at hl 0 rfl) ?_
  refine lv_bipush (v := 24) hx hb d_Reader_time_1 (by decide) ?_
  refine lv_iload_n hx hb d_Reader_time_3 rfl (lv_at hl 1 rfl) ?_
  refine vp_callSi (pu_callU (As := [.int 24, .int (nI en)]) (rest := []) ⟨hx, hb, hml, hown, hts⟩ (cC_nextIs l dC dI sb h res t ki x.1 x.2.1 n x.2.2 pa ma ex ie cB u 24 en hu hn ((hi).w hn) he (hi).1 (by decide)) (cu_of (n := 2) hts tbin q3_206 q3_208 q3_207 q3_209 q1_15 q3_211 rfl (by decide +kernel) ⟨rfl, rfl⟩ ⟨Nat.le_of_ble_eq_true rfl, Nat.le_of_ble_eq_true rfl⟩) rfl ⟨Nat.le_of_ble_eq_true rfl, Nat.le_of_ble_eq_true rfl⟩ hN (hT0.keep hS hAs) hK hP [0, 1] rfl [0] rfl 0 4 rfl rfl rfl hl.1 rfl (Nat.le_of_ble_eq_true rfl) d_Reader_time_4) (fun r4 hr4 => ?_)
  have hr4 : bz r4 (isLg u x en) := hr4
  refine lv_istore_n (lv' := [(2, .int r4), (0, .ref h), (1, .int (nI en))]) hx hb d_Reader_time_7 rfl hl (by decide) rfl (fun ls hl => ?_)
  refine lv_aload_n hx hb d_Reader_time_8 rfl (lv_at hl 1 rfl) ?_
  refine w_join (J := fun v => v = nI (tgN (isLg u x en))) (pc := 20) (ls := ls) (rest := [.ref h]) (fun v hv => ?_) (fun k20 => ?_)
  · skip
    subst hv
    refine lv_iload_n hx hb d_Reader_time_20 rfl (lv_at hl 2 rfl) ?_
    have hFc := va_free (wc := [(h, .inr (4, [.ref res, .ref t, .int (nI x.1), .int (nI x.2.1), .int (wI x.2.2), .int pa, .int ma, .int ex, .ref ki])), (t, .inl (cB, n, .inl (tx u)))]) hD hS hA [0, 1] rfl
    refine va_calli (mu_runU (As := [.int (nI (tgN (isLg u x en))), .int (nI en)]) (rest := []) ⟨hx, hb, hml, hown, hts⟩ (cC_open l dC dI sb h res t ki x.1 x.2.1 n x.2.2 pa ma ex ie cB u (tgN (isLg u x en)) en s.heap.size hu hn ((hi).w hn) he (hi).1 (tgN_lt _)) (cu_of (n := 2) hts tbin q3_130 q9_192 q3_112 q9_193 q1_15 q3_113 rfl (by decide +kernel) ⟨rfl, rfl⟩ ⟨Nat.le_of_ble_eq_true rfl, Nat.le_of_ble_eq_true rfl⟩) rfl ⟨Nat.le_of_ble_eq_true rfl, Nat.le_of_ble_eq_true rfl⟩ hN (hT0.keep hS hAs) hAs (Nat.le_trans hB0 hS.1) hK hP hD [0, 1] (by decide) rfl [0] rfl 0 4 rfl rfl rfl hl.1 rfl (Nat.le_of_ble_eq_true rfl) d_Reader_time_21) hS (fun q _ h => hFc q h) hFc (fun r21 u21 tS H21 locs ht hvm hw21 hB hz1 hk1 hS => ?_)
    obtain ⟨x21, rfl⟩ : ∃ z, z = u21 := ⟨_, rfl⟩
    obtain ⟨hP1, hK1, hD1⟩ := hB
    rw [ht] at hP1
    obtain ⟨hP, hD⟩ := va_join (wr := []) (w1 := [(h, .inr (4, [.ref res, .ref t, .int (nI x21.1), .int (nI x21.2.1), .int (wI x21.2.2), .int pa, .int ma, .int ex, .ref ki])), (t, .inl (cB, n, .inl (tx u)))]) hP hD [0, 1] [] rfl rfl (by decide) (by decide) hk1 hFc hP1 hD1
    have hP : va_P (dC, dI) classes [(h, .inr (4, [.ref res, .ref t, .int (nI x21.1), .int (nI x21.2.1), .int (wI x21.2.2), .int pa, .int ma, .int ex, .ref ki])), (t, .inl (cB, n, .inl (tx u)))] H21 := hP
    have hD : va_D A [(h, .inr (4, [.ref res, .ref t, .int (nI x21.1), .int (nI x21.2.1), .int (wI x21.2.2), .int pa, .int ma, .int ex, .ref ki])), (t, .inl (cB, n, .inl (tx u)))] := hD
    have hw21 : x21 = (rd_opn u n x (tgN (isLg u x en)) en).1 ∧ r21 = nI (rd_opn u n x (tgN (isLg u x en)) en).2 := hw21
    have hi21 := opn_inv (u := u) (tg := (tgN (isLg u x en))) hi he
    obtain ⟨o21, ho21⟩ : ∃ o, o = rd_opn u n x (tgN (isLg u x en)) en := ⟨_, rfl⟩
    rw [← ho21] at hw21 hi21
    obtain ⟨rfl, rfl⟩ := hw21
    have hP : va_P (dC, dI) classes [(h, .inr (4, [.ref res, .ref t, .int (nI o21.1.1), .int (nI o21.1.2.1), .int (wI o21.1.2.2), .int pa, .int ma, .int ex, .ref ki])), (t, .inl (cB, n, .inl (tx u)))] H21 := hP
    have hD : va_D A [(h, .inr (4, [.ref res, .ref t, .int (nI o21.1.1), .int (nI o21.1.2.1), .int (wI o21.1.2.2), .int pa, .int ma, .int ex, .ref ki])), (t, .inl (cB, n, .inl (tx u)))] := hD
    refine lv_istore_n (lv' := [(3, .int (nI o21.2)), (2, .int r4), (0, .ref h), (1, .int (nI en))]) hx hb d_Reader_time_24 rfl hl (by decide) rfl (fun ls hl => ?_)
    have hb1 := hi21.1.1
    have hb2 := hi21.2.1
    have hb3 := hi21.2.2.1
    have hyo := yoN_le (isLg u x en)
    refine lv_aload_n hx hb d_Reader_time_25 rfl (lv_at hl 2 rfl) ?_
    refine va_get (v := .int (nI o21.1.1)) hx hb htb i_CertificateReader hown hK hP 0 rfl rfl 2 (by decide) (htb _ q3_62) (fun _ h9 => h9) rfl d_Reader_time_26 ?_
    refine w_join (J := fun v => v = nI (yoN (isLg u x en))) (pc := 38) (ls := ls) (rest := [.int (nI o21.1.1)]) (fun v hv => ?_) (fun k38 => ?_)
    · skip
      subst hv
      refine lv_iadd hx hb d_Reader_time_38 ?_
      rw [show ((nI o21.1.1) + (nI (yoN (isLg u x en))) : Int32) = nI (o21.1.1 + yoN (isLg u x en)) from nI_add o21.1.1 (yoN (isLg u x en))]
      refine lv_istore (lv' := [(4, .int (nI (o21.1.1 + yoN (isLg u x en)))), (3, .int (nI o21.2)), (2, .int r4), (0, .ref h), (1, .int (nI en))]) hx hb d_Reader_time_39 hl (by decide) rfl (fun ls hl => ?_)
      refine w_join (J := fun v => v = yr0 u n o21.1.1 (isLg u x en)) (pc := 78) (ls := ls) (rest := []) (fun v hv => ?_) (fun k78 => ?_)
      · skip
        subst hv
        refine lv_istore (lv' := [(5, .int (yr0 u n o21.1.1 (isLg u x en))), (4, .int (nI (o21.1.1 + yoN (isLg u x en)))), (3, .int (nI o21.2)), (2, .int r4), (0, .ref h), (1, .int (nI en))]) hx hb d_Reader_time_78 hl (by decide) rfl (fun ls hl => ?_)
        refine w_joinA (α := Int32) (fun y => y = (yr1 u n o21.1.1 (isLg u x en))) (fun y => [(0, .ref h), (1, .int (nI en)), (2, .int r4), (3, .int (nI o21.2)), (4, .int (nI (o21.1.1 + yoN (isLg u x en)))), (5, .int y)]) (fun _ => []) 13 105 (fun y ls hy hl => ?_) (fun k105 => ?_)
        · subst hy
          refine lv_aload_n hx hb d_Reader_time_105 rfl (lv_at hl 0 rfl) ?_
          refine lv_iload hx hb d_Reader_time_106 (lv_at hl 4 rfl) ?_
          refine vp_callSi (pu_callU (As := [.int (nI (o21.1.1 + yoN (isLg u x en)))]) (rest := []) ⟨hx, hb, hml, hown, hts⟩ (cC_digits l dC dI sb h res t ki o21.1.1 o21.1.2.1 n o21.1.2.2 pa ma ex ie cB u (o21.1.1 + yoN (isLg u x en)) hu hn (by omega)) (cu_of (n := 1) hts tbin q3_239 q9_207 q4_1 qx_0 q1_15 q4_2 rfl (by decide +kernel) ⟨rfl, rfl⟩ ⟨Nat.le_of_ble_eq_true rfl, Nat.le_of_ble_eq_true rfl⟩) rfl ⟨Nat.le_of_ble_eq_true rfl, Nat.le_of_ble_eq_true rfl⟩ hN (hT0.keep hS hAs) hK hP [0, 1] rfl [0] rfl 0 4 rfl rfl rfl hl.1 rfl (Nat.le_of_ble_eq_true rfl) d_Reader_time_108) (fun r108 hr108 => ?_)
          rw [show (r108 : Int32) = dg u n (o21.1.1 + yoN (isLg u x en)) from hr108]
          refine lv_istore (lv' := [(6, .int (dg u n (o21.1.1 + yoN (isLg u x en)))), (0, .ref h), (1, .int (nI en)), (2, .int r4), (3, .int (nI o21.2)), (4, .int (nI (o21.1.1 + yoN (isLg u x en)))), (5, .int (yr1 u n o21.1.1 (isLg u x en)))]) hx hb d_Reader_time_111 hl (by decide) rfl (fun ls hl => ?_)
          refine lv_aload_n hx hb d_Reader_time_113 rfl (lv_at hl 1 rfl) ?_
          refine lv_iload hx hb d_Reader_time_114 (lv_at hl 5 rfl) ?_
          refine lv_iconst (v := 2) hx hb d_Reader_time_116 (by decide) ?_
          refine lv_iadd hx hb d_Reader_time_117 ?_
          rw [show ((nI (o21.1.1 + yoN (isLg u x en))) + 2 : Int32) = nI ((o21.1.1 + yoN (isLg u x en)) + 2) from nI_add (o21.1.1 + yoN (isLg u x en)) 2]
          refine vp_callSi (pu_callU (As := [.int (nI ((o21.1.1 + yoN (isLg u x en)) + 2))]) (rest := []) ⟨hx, hb, hml, hown, hts⟩ (cC_digits l dC dI sb h res t ki o21.1.1 o21.1.2.1 n o21.1.2.2 pa ma ex ie cB u ((o21.1.1 + yoN (isLg u x en)) + 2) hu hn (by omega)) (cu_of (n := 1) hts tbin q3_239 q9_207 q4_1 qx_0 q1_15 q4_2 rfl (by decide +kernel) ⟨rfl, rfl⟩ ⟨Nat.le_of_ble_eq_true rfl, Nat.le_of_ble_eq_true rfl⟩) rfl ⟨Nat.le_of_ble_eq_true rfl, Nat.le_of_ble_eq_true rfl⟩ hN (hT0.keep hS hAs) hK hP [0, 1] rfl [0] rfl 0 4 rfl rfl rfl hl.1 rfl (Nat.le_of_ble_eq_true rfl) d_Reader_time_118) (fun r118 hr118 => ?_)
          rw [show (r118 : Int32) = dg u n ((o21.1.1 + yoN (isLg u x en)) + 2) from hr118]
          refine lv_istore (lv' := [(7, .int (dg u n ((o21.1.1 + yoN (isLg u x en)) + 2))), (6, .int (dg u n (o21.1.1 + yoN (isLg u x en)))), (0, .ref h), (1, .int (nI en)), (2, .int r4), (3, .int (nI o21.2)), (4, .int (nI (o21.1.1 + yoN (isLg u x en)))), (5, .int (yr1 u n o21.1.1 (isLg u x en)))]) hx hb d_Reader_time_121 hl (by decide) rfl (fun ls hl => ?_)
          refine lv_aload_n hx hb d_Reader_time_123 rfl (lv_at hl 2 rfl) ?_
          refine lv_iload hx hb d_Reader_time_124 (lv_at hl 6 rfl) ?_
          refine lv_iconst (v := 4) hx hb d_Reader_time_126 (by decide) ?_
          refine lv_iadd hx hb d_Reader_time_127 ?_
          rw [show ((nI (o21.1.1 + yoN (isLg u x en))) + 4 : Int32) = nI ((o21.1.1 + yoN (isLg u x en)) + 4) from nI_add (o21.1.1 + yoN (isLg u x en)) 4]
          refine vp_callSi (pu_callU (As := [.int (nI ((o21.1.1 + yoN (isLg u x en)) + 4))]) (rest := []) ⟨hx, hb, hml, hown, hts⟩ (cC_digits l dC dI sb h res t ki o21.1.1 o21.1.2.1 n o21.1.2.2 pa ma ex ie cB u ((o21.1.1 + yoN (isLg u x en)) + 4) hu hn (by omega)) (cu_of (n := 1) hts tbin q3_239 q9_207 q4_1 qx_0 q1_15 q4_2 rfl (by decide +kernel) ⟨rfl, rfl⟩ ⟨Nat.le_of_ble_eq_true rfl, Nat.le_of_ble_eq_true rfl⟩) rfl ⟨Nat.le_of_ble_eq_true rfl, Nat.le_of_ble_eq_true rfl⟩ hN (hT0.keep hS hAs) hK hP [0, 1] rfl [0] rfl 0 4 rfl rfl rfl hl.1 rfl (Nat.le_of_ble_eq_true rfl) d_Reader_time_128) (fun r128 hr128 => ?_)
          rw [show (r128 : Int32) = dg u n ((o21.1.1 + yoN (isLg u x en)) + 4) from hr128]
          refine lv_istore (lv' := [(8, .int (dg u n ((o21.1.1 + yoN (isLg u x en)) + 4))), (7, .int (dg u n ((o21.1.1 + yoN (isLg u x en)) + 2))), (6, .int (dg u n (o21.1.1 + yoN (isLg u x en)))), (0, .ref h), (1, .int (nI en)), (2, .int r4), (3, .int (nI o21.2)), (4, .int (nI (o21.1.1 + yoN (isLg u x en)))), (5, .int (yr1 u n o21.1.1 (isLg u x en)))]) hx hb d_Reader_time_131 hl (by decide) rfl (fun ls hl => ?_)
          refine lv_aload_n hx hb d_Reader_time_133 rfl (lv_at hl 3 rfl) ?_
          refine lv_iload hx hb d_Reader_time_134 (lv_at hl 7 rfl) ?_
          refine lv_bipush (v := 6) hx hb d_Reader_time_136 (by decide) ?_
          refine lv_iadd hx hb d_Reader_time_138 ?_
          rw [show ((nI (o21.1.1 + yoN (isLg u x en))) + 6 : Int32) = nI ((o21.1.1 + yoN (isLg u x en)) + 6) from nI_add (o21.1.1 + yoN (isLg u x en)) 6]
          refine vp_callSi (pu_callU (As := [.int (nI ((o21.1.1 + yoN (isLg u x en)) + 6))]) (rest := []) ⟨hx, hb, hml, hown, hts⟩ (cC_digits l dC dI sb h res t ki o21.1.1 o21.1.2.1 n o21.1.2.2 pa ma ex ie cB u ((o21.1.1 + yoN (isLg u x en)) + 6) hu hn (by omega)) (cu_of (n := 1) hts tbin q3_239 q9_207 q4_1 qx_0 q1_15 q4_2 rfl (by decide +kernel) ⟨rfl, rfl⟩ ⟨Nat.le_of_ble_eq_true rfl, Nat.le_of_ble_eq_true rfl⟩) rfl ⟨Nat.le_of_ble_eq_true rfl, Nat.le_of_ble_eq_true rfl⟩ hN (hT0.keep hS hAs) hK hP [0, 1] rfl [0] rfl 0 4 rfl rfl rfl hl.1 rfl (Nat.le_of_ble_eq_true rfl) d_Reader_time_139) (fun r139 hr139 => ?_)
          rw [show (r139 : Int32) = dg u n ((o21.1.1 + yoN (isLg u x en)) + 6) from hr139]
          refine lv_istore (lv' := [(9, .int (dg u n ((o21.1.1 + yoN (isLg u x en)) + 6))), (8, .int (dg u n ((o21.1.1 + yoN (isLg u x en)) + 4))), (7, .int (dg u n ((o21.1.1 + yoN (isLg u x en)) + 2))), (6, .int (dg u n (o21.1.1 + yoN (isLg u x en)))), (0, .ref h), (1, .int (nI en)), (2, .int r4), (3, .int (nI o21.2)), (4, .int (nI (o21.1.1 + yoN (isLg u x en)))), (5, .int (yr1 u n o21.1.1 (isLg u x en)))]) hx hb d_Reader_time_142 hl (by decide) rfl (fun ls hl => ?_)
          refine lv_aload_n hx hb d_Reader_time_144 rfl (lv_at hl 4 rfl) ?_
          refine lv_iload hx hb d_Reader_time_145 (lv_at hl 8 rfl) ?_
          refine lv_bipush (v := 8) hx hb d_Reader_time_147 (by decide) ?_
          refine lv_iadd hx hb d_Reader_time_149 ?_
          rw [show ((nI (o21.1.1 + yoN (isLg u x en))) + 8 : Int32) = nI ((o21.1.1 + yoN (isLg u x en)) + 8) from nI_add (o21.1.1 + yoN (isLg u x en)) 8]
          refine vp_callSi (pu_callU (As := [.int (nI ((o21.1.1 + yoN (isLg u x en)) + 8))]) (rest := []) ⟨hx, hb, hml, hown, hts⟩ (cC_digits l dC dI sb h res t ki o21.1.1 o21.1.2.1 n o21.1.2.2 pa ma ex ie cB u ((o21.1.1 + yoN (isLg u x en)) + 8) hu hn (by omega)) (cu_of (n := 1) hts tbin q3_239 q9_207 q4_1 qx_0 q1_15 q4_2 rfl (by decide +kernel) ⟨rfl, rfl⟩ ⟨Nat.le_of_ble_eq_true rfl, Nat.le_of_ble_eq_true rfl⟩) rfl ⟨Nat.le_of_ble_eq_true rfl, Nat.le_of_ble_eq_true rfl⟩ hN (hT0.keep hS hAs) hK hP [0, 1] rfl [0] rfl 0 4 rfl rfl rfl hl.1 rfl (Nat.le_of_ble_eq_true rfl) d_Reader_time_150) (fun r150 hr150 => ?_)
          rw [show (r150 : Int32) = dg u n ((o21.1.1 + yoN (isLg u x en)) + 8) from hr150]
          refine lv_istore (lv' := [(10, .int (dg u n ((o21.1.1 + yoN (isLg u x en)) + 8))), (9, .int (dg u n ((o21.1.1 + yoN (isLg u x en)) + 6))), (8, .int (dg u n ((o21.1.1 + yoN (isLg u x en)) + 4))), (7, .int (dg u n ((o21.1.1 + yoN (isLg u x en)) + 2))), (6, .int (dg u n (o21.1.1 + yoN (isLg u x en)))), (0, .ref h), (1, .int (nI en)), (2, .int r4), (3, .int (nI o21.2)), (4, .int (nI (o21.1.1 + yoN (isLg u x en)))), (5, .int (yr1 u n o21.1.1 (isLg u x en)))]) hx hb d_Reader_time_153 hl (by decide) rfl (fun ls hl => ?_)
          refine w_join (J := fun v => bz v (tmW u n o21.1.1 (o21.1.1 + yoN (isLg u x en)) o21.2)) (pc := 195) (ls := ls) (rest := []) (fun v hv => ?_) (fun k195 => ?_)
          · skip
            refine lv_istore (lv' := [(11, .int v), (10, .int (dg u n ((o21.1.1 + yoN (isLg u x en)) + 8))), (9, .int (dg u n ((o21.1.1 + yoN (isLg u x en)) + 6))), (8, .int (dg u n ((o21.1.1 + yoN (isLg u x en)) + 4))), (7, .int (dg u n ((o21.1.1 + yoN (isLg u x en)) + 2))), (6, .int (dg u n (o21.1.1 + yoN (isLg u x en)))), (0, .ref h), (1, .int (nI en)), (2, .int r4), (3, .int (nI o21.2)), (4, .int (nI (o21.1.1 + yoN (isLg u x en)))), (5, .int (yr1 u n o21.1.1 (isLg u x en)))]) hx hb d_Reader_time_195 hl (by decide) rfl (fun ls hl => ?_)
            refine w_join (J := fun v' => bz v' (tmD u n (o21.1.1 + yoN (isLg u x en)))) (pc := 223) (ls := ls) (rest := []) (fun v' hv' => ?_) (fun k223 => ?_)
            · skip
              refine lv_istore (lv' := [(12, .int v'), (11, .int v), (10, .int (dg u n ((o21.1.1 + yoN (isLg u x en)) + 8))), (9, .int (dg u n ((o21.1.1 + yoN (isLg u x en)) + 6))), (8, .int (dg u n ((o21.1.1 + yoN (isLg u x en)) + 4))), (7, .int (dg u n ((o21.1.1 + yoN (isLg u x en)) + 2))), (6, .int (dg u n (o21.1.1 + yoN (isLg u x en)))), (0, .ref h), (1, .int (nI en)), (2, .int r4), (3, .int (nI o21.2)), (4, .int (nI (o21.1.1 + yoN (isLg u x en)))), (5, .int (yr1 u n o21.1.1 (isLg u x en)))]) hx hb d_Reader_time_223 hl (by decide) rfl (fun ls hl => ?_)
              refine lv_aload_n hx hb d_Reader_time_225 rfl (lv_at hl 7 rfl) ?_
              refine lv_iload_n hx hb d_Reader_time_226 rfl (lv_at hl 10 rfl) ?_
              refine w_join (J := fun v'' => bz v'' (tmOK u n o21.1.1 o21.2 (isLg u x en))) (pc := 266) (ls := ls) (rest := [.int (nI o21.2), .ref h]) (fun v'' hv'' => ?_) (fun k266 => ?_)
              · skip
                have hFc := va_free (wc := [(h, .inr (4, [.ref res, .ref t, .int (nI o21.1.1), .int (nI o21.1.2.1), .int (wI o21.1.2.2), .int pa, .int ma, .int ex, .ref ki]))]) hD hS hA [0] rfl
                refine va_callv (mu_runU (As := [.int (nI o21.2), .int v'']) (rest := []) ⟨hx, hb, hml, hown, hts⟩ (cC_leave l dC dI sb h res t ki o21.1.1 o21.1.2.1 n o21.1.2.2 pa ma ex ie cB u o21.2 v'' H21.size ((hi21.1).w hn)) (cu_of (n := 2) hts tbin q3_131 q3_133 q3_132 q3_134 q1_15 q3_136 rfl (by decide +kernel) ⟨rfl, rfl⟩ ⟨Nat.le_of_ble_eq_true rfl, Nat.le_of_ble_eq_true rfl⟩) rfl ⟨Nat.le_of_ble_eq_true rfl, Nat.le_of_ble_eq_true rfl⟩ hN (hT0.keep hS hAs) hAs (Nat.le_trans hB0 hS.1) hK hP hD [0] (by decide) rfl [] rfl 0 4 rfl rfl rfl hl.1 rfl (Nat.le_of_ble_eq_true rfl) d_Reader_time_266) hS (fun q _ h => hFc q h) hFc (fun u266 tS H266 locs ht hvm hw266 hB hz1 hk1 hS => ?_)
                obtain ⟨x266, rfl⟩ : ∃ z, z = u266 := ⟨_, rfl⟩
                obtain ⟨hP1, hK1, hD1⟩ := hB
                rw [ht] at hP1
                obtain ⟨hP, hD⟩ := va_join (wr := [(t, .inl (cB, n, .inl (tx u)))]) (w1 := [(h, .inr (4, [.ref res, .ref t, .int (nI x266.1), .int (nI x266.2.1), .int (wI x266.2.2), .int pa, .int ma, .int ex, .ref ki]))]) hP hD [0] [1] rfl rfl (by decide) (by decide) hk1 hFc hP1 hD1
                have hP : va_P (dC, dI) classes [(t, .inl (cB, n, .inl (tx u))), (h, .inr (4, [.ref res, .ref t, .int (nI x266.1), .int (nI x266.2.1), .int (wI x266.2.2), .int pa, .int ma, .int ex, .ref ki]))] H266 := hP
                have hD : va_D A [(t, .inl (cB, n, .inl (tx u))), (h, .inr (4, [.ref res, .ref t, .int (nI x266.1), .int (nI x266.2.1), .int (wI x266.2.2), .int pa, .int ma, .int ex, .ref ki]))] := hD
                have hw266 : x266 = rd_lea o21.1 o21.2 v'' := hw266
                have hi266 : rdInv n x266 := by rw [hw266]; exact lea_inv hi21.1 hi21.2.2.1
                refine lv_iload hx hb d_Reader_time_269 (lv_at hl 12 rfl) ?_
                refine lv_iload hx hb d_Reader_time_271 (lv_at hl 6 rfl) ?_
                refine lv_iload hx hb d_Reader_time_273 (lv_at hl 5 rfl) ?_
                refine vp_callSl (pu_callS (As := [.int (yr1 u n o21.1.1 (isLg u x en)), .int (dg u n (o21.1.1 + yoN (isLg u x en))), .int (dg u n ((o21.1.1 + yoN (isLg u x en)) + 2))]) (rest := []) ⟨hx, hb, hml, hown, hts⟩ tbin (c_daysTo l dC dI sb (yr1 u n o21.1.1 (isLg u x en)) (dg u n (o21.1.1 + yoN (isLg u x en))) (dg u n ((o21.1.1 + yoN (isLg u x en)) + 2))) q4_15 q4_16 q1_15 q4_17 (n := 3) (by decide +kernel) rfl ⟨rfl, rfl⟩ ⟨Nat.le_of_ble_eq_true rfl, Nat.le_of_ble_eq_true rfl⟩ ⟨Nat.le_of_ble_eq_true rfl, Nat.le_of_ble_eq_true rfl⟩ hN (hT0.keep hS hAs) hK hP [] rfl [] rfl hl.1 rfl (Nat.le_of_ble_eq_true rfl) d_Reader_time_275) (fun r275 hr275 => ?_)
                rw [show (r275 : Int64) = dtI (yr1 u n o21.1.1 (isLg u x en)) (dg u n (o21.1.1 + yoN (isLg u x en))) (dg u n ((o21.1.1 + yoN (isLg u x en)) + 2)) from hr275]
                refine lv_ldc2 (v := 24) hx hb hown (htb _ q4_20) d_Reader_time_278 ?_
                refine lv_lmul hx hb d_Reader_time_281 ?_
                refine lv_iload hx hb d_Reader_time_282 (lv_at hl 4 rfl) ?_
                refine lv_i2l (v := (dg u n ((o21.1.1 + yoN (isLg u x en)) + 4)).toInt64) hx hb d_Reader_time_284 rfl ?_
                refine lv_ladd hx hb d_Reader_time_285 ?_
                refine lv_ldc2 (v := 60) hx hb hown (htb _ q4_21) d_Reader_time_286 ?_
                refine lv_lmul hx hb d_Reader_time_289 ?_
                refine lv_iload hx hb d_Reader_time_290 (lv_at hl 3 rfl) ?_
                refine lv_i2l (v := (dg u n ((o21.1.1 + yoN (isLg u x en)) + 6)).toInt64) hx hb d_Reader_time_292 rfl ?_
                refine lv_ladd hx hb d_Reader_time_293 ?_
                refine lv_ldc2 (v := 60) hx hb hown (htb _ q4_21) d_Reader_time_294 ?_
                refine lv_lmul hx hb d_Reader_time_297 ?_
                refine lv_iload hx hb d_Reader_time_298 (lv_at hl 2 rfl) ?_
                refine lv_i2l (v := (dg u n ((o21.1.1 + yoN (isLg u x en)) + 8)).toInt64) hx hb d_Reader_time_300 rfl ?_
                refine lv_ladd hx hb d_Reader_time_301 ?_
                exact W.lret (v := ((((((dtI (yr1 u n o21.1.1 (isLg u x en)) (dg u n (o21.1.1 + yoN (isLg u x en))) (dg u n ((o21.1.1 + yoN (isLg u x en)) + 2))) * 24) + ((dg u n ((o21.1.1 + yoN (isLg u x en)) + 4)).toInt64)) * 60) + ((dg u n ((o21.1.1 + yoN (isLg u x en)) + 6)).toInt64)) * 60) + ((dg u n ((o21.1.1 + yoN (isLg u x en)) + 8)).toInt64)) hx hb hr (fun t ht hW => ⟨⟨_, x266, rfl, ⟨hw266.trans (by rw [bz_zP hv'', ho21]; rfl), by rw [ho21]; rfl⟩, by rw [ht]; exact hP.sub [1, 0] rfl, va_K.moved hW.alike hK, hD.sub [1, 0] (by decide) rfl⟩, hS.F ht⟩) hS.2.2 d_Reader_time_302
              · skip
                refine lv_iload hx hb d_Reader_time_227 (lv_at hl 1 rfl) ?_
                refine lv_if_eq (tgt := 265) hx hb d_Reader_time_229 (by decide) (fun c229 => ?_) (fun c229 => ?_)
                · refine lv_iconst (v := 0) hx hb d_Reader_time_265 (by decide) ?_
                  exact k266 _ (bz_f (fun q => bz_0 hv c229 q.1))
                · refine lv_iload hx hb d_Reader_time_232 (lv_at hl 0 rfl) ?_
                  refine lv_if_eq (tgt := 265) hx hb d_Reader_time_234 (by decide) (fun c234 => ?_) (fun c234 => ?_)
                  · refine lv_iconst (v := 0) hx hb d_Reader_time_265 (by decide) ?_
                    exact k266 _ (bz_f (fun q => bz_0 hv' c234 q.2.1))
                  · refine lv_iload hx hb d_Reader_time_237 (lv_at hl 12 rfl) ?_
                    refine lv_iload hx hb d_Reader_time_239 (lv_at hl 6 rfl) ?_
                    refine lv_iload hx hb d_Reader_time_241 (lv_at hl 5 rfl) ?_
                    refine vp_callSi (pu_callS (As := [.int (yr1 u n o21.1.1 (isLg u x en)), .int (dg u n (o21.1.1 + yoN (isLg u x en))), .int (dg u n ((o21.1.1 + yoN (isLg u x en)) + 2))]) (rest := [.int (nI o21.2), .ref h]) ⟨hx, hb, hml, hown, hts⟩ tbin (c_isDay l dC dI sb (yr1 u n o21.1.1 (isLg u x en)) (dg u n (o21.1.1 + yoN (isLg u x en))) (dg u n ((o21.1.1 + yoN (isLg u x en)) + 2))) q4_7 q4_8 q1_15 q4_9 (n := 3) (by decide +kernel) rfl ⟨rfl, rfl⟩ ⟨Nat.le_of_ble_eq_true rfl, Nat.le_of_ble_eq_true rfl⟩ ⟨Nat.le_of_ble_eq_true rfl, Nat.le_of_ble_eq_true rfl⟩ hN (hT0.keep hS hAs) hK hP [] rfl [] rfl hl.1 rfl (Nat.le_of_ble_eq_true rfl) d_Reader_time_243) (fun r243 hr243 => ?_)
                    refine lv_if_eq (tgt := 265) hx hb d_Reader_time_246 (by decide) (fun c246 => ?_) (fun c246 => ?_)
                    · refine lv_iconst (v := 0) hx hb d_Reader_time_265 (by decide) ?_
                      exact k266 _ (bz_f (fun q => bz_0 hr243 c246 q.2.2.1))
                    · refine lv_iload_n hx hb d_Reader_time_249 rfl (lv_at hl 9 rfl) ?_
                      refine lv_if_eq (tgt := 261) hx hb d_Reader_time_250 (by decide) (fun c250 => ?_) (fun c250 => ?_)
                      · refine lv_iconst (v := 1) hx hb d_Reader_time_261 (by decide) ?_
                        refine lv_goto (tgt := 266) hx hb d_Reader_time_262 (by decide) ?_
                        exact k266 _ (bz_t ⟨bz_1 hv c229, bz_1 hv' c234, bz_1 hr243 c246, Or.inl (bz_0 hr4 c250)⟩)
                      · refine lv_iload hx hb d_Reader_time_253 (lv_at hl 12 rfl) ?_
                        refine lv_sipush (v := 2050) hx hb d_Reader_time_255 (by decide) ?_
                        refine lv_icmp_lt (tgt := 265) hx hb d_Reader_time_258 (by decide) (fun c258 => ?_) (fun c258 => ?_)
                        · refine lv_iconst (v := 0) hx hb d_Reader_time_265 (by decide) ?_
                          exact k266 _ (bz_f (fun q => q.2.2.2.elim (fun z => z (bz_1 hr4 c250)) (fun z => z c258)))
                        · refine lv_iconst (v := 1) hx hb d_Reader_time_261 (by decide) ?_
                          refine lv_goto (tgt := 266) hx hb d_Reader_time_262 (by decide) ?_
                          exact k266 _ (bz_t ⟨bz_1 hv c229, bz_1 hv' c234, bz_1 hr243 c246, Or.inr c258⟩)
            · skip
              refine lv_iload hx hb d_Reader_time_197 (lv_at hl 3 rfl) ?_
              refine lv_bipush (v := 24) hx hb d_Reader_time_199 (by decide) ?_
              refine lv_icmp_ge (tgt := 222) hx hb d_Reader_time_201 (by decide) (fun c201 => ?_) (fun c201 => ?_)
              · refine lv_iconst (v := 0) hx hb d_Reader_time_222 (by decide) ?_
                exact k223 _ (bz_f (fun q => q.1 c201))
              · refine lv_iload hx hb d_Reader_time_204 (lv_at hl 2 rfl) ?_
                refine lv_bipush (v := 60) hx hb d_Reader_time_206 (by decide) ?_
                refine lv_icmp_ge (tgt := 222) hx hb d_Reader_time_208 (by decide) (fun c208 => ?_) (fun c208 => ?_)
                · refine lv_iconst (v := 0) hx hb d_Reader_time_222 (by decide) ?_
                  exact k223 _ (bz_f (fun q => q.2.1 c208))
                · refine lv_iload hx hb d_Reader_time_211 (lv_at hl 1 rfl) ?_
                  refine lv_bipush (v := 60) hx hb d_Reader_time_213 (by decide) ?_
                  refine lv_icmp_ge (tgt := 222) hx hb d_Reader_time_215 (by decide) (fun c215 => ?_) (fun c215 => ?_)
                  · refine lv_iconst (v := 0) hx hb d_Reader_time_222 (by decide) ?_
                    exact k223 _ (bz_f (fun q => q.2.2 c215))
                  · refine lv_iconst (v := 1) hx hb d_Reader_time_218 (by decide) ?_
                    refine lv_goto (tgt := 223) hx hb d_Reader_time_219 (by decide) ?_
                    exact k223 _ (bz_t ⟨c201, c208, c215⟩)
          · skip
            refine lv_iload_n hx hb d_Reader_time_155 rfl (lv_at hl 8 rfl) ?_
            refine lv_iload hx hb d_Reader_time_156 (lv_at hl 9 rfl) ?_
            refine lv_bipush (v := 11) hx hb d_Reader_time_158 (by decide) ?_
            refine lv_iadd hx hb d_Reader_time_160 ?_
            rw [show ((nI (o21.1.1 + yoN (isLg u x en))) + 11 : Int32) = nI ((o21.1.1 + yoN (isLg u x en)) + 11) from nI_add (o21.1.1 + yoN (isLg u x en)) 11]
            refine lv_icmp_ne (tgt := 194) hx hb d_Reader_time_161 (by decide) (fun c161 => ?_) (fun c161 => ?_)
            · refine lv_iconst (v := 0) hx hb d_Reader_time_194 (by decide) ?_
              exact k195 _ (bz_f (fun q => c161 (by rw [q.1])))
            · have h11 : o21.2 = (o21.1.1 + yoN (isLg u x en)) + 11 := by rw [nI_eq (by omega) (by omega)] at c161; exact c161
              refine lv_aload_n hx hb d_Reader_time_164 rfl (lv_at hl 5 rfl) ?_
              refine lv_aload_n hx hb d_Reader_time_165 rfl (lv_at hl 5 rfl) ?_
              refine va_get (v := .int (nI o21.1.1)) hx hb htb i_CertificateReader hown hK hP 0 rfl rfl 2 (by decide) (htb _ q3_62) (fun _ h9 => h9) rfl d_Reader_time_166 ?_
              refine lv_iload_n hx hb d_Reader_time_169 rfl (lv_at hl 8 rfl) ?_
              refine lv_iconst (v := 1) hx hb d_Reader_time_170 (by decide) ?_
              refine lv_isub hx hb d_Reader_time_171 ?_
              rw [show ((nI o21.2) - 1 : Int32) = nI (o21.2 - 1) from pk_sub (a := o21.2) (b := 1) (by omega)]
              refine vp_callSi (pu_callU (As := [.int (nI o21.1.1), .int (nI (o21.2 - 1))]) (rest := []) ⟨hx, hb, hml, hown, hts⟩ (cC_areDigits l dC dI sb h res t ki o21.1.1 o21.1.2.1 n o21.1.2.2 pa ma ex ie cB u o21.1.1 (o21.2 - 1) hu hn (by omega) (by omega)) (cu_of (n := 2) hts tbin q4_3 q9_208 q4_5 qx_1 q1_15 q4_6 rfl (by decide +kernel) ⟨rfl, rfl⟩ ⟨Nat.le_of_ble_eq_true rfl, Nat.le_of_ble_eq_true rfl⟩) rfl ⟨Nat.le_of_ble_eq_true rfl, Nat.le_of_ble_eq_true rfl⟩ hN (hT0.keep hS hAs) hK hP [0, 1] rfl [0] rfl 0 4 rfl rfl rfl hl.1 rfl (Nat.le_of_ble_eq_true rfl) d_Reader_time_172) (fun r172 hr172 => ?_)
              refine lv_if_eq (tgt := 194) hx hb d_Reader_time_175 (by decide) (fun c175 => ?_) (fun c175 => ?_)
              · refine lv_iconst (v := 0) hx hb d_Reader_time_194 (by decide) ?_
                exact k195 _ (bz_f (fun q => bz_0 hr172 c175 q.2.1))
              · refine lv_aload_n hx hb d_Reader_time_178 rfl (lv_at hl 5 rfl) ?_
                refine lv_iload_n hx hb d_Reader_time_179 rfl (lv_at hl 8 rfl) ?_
                refine lv_iconst (v := 1) hx hb d_Reader_time_180 (by decide) ?_
                refine lv_isub hx hb d_Reader_time_181 ?_
                rw [show ((nI o21.2) - 1 : Int32) = nI (o21.2 - 1) from pk_sub (a := o21.2) (b := 1) (by omega)]
                refine vp_callSi (pu_callU (As := [.int (nI (o21.2 - 1))]) (rest := []) ⟨hx, hb, hml, hown, hts⟩ (cC_octet l dC dI sb h res t ki o21.1.1 o21.1.2.1 n o21.1.2.2 pa ma ex ie cB u (nI (o21.2 - 1)) hu hn) (cu_of (n := 1) hts tbin q3_114 q3_116 q3_115 q3_117 q1_15 q3_119 rfl (by decide +kernel) ⟨rfl, rfl⟩ ⟨Nat.le_of_ble_eq_true rfl, Nat.le_of_ble_eq_true rfl⟩) rfl ⟨Nat.le_of_ble_eq_true rfl, Nat.le_of_ble_eq_true rfl⟩ hN (hT0.keep hS hAs) hK hP [0, 1] rfl [0] rfl 0 4 rfl rfl rfl hl.1 rfl (Nat.le_of_ble_eq_true rfl) d_Reader_time_182) (fun r182 hr182 => ?_)
                rw [oc_eq (by omega)] at hr182
                refine lv_bipush (v := 90) hx hb d_Reader_time_185 (by decide) ?_
                refine lv_icmp_ne (tgt := 194) hx hb d_Reader_time_187 (by decide) (fun c187 => ?_) (fun c187 => ?_)
                · refine lv_iconst (v := 0) hx hb d_Reader_time_194 (by decide) ?_
                  exact k195 _ (bz_f (fun q => c187 (by rw [hr182]; exact q.2.2)))
                · refine lv_iconst (v := 1) hx hb d_Reader_time_190 (by decide) ?_
                  refine lv_goto (tgt := 195) hx hb d_Reader_time_191 (by decide) ?_
                  exact k195 _ (bz_t ⟨h11, bz_1 hr172 c175, by rw [← hr182]; exact c187⟩)
        · skip
          refine lv_iload_n hx hb d_Reader_time_80 rfl (lv_at hl 3 rfl) ?_
          refine lv_if_ne (tgt := 105) hx hb d_Reader_time_81 (by decide) (fun c81 => ?_) (fun c81 => ?_)
          · exact k105 (yr0 u n o21.1.1 (isLg u x en)) ls (by rw [yr1, if_pos (bz_1 hr4 c81)]) (lv_sub hl [4, 5, 3, 2, 1, 0] rfl)
          · refine lv_iload hx hb d_Reader_time_84 (lv_at hl 0 rfl) ?_
            refine lv_iload hx hb d_Reader_time_86 (lv_at hl 0 rfl) ?_
            refine lv_bipush (v := 50) hx hb d_Reader_time_88 (by decide) ?_
            refine lv_icmp_lt (tgt := 99) hx hb d_Reader_time_90 (by decide) (fun c90 => ?_) (fun c90 => ?_)
            · refine lv_sipush (v := 2000) hx hb d_Reader_time_99 (by decide) ?_
              refine lv_iadd hx hb d_Reader_time_102 ?_
              refine lv_istore (lv' := [(5, .int ((yr0 u n o21.1.1 (isLg u x en)) + 2000)), (4, .int (nI (o21.1.1 + yoN (isLg u x en)))), (3, .int (nI o21.2)), (2, .int r4), (0, .ref h), (1, .int (nI en))]) hx hb d_Reader_time_103 hl (by decide) rfl (fun ls hl => ?_)
              exact k105 ((yr0 u n o21.1.1 (isLg u x en)) + 2000) ls (by rw [yr1, if_neg (bz_0 hr4 c81), if_neg (Int32.not_le.mpr c90)]) (lv_sub hl [4, 5, 3, 2, 1, 0] rfl)
            · refine lv_sipush (v := 1900) hx hb d_Reader_time_93 (by decide) ?_
              refine lv_goto (tgt := 102) hx hb d_Reader_time_96 (by decide) ?_
              refine lv_iadd hx hb d_Reader_time_102 ?_
              refine lv_istore (lv' := [(5, .int ((yr0 u n o21.1.1 (isLg u x en)) + 1900)), (4, .int (nI (o21.1.1 + yoN (isLg u x en)))), (3, .int (nI o21.2)), (2, .int r4), (0, .ref h), (1, .int (nI en))]) hx hb d_Reader_time_103 hl (by decide) rfl (fun ls hl => ?_)
              exact k105 ((yr0 u n o21.1.1 (isLg u x en)) + 1900) ls (by rw [yr1, if_neg (bz_0 hr4 c81), if_pos (Int32.not_lt.mp c90)]) (lv_sub hl [4, 5, 3, 2, 1, 0] rfl)
      · skip
        refine lv_iload_n hx hb d_Reader_time_41 rfl (lv_at hl 2 rfl) ?_
        refine lv_if_eq (tgt := 70) hx hb d_Reader_time_42 (by decide) (fun c42 => ?_) (fun c42 => ?_)
        · refine lv_aload_n hx hb d_Reader_time_70 rfl (lv_at hl 3 rfl) ?_
          refine lv_aload_n hx hb d_Reader_time_71 rfl (lv_at hl 3 rfl) ?_
          refine va_get (v := .int (nI o21.1.1)) hx hb htb i_CertificateReader hown hK hP 0 rfl rfl 2 (by decide) (htb _ q3_62) (fun _ h9 => h9) rfl d_Reader_time_72 ?_
          refine vp_callSi (pu_callU (As := [.int (nI o21.1.1)]) (rest := []) ⟨hx, hb, hml, hown, hts⟩ (cC_digits l dC dI sb h res t ki o21.1.1 o21.1.2.1 n o21.1.2.2 pa ma ex ie cB u o21.1.1 hu hn (by omega)) (cu_of (n := 1) hts tbin q3_239 q9_207 q4_1 qx_0 q1_15 q4_2 rfl (by decide +kernel) ⟨rfl, rfl⟩ ⟨Nat.le_of_ble_eq_true rfl, Nat.le_of_ble_eq_true rfl⟩) rfl ⟨Nat.le_of_ble_eq_true rfl, Nat.le_of_ble_eq_true rfl⟩ hN (hT0.keep hS hAs) hK hP [0, 1] rfl [0] rfl 0 4 rfl rfl rfl hl.1 rfl (Nat.le_of_ble_eq_true rfl) d_Reader_time_75) (fun r75 hr75 => ?_)
          exact k78 _ (by rw [hr75, yr0, if_neg (bz_0 hr4 c42)])
        · refine lv_aload_n hx hb d_Reader_time_45 rfl (lv_at hl 3 rfl) ?_
          refine lv_aload_n hx hb d_Reader_time_46 rfl (lv_at hl 3 rfl) ?_
          refine va_get (v := .int (nI o21.1.1)) hx hb htb i_CertificateReader hown hK hP 0 rfl rfl 2 (by decide) (htb _ q3_62) (fun _ h9 => h9) rfl d_Reader_time_47 ?_
          refine vp_callSi (pu_callU (As := [.int (nI o21.1.1)]) (rest := []) ⟨hx, hb, hml, hown, hts⟩ (cC_digits l dC dI sb h res t ki o21.1.1 o21.1.2.1 n o21.1.2.2 pa ma ex ie cB u o21.1.1 hu hn (by omega)) (cu_of (n := 1) hts tbin q3_239 q9_207 q4_1 qx_0 q1_15 q4_2 rfl (by decide +kernel) ⟨rfl, rfl⟩ ⟨Nat.le_of_ble_eq_true rfl, Nat.le_of_ble_eq_true rfl⟩) rfl ⟨Nat.le_of_ble_eq_true rfl, Nat.le_of_ble_eq_true rfl⟩ hN (hT0.keep hS hAs) hK hP [0, 1] rfl [0] rfl 0 4 rfl rfl rfl hl.1 rfl (Nat.le_of_ble_eq_true rfl) d_Reader_time_50) (fun r50 hr50 => ?_)
          refine lv_bipush (v := 100) hx hb d_Reader_time_53 (by decide) ?_
          refine lv_imul hx hb d_Reader_time_55 ?_
          refine lv_aload_n hx hb d_Reader_time_56 rfl (lv_at hl 3 rfl) ?_
          refine lv_aload_n hx hb d_Reader_time_57 rfl (lv_at hl 3 rfl) ?_
          refine va_get (v := .int (nI o21.1.1)) hx hb htb i_CertificateReader hown hK hP 0 rfl rfl 2 (by decide) (htb _ q3_62) (fun _ h9 => h9) rfl d_Reader_time_58 ?_
          refine lv_iconst (v := 2) hx hb d_Reader_time_61 (by decide) ?_
          refine lv_iadd hx hb d_Reader_time_62 ?_
          rw [show ((nI o21.1.1) + 2 : Int32) = nI (o21.1.1 + 2) from nI_add o21.1.1 2]
          refine vp_callSi (pu_callU (As := [.int (nI (o21.1.1 + 2))]) (rest := [.int (r50 * 100)]) ⟨hx, hb, hml, hown, hts⟩ (cC_digits l dC dI sb h res t ki o21.1.1 o21.1.2.1 n o21.1.2.2 pa ma ex ie cB u (o21.1.1 + 2) hu hn (by omega)) (cu_of (n := 1) hts tbin q3_239 q9_207 q4_1 qx_0 q1_15 q4_2 rfl (by decide +kernel) ⟨rfl, rfl⟩ ⟨Nat.le_of_ble_eq_true rfl, Nat.le_of_ble_eq_true rfl⟩) rfl ⟨Nat.le_of_ble_eq_true rfl, Nat.le_of_ble_eq_true rfl⟩ hN (hT0.keep hS hAs) hK hP [0, 1] rfl [0] rfl 0 4 rfl rfl rfl hl.1 rfl (Nat.le_of_ble_eq_true rfl) d_Reader_time_63) (fun r63 hr63 => ?_)
          refine lv_iadd hx hb d_Reader_time_66 ?_
          refine lv_goto (tgt := 78) hx hb d_Reader_time_67 (by decide) ?_
          exact k78 _ (by rw [hr50, hr63, yr0, if_pos (bz_1 hr4 c42)])
    · skip
      refine lv_iload_n hx hb d_Reader_time_29 rfl (lv_at hl 1 rfl) ?_
      refine lv_if_eq (tgt := 37) hx hb d_Reader_time_30 (by decide) (fun c30 => ?_) (fun c30 => ?_)
      · refine lv_iconst (v := 2) hx hb d_Reader_time_37 (by decide) ?_
        exact k38 _ (by rw [yoN, if_neg (bz_0 hr4 c30)]; rfl)
      · refine lv_iconst (v := 4) hx hb d_Reader_time_33 (by decide) ?_
        refine lv_goto (tgt := 38) hx hb d_Reader_time_34 (by decide) ?_
        exact k38 _ (by rw [yoN, if_pos (bz_1 hr4 c30)]; rfl)
  · skip
    refine lv_iload_n hx hb d_Reader_time_9 rfl (lv_at hl 0 rfl) ?_
    refine lv_if_eq (tgt := 18) hx hb d_Reader_time_10 (by decide) (fun c10 => ?_) (fun c10 => ?_)
    · refine lv_bipush (v := 23) hx hb d_Reader_time_18 (by decide) ?_
      exact k20 _ (by rw [tgN, if_neg (bz_0 hr4 c10)]; rfl)
    · refine lv_bipush (v := 24) hx hb d_Reader_time_13 (by decide) ?_
      refine lv_goto (tgt := 20) hx hb d_Reader_time_15 (by decide) ?_
      exact k20 _ (by rw [tgN, if_pos (bz_1 hr4 c10)]; rfl)
set_option maxHeartbeats 4000000 in
set_option maxRecDepth 100000 in
theorem cL_time (l : Launch) (dC : Nat → ClassId) (dI : Nat → Nat → Nat) (sb : sB) (h res t ki n : Nat) (x : rS) (pa ma ex ie : Int32) (cB : ClassId) (u : Nat → Nat) (en : Nat) (sz : Nat) (hu : ∀ j, u j < 256) (hn : n < 2 ^ 30) (hi : rdInv n x) (he : en ≤ n) : Met l y_Reader_time w_Reader_time ({ frames := 2, cells := 0, slots := 0, locals := 46 }) (mu_P [.ref h, .int (nI en)] (dC, dI) sb [(h, .inr (5, [.ref res, .int ie, .ref t, .int (nI x.1), .int (nI x.2.1), .int (wI x.2.2), .int pa, .int ma, .int ex, .ref ki])), (t, .inl (cB, n, .inl (tx u)))] [(cB, .byte)] sz) (va_Ql (fun r (u' : rS) => u' = (rd_time u n x en).1 ∧ r = (rd_time u n x en).2) (mu_B (dC, dI) [(cB, .byte)] (va_A [(h, .inr (5, [.ref res, .int ie, .ref t, .int (nI x.1), .int (nI x.2.1), .int (wI x.2.2), .int pa, .int ma, .int ex, .ref ki])), (t, .inl (cB, n, .inl (tx u)))] sz) (fun u' : rS => [(h, .inr (5, [.ref res, .int ie, .ref t, .int (nI u'.1), .int (nI u'.2.1), .int (wI u'.2.2), .int pa, .int ma, .int ex, .ref ki])), (t, .inl (cB, n, .inl (tx u)))])) (va_A [(h, .inr (5, [.ref res, .int ie, .ref t, .int (nI x.1), .int (nI x.2.1), .int (wI x.2.2), .int pa, .int ma, .int ex, .ref ki])), (t, .inl (cB, n, .inl (tx u)))] sz)) 0 0 (va_A [(h, .inr (5, [.ref res, .int ie, .ref t, .int (nI x.1), .int (nI x.2.1), .int (wI x.2.2), .int pa, .int ma, .int ex, .ref ki])), (t, .inl (cB, n, .inl (tx u)))] sz) := by
  refine Met.ofW (cc := b_Reader_time) (maxL := 13) (ret := (some FieldType.long)) (by decide) rfl ?_
  intro p e s m args below meth c s₁ B hml hv
  obtain ⟨rfl, hsz, hB0, hP, hK, hD0, hN, hT0⟩ := hv
  have hx := B.exec
  have hb := B.bytes
  have hr := B.returns
  have hts := atoms_spec (ws := w_Reader_time) B.pre
  have tbin : ∀ w ∈ tb, w ∈ w_Reader_time := fun w h => List.mem_cons_of_mem _ h
  have htb : ∀ w ∈ tb, w.before _ s = true := fun w h => hts w (tbin w h)
  have hown : s.vm.findClass "TrustChain$Reader" = some m.cls := findClass_of_methodNamed B.named
  have hlocks := B.notSynchronized
  subst hsz
  have hD := hD0.self (sz := s.heap.size)
  generalize hAe : va_A [(h, .inr (5, [.ref res, .int ie, .ref t, .int (nI x.1), .int (nI x.2.1), .int (wI x.2.2), .int pa, .int ma, .int ex, .ref ki])), (t, .inl (cB, n, .inl (tx u)))] s.heap.size = A at hD ⊢
  have hA : ∀ q : Nat, s.heap.size ≤ q → A q := fun q h => by rw [← hAe]; exact Or.inr h
  have hAs : ∀ q : Nat, A q → sb.1 ≤ q := fun q h => by
    rw [← hAe] at h
    rcases h with ⟨k, e, h⟩ | h
    · exact hD0.2 k _ h
    · exact Nat.le_trans hB0 h
  have hS : va_S A s.heap s.heap [] := va_S.rf
  have hcs : 0 ≤ (headSpec w_Reader_time ({ frames := 2, cells := 0, slots := 0, locals := 46 })).room.cells ∧ 0 ≤ (headSpec w_Reader_time ({ frames := 2, cells := 0, slots := 0, locals := 46 })).room.slots := ⟨Nat.le_refl _, Nat.le_refl _⟩
  have hP : va_P (dC, dI) classes [(h, .inr (5, [.ref res, .int ie, .ref t, .int (nI x.1), .int (nI x.2.1), .int (wI x.2.2), .int pa, .int ma, .int ex, .ref ki])), (t, .inl (cB, n, .inl (tx u)))] s.heap := hP
  have hl := lv_entry ([.ref h, .int (nI en)]) (n := 13) (Nat.le_of_ble_eq_true rfl)
  rw [lg_entry_eq]
  generalize (lg_sl ([.ref h, .int (nI en)]) ++ List.replicate (13 - (lg_sl ([.ref h, .int (nI en)])).length) Slot.unset).toArray = ls at hl ⊢
  have hl : lv_has ls 13 [(0, .ref h), (1, .int (nI en))] := hl
  refine lv_aload_n hx hb d_Reader_time_0 rfl (lv_at hl 0 rfl) ?_
  refine lv_bipush (v := 24) hx hb d_Reader_time_1 (by decide) ?_
  refine lv_iload_n hx hb d_Reader_time_3 rfl (lv_at hl 1 rfl) ?_
  refine vp_callSi (pu_callU (As := [.int 24, .int (nI en)]) (rest := []) ⟨hx, hb, hml, hown, hts⟩ (cL_nextIs l dC dI sb h res t ki x.1 x.2.1 n x.2.2 pa ma ex ie cB u 24 en hu hn ((hi).w hn) he (hi).1 (by decide)) (cu_of (n := 2) hts tbin q3_206 q3_208 q3_207 q3_210 q1_15 q3_211 rfl (by decide +kernel) ⟨rfl, rfl⟩ ⟨Nat.le_of_ble_eq_true rfl, Nat.le_of_ble_eq_true rfl⟩) rfl ⟨Nat.le_of_ble_eq_true rfl, Nat.le_of_ble_eq_true rfl⟩ hN (hT0.keep hS hAs) hK hP [0, 1] rfl [0] rfl 0 5 rfl rfl rfl hl.1 rfl (Nat.le_of_ble_eq_true rfl) d_Reader_time_4) (fun r4 hr4 => ?_)
  have hr4 : bz r4 (isLg u x en) := hr4
  refine lv_istore_n (lv' := [(2, .int r4), (0, .ref h), (1, .int (nI en))]) hx hb d_Reader_time_7 rfl hl (by decide) rfl (fun ls hl => ?_)
  refine lv_aload_n hx hb d_Reader_time_8 rfl (lv_at hl 1 rfl) ?_
  refine w_join (J := fun v => v = nI (tgN (isLg u x en))) (pc := 20) (ls := ls) (rest := [.ref h]) (fun v hv => ?_) (fun k20 => ?_)
  · skip
    subst hv
    refine lv_iload_n hx hb d_Reader_time_20 rfl (lv_at hl 2 rfl) ?_
    have hFc := va_free (wc := [(h, .inr (5, [.ref res, .int ie, .ref t, .int (nI x.1), .int (nI x.2.1), .int (wI x.2.2), .int pa, .int ma, .int ex, .ref ki])), (t, .inl (cB, n, .inl (tx u)))]) hD hS hA [0, 1] rfl
    refine va_calli (mu_runU (As := [.int (nI (tgN (isLg u x en))), .int (nI en)]) (rest := []) ⟨hx, hb, hml, hown, hts⟩ (cL_open l dC dI sb h res t ki x.1 x.2.1 n x.2.2 pa ma ex ie cB u (tgN (isLg u x en)) en s.heap.size hu hn ((hi).w hn) he (hi).1 (tgN_lt _)) (cu_of (n := 2) hts tbin q3_130 q9_192 q3_112 q9_194 q1_15 q3_113 rfl (by decide +kernel) ⟨rfl, rfl⟩ ⟨Nat.le_of_ble_eq_true rfl, Nat.le_of_ble_eq_true rfl⟩) rfl ⟨Nat.le_of_ble_eq_true rfl, Nat.le_of_ble_eq_true rfl⟩ hN (hT0.keep hS hAs) hAs (Nat.le_trans hB0 hS.1) hK hP hD [0, 1] (by decide) rfl [0] rfl 0 5 rfl rfl rfl hl.1 rfl (Nat.le_of_ble_eq_true rfl) d_Reader_time_21) hS (fun q _ h => hFc q h) hFc (fun r21 u21 tS H21 locs ht hvm hw21 hB hz1 hk1 hS => ?_)
    obtain ⟨x21, rfl⟩ : ∃ z, z = u21 := ⟨_, rfl⟩
    obtain ⟨hP1, hK1, hD1⟩ := hB
    rw [ht] at hP1
    obtain ⟨hP, hD⟩ := va_join (wr := []) (w1 := [(h, .inr (5, [.ref res, .int ie, .ref t, .int (nI x21.1), .int (nI x21.2.1), .int (wI x21.2.2), .int pa, .int ma, .int ex, .ref ki])), (t, .inl (cB, n, .inl (tx u)))]) hP hD [0, 1] [] rfl rfl (by decide) (by decide) hk1 hFc hP1 hD1
    have hP : va_P (dC, dI) classes [(h, .inr (5, [.ref res, .int ie, .ref t, .int (nI x21.1), .int (nI x21.2.1), .int (wI x21.2.2), .int pa, .int ma, .int ex, .ref ki])), (t, .inl (cB, n, .inl (tx u)))] H21 := hP
    have hD : va_D A [(h, .inr (5, [.ref res, .int ie, .ref t, .int (nI x21.1), .int (nI x21.2.1), .int (wI x21.2.2), .int pa, .int ma, .int ex, .ref ki])), (t, .inl (cB, n, .inl (tx u)))] := hD
    have hw21 : x21 = (rd_opn u n x (tgN (isLg u x en)) en).1 ∧ r21 = nI (rd_opn u n x (tgN (isLg u x en)) en).2 := hw21
    have hi21 := opn_inv (u := u) (tg := (tgN (isLg u x en))) hi he
    obtain ⟨o21, ho21⟩ : ∃ o, o = rd_opn u n x (tgN (isLg u x en)) en := ⟨_, rfl⟩
    rw [← ho21] at hw21 hi21
    obtain ⟨rfl, rfl⟩ := hw21
    have hP : va_P (dC, dI) classes [(h, .inr (5, [.ref res, .int ie, .ref t, .int (nI o21.1.1), .int (nI o21.1.2.1), .int (wI o21.1.2.2), .int pa, .int ma, .int ex, .ref ki])), (t, .inl (cB, n, .inl (tx u)))] H21 := hP
    have hD : va_D A [(h, .inr (5, [.ref res, .int ie, .ref t, .int (nI o21.1.1), .int (nI o21.1.2.1), .int (wI o21.1.2.2), .int pa, .int ma, .int ex, .ref ki])), (t, .inl (cB, n, .inl (tx u)))] := hD
    refine lv_istore_n (lv' := [(3, .int (nI o21.2)), (2, .int r4), (0, .ref h), (1, .int (nI en))]) hx hb d_Reader_time_24 rfl hl (by decide) rfl (fun ls hl => ?_)
    have hb1 := hi21.1.1
    have hb2 := hi21.2.1
    have hb3 := hi21.2.2.1
    have hyo := yoN_le (isLg u x en)
    refine lv_aload_n hx hb d_Reader_time_25 rfl (lv_at hl 2 rfl) ?_
    refine va_get (v := .int (nI o21.1.1)) hx hb htb i_ListReader hown hK hP 0 rfl rfl 3 (by decide) (htb _ q3_62) (fun _ h9 => h9) rfl d_Reader_time_26 ?_
    refine w_join (J := fun v => v = nI (yoN (isLg u x en))) (pc := 38) (ls := ls) (rest := [.int (nI o21.1.1)]) (fun v hv => ?_) (fun k38 => ?_)
    · skip
      subst hv
      refine lv_iadd hx hb d_Reader_time_38 ?_
      rw [show ((nI o21.1.1) + (nI (yoN (isLg u x en))) : Int32) = nI (o21.1.1 + yoN (isLg u x en)) from nI_add o21.1.1 (yoN (isLg u x en))]
      refine lv_istore (lv' := [(4, .int (nI (o21.1.1 + yoN (isLg u x en)))), (3, .int (nI o21.2)), (2, .int r4), (0, .ref h), (1, .int (nI en))]) hx hb d_Reader_time_39 hl (by decide) rfl (fun ls hl => ?_)
      refine w_join (J := fun v => v = yr0 u n o21.1.1 (isLg u x en)) (pc := 78) (ls := ls) (rest := []) (fun v hv => ?_) (fun k78 => ?_)
      · skip
        subst hv
        refine lv_istore (lv' := [(5, .int (yr0 u n o21.1.1 (isLg u x en))), (4, .int (nI (o21.1.1 + yoN (isLg u x en)))), (3, .int (nI o21.2)), (2, .int r4), (0, .ref h), (1, .int (nI en))]) hx hb d_Reader_time_78 hl (by decide) rfl (fun ls hl => ?_)
        refine w_joinA (α := Int32) (fun y => y = (yr1 u n o21.1.1 (isLg u x en))) (fun y => [(0, .ref h), (1, .int (nI en)), (2, .int r4), (3, .int (nI o21.2)), (4, .int (nI (o21.1.1 + yoN (isLg u x en)))), (5, .int y)]) (fun _ => []) 13 105 (fun y ls hy hl => ?_) (fun k105 => ?_)
        · subst hy
          refine lv_aload_n hx hb d_Reader_time_105 rfl (lv_at hl 0 rfl) ?_
          refine lv_iload hx hb d_Reader_time_106 (lv_at hl 4 rfl) ?_
          refine vp_callSi (pu_callU (As := [.int (nI (o21.1.1 + yoN (isLg u x en)))]) (rest := []) ⟨hx, hb, hml, hown, hts⟩ (cL_digits l dC dI sb h res t ki o21.1.1 o21.1.2.1 n o21.1.2.2 pa ma ex ie cB u (o21.1.1 + yoN (isLg u x en)) hu hn (by omega)) (cu_of (n := 1) hts tbin q3_239 q9_207 q4_1 qx_6 q1_15 q4_2 rfl (by decide +kernel) ⟨rfl, rfl⟩ ⟨Nat.le_of_ble_eq_true rfl, Nat.le_of_ble_eq_true rfl⟩) rfl ⟨Nat.le_of_ble_eq_true rfl, Nat.le_of_ble_eq_true rfl⟩ hN (hT0.keep hS hAs) hK hP [0, 1] rfl [0] rfl 0 5 rfl rfl rfl hl.1 rfl (Nat.le_of_ble_eq_true rfl) d_Reader_time_108) (fun r108 hr108 => ?_)
          rw [show (r108 : Int32) = dg u n (o21.1.1 + yoN (isLg u x en)) from hr108]
          refine lv_istore (lv' := [(6, .int (dg u n (o21.1.1 + yoN (isLg u x en)))), (0, .ref h), (1, .int (nI en)), (2, .int r4), (3, .int (nI o21.2)), (4, .int (nI (o21.1.1 + yoN (isLg u x en)))), (5, .int (yr1 u n o21.1.1 (isLg u x en)))]) hx hb d_Reader_time_111 hl (by decide) rfl (fun ls hl => ?_)
          refine lv_aload_n hx hb d_Reader_time_113 rfl (lv_at hl 1 rfl) ?_
          refine lv_iload hx hb d_Reader_time_114 (lv_at hl 5 rfl) ?_
          refine lv_iconst (v := 2) hx hb d_Reader_time_116 (by decide) ?_
          refine lv_iadd hx hb d_Reader_time_117 ?_
          rw [show ((nI (o21.1.1 + yoN (isLg u x en))) + 2 : Int32) = nI ((o21.1.1 + yoN (isLg u x en)) + 2) from nI_add (o21.1.1 + yoN (isLg u x en)) 2]
          refine vp_callSi (pu_callU (As := [.int (nI ((o21.1.1 + yoN (isLg u x en)) + 2))]) (rest := []) ⟨hx, hb, hml, hown, hts⟩ (cL_digits l dC dI sb h res t ki o21.1.1 o21.1.2.1 n o21.1.2.2 pa ma ex ie cB u ((o21.1.1 + yoN (isLg u x en)) + 2) hu hn (by omega)) (cu_of (n := 1) hts tbin q3_239 q9_207 q4_1 qx_6 q1_15 q4_2 rfl (by decide +kernel) ⟨rfl, rfl⟩ ⟨Nat.le_of_ble_eq_true rfl, Nat.le_of_ble_eq_true rfl⟩) rfl ⟨Nat.le_of_ble_eq_true rfl, Nat.le_of_ble_eq_true rfl⟩ hN (hT0.keep hS hAs) hK hP [0, 1] rfl [0] rfl 0 5 rfl rfl rfl hl.1 rfl (Nat.le_of_ble_eq_true rfl) d_Reader_time_118) (fun r118 hr118 => ?_)
          rw [show (r118 : Int32) = dg u n ((o21.1.1 + yoN (isLg u x en)) + 2) from hr118]
          refine lv_istore (lv' := [(7, .int (dg u n ((o21.1.1 + yoN (isLg u x en)) + 2))), (6, .int (dg u n (o21.1.1 + yoN (isLg u x en)))), (0, .ref h), (1, .int (nI en)), (2, .int r4), (3, .int (nI o21.2)), (4, .int (nI (o21.1.1 + yoN (isLg u x en)))), (5, .int (yr1 u n o21.1.1 (isLg u x en)))]) hx hb d_Reader_time_121 hl (by decide) rfl (fun ls hl => ?_)
          refine lv_aload_n hx hb d_Reader_time_123 rfl (lv_at hl 2 rfl) ?_
          refine lv_iload hx hb d_Reader_time_124 (lv_at hl 6 rfl) ?_
          refine lv_iconst (v := 4) hx hb d_Reader_time_126 (by decide) ?_
          refine lv_iadd hx hb d_Reader_time_127 ?_
          rw [show ((nI (o21.1.1 + yoN (isLg u x en))) + 4 : Int32) = nI ((o21.1.1 + yoN (isLg u x en)) + 4) from nI_add (o21.1.1 + yoN (isLg u x en)) 4]
          refine vp_callSi (pu_callU (As := [.int (nI ((o21.1.1 + yoN (isLg u x en)) + 4))]) (rest := []) ⟨hx, hb, hml, hown, hts⟩ (cL_digits l dC dI sb h res t ki o21.1.1 o21.1.2.1 n o21.1.2.2 pa ma ex ie cB u ((o21.1.1 + yoN (isLg u x en)) + 4) hu hn (by omega)) (cu_of (n := 1) hts tbin q3_239 q9_207 q4_1 qx_6 q1_15 q4_2 rfl (by decide +kernel) ⟨rfl, rfl⟩ ⟨Nat.le_of_ble_eq_true rfl, Nat.le_of_ble_eq_true rfl⟩) rfl ⟨Nat.le_of_ble_eq_true rfl, Nat.le_of_ble_eq_true rfl⟩ hN (hT0.keep hS hAs) hK hP [0, 1] rfl [0] rfl 0 5 rfl rfl rfl hl.1 rfl (Nat.le_of_ble_eq_true rfl) d_Reader_time_128) (fun r128 hr128 => ?_)
          rw [show (r128 : Int32) = dg u n ((o21.1.1 + yoN (isLg u x en)) + 4) from hr128]
          refine lv_istore (lv' := [(8, .int (dg u n ((o21.1.1 + yoN (isLg u x en)) + 4))), (7, .int (dg u n ((o21.1.1 + yoN (isLg u x en)) + 2))), (6, .int (dg u n (o21.1.1 + yoN (isLg u x en)))), (0, .ref h), (1, .int (nI en)), (2, .int r4), (3, .int (nI o21.2)), (4, .int (nI (o21.1.1 + yoN (isLg u x en)))), (5, .int (yr1 u n o21.1.1 (isLg u x en)))]) hx hb d_Reader_time_131 hl (by decide) rfl (fun ls hl => ?_)
          refine lv_aload_n hx hb d_Reader_time_133 rfl (lv_at hl 3 rfl) ?_
          refine lv_iload hx hb d_Reader_time_134 (lv_at hl 7 rfl) ?_
          refine lv_bipush (v := 6) hx hb d_Reader_time_136 (by decide) ?_
          refine lv_iadd hx hb d_Reader_time_138 ?_
          rw [show ((nI (o21.1.1 + yoN (isLg u x en))) + 6 : Int32) = nI ((o21.1.1 + yoN (isLg u x en)) + 6) from nI_add (o21.1.1 + yoN (isLg u x en)) 6]
          refine vp_callSi (pu_callU (As := [.int (nI ((o21.1.1 + yoN (isLg u x en)) + 6))]) (rest := []) ⟨hx, hb, hml, hown, hts⟩ (cL_digits l dC dI sb h res t ki o21.1.1 o21.1.2.1 n o21.1.2.2 pa ma ex ie cB u ((o21.1.1 + yoN (isLg u x en)) + 6) hu hn (by omega)) (cu_of (n := 1) hts tbin q3_239 q9_207 q4_1 qx_6 q1_15 q4_2 rfl (by decide +kernel) ⟨rfl, rfl⟩ ⟨Nat.le_of_ble_eq_true rfl, Nat.le_of_ble_eq_true rfl⟩) rfl ⟨Nat.le_of_ble_eq_true rfl, Nat.le_of_ble_eq_true rfl⟩ hN (hT0.keep hS hAs) hK hP [0, 1] rfl [0] rfl 0 5 rfl rfl rfl hl.1 rfl (Nat.le_of_ble_eq_true rfl) d_Reader_time_139) (fun r139 hr139 => ?_)
          rw [show (r139 : Int32) = dg u n ((o21.1.1 + yoN (isLg u x en)) + 6) from hr139]
          refine lv_istore (lv' := [(9, .int (dg u n ((o21.1.1 + yoN (isLg u x en)) + 6))), (8, .int (dg u n ((o21.1.1 + yoN (isLg u x en)) + 4))), (7, .int (dg u n ((o21.1.1 + yoN (isLg u x en)) + 2))), (6, .int (dg u n (o21.1.1 + yoN (isLg u x en)))), (0, .ref h), (1, .int (nI en)), (2, .int r4), (3, .int (nI o21.2)), (4, .int (nI (o21.1.1 + yoN (isLg u x en)))), (5, .int (yr1 u n o21.1.1 (isLg u x en)))]) hx hb d_Reader_time_142 hl (by decide) rfl (fun ls hl => ?_)
          refine lv_aload_n hx hb d_Reader_time_144 rfl (lv_at hl 4 rfl) ?_
          refine lv_iload hx hb d_Reader_time_145 (lv_at hl 8 rfl) ?_
          refine lv_bipush (v := 8) hx hb d_Reader_time_147 (by decide) ?_
          refine lv_iadd hx hb d_Reader_time_149 ?_
          rw [show ((nI (o21.1.1 + yoN (isLg u x en))) + 8 : Int32) = nI ((o21.1.1 + yoN (isLg u x en)) + 8) from nI_add (o21.1.1 + yoN (isLg u x en)) 8]
          refine vp_callSi (pu_callU (As := [.int (nI ((o21.1.1 + yoN (isLg u x en)) + 8))]) (rest := []) ⟨hx, hb, hml, hown, hts⟩ (cL_digits l dC dI sb h res t ki o21.1.1 o21.1.2.1 n o21.1.2.2 pa ma ex ie cB u ((o21.1.1 + yoN (isLg u x en)) + 8) hu hn (by omega)) (cu_of (n := 1) hts tbin q3_239 q9_207 q4_1 qx_6 q1_15 q4_2 rfl (by decide +kernel) ⟨rfl, rfl⟩ ⟨Nat.le_of_ble_eq_true rfl, Nat.le_of_ble_eq_true rfl⟩) rfl ⟨Nat.le_of_ble_eq_true rfl, Nat.le_of_ble_eq_true rfl⟩ hN (hT0.keep hS hAs) hK hP [0, 1] rfl [0] rfl 0 5 rfl rfl rfl hl.1 rfl (Nat.le_of_ble_eq_true rfl) d_Reader_time_150) (fun r150 hr150 => ?_)
          rw [show (r150 : Int32) = dg u n ((o21.1.1 + yoN (isLg u x en)) + 8) from hr150]
          refine lv_istore (lv' := [(10, .int (dg u n ((o21.1.1 + yoN (isLg u x en)) + 8))), (9, .int (dg u n ((o21.1.1 + yoN (isLg u x en)) + 6))), (8, .int (dg u n ((o21.1.1 + yoN (isLg u x en)) + 4))), (7, .int (dg u n ((o21.1.1 + yoN (isLg u x en)) + 2))), (6, .int (dg u n (o21.1.1 + yoN (isLg u x en)))), (0, .ref h), (1, .int (nI en)), (2, .int r4), (3, .int (nI o21.2)), (4, .int (nI (o21.1.1 + yoN (isLg u x en)))), (5, .int (yr1 u n o21.1.1 (isLg u x en)))]) hx hb d_Reader_time_153 hl (by decide) rfl (fun ls hl => ?_)
          refine w_join (J := fun v => bz v (tmW u n o21.1.1 (o21.1.1 + yoN (isLg u x en)) o21.2)) (pc := 195) (ls := ls) (rest := []) (fun v hv => ?_) (fun k195 => ?_)
          · skip
            refine lv_istore (lv' := [(11, .int v), (10, .int (dg u n ((o21.1.1 + yoN (isLg u x en)) + 8))), (9, .int (dg u n ((o21.1.1 + yoN (isLg u x en)) + 6))), (8, .int (dg u n ((o21.1.1 + yoN (isLg u x en)) + 4))), (7, .int (dg u n ((o21.1.1 + yoN (isLg u x en)) + 2))), (6, .int (dg u n (o21.1.1 + yoN (isLg u x en)))), (0, .ref h), (1, .int (nI en)), (2, .int r4), (3, .int (nI o21.2)), (4, .int (nI (o21.1.1 + yoN (isLg u x en)))), (5, .int (yr1 u n o21.1.1 (isLg u x en)))]) hx hb d_Reader_time_195 hl (by decide) rfl (fun ls hl => ?_)
            refine w_join (J := fun v' => bz v' (tmD u n (o21.1.1 + yoN (isLg u x en)))) (pc := 223) (ls := ls) (rest := []) (fun v' hv' => ?_) (fun k223 => ?_)
            · skip
              refine lv_istore (lv' := [(12, .int v'), (11, .int v), (10, .int (dg u n ((o21.1.1 + yoN (isLg u x en)) + 8))), (9, .int (dg u n ((o21.1.1 + yoN (isLg u x en)) + 6))), (8, .int (dg u n ((o21.1.1 + yoN (isLg u x en)) + 4))), (7, .int (dg u n ((o21.1.1 + yoN (isLg u x en)) + 2))), (6, .int (dg u n (o21.1.1 + yoN (isLg u x en)))), (0, .ref h), (1, .int (nI en)), (2, .int r4), (3, .int (nI o21.2)), (4, .int (nI (o21.1.1 + yoN (isLg u x en)))), (5, .int (yr1 u n o21.1.1 (isLg u x en)))]) hx hb d_Reader_time_223 hl (by decide) rfl (fun ls hl => ?_)
              refine lv_aload_n hx hb d_Reader_time_225 rfl (lv_at hl 7 rfl) ?_
              refine lv_iload_n hx hb d_Reader_time_226 rfl (lv_at hl 10 rfl) ?_
              refine w_join (J := fun v'' => bz v'' (tmOK u n o21.1.1 o21.2 (isLg u x en))) (pc := 266) (ls := ls) (rest := [.int (nI o21.2), .ref h]) (fun v'' hv'' => ?_) (fun k266 => ?_)
              · skip
                have hFc := va_free (wc := [(h, .inr (5, [.ref res, .int ie, .ref t, .int (nI o21.1.1), .int (nI o21.1.2.1), .int (wI o21.1.2.2), .int pa, .int ma, .int ex, .ref ki]))]) hD hS hA [0] rfl
                refine va_callv (mu_runU (As := [.int (nI o21.2), .int v'']) (rest := []) ⟨hx, hb, hml, hown, hts⟩ (cL_leave l dC dI sb h res t ki o21.1.1 o21.1.2.1 n o21.1.2.2 pa ma ex ie cB u o21.2 v'' H21.size ((hi21.1).w hn)) (cu_of (n := 2) hts tbin q3_131 q3_133 q3_132 q3_135 q1_15 q3_136 rfl (by decide +kernel) ⟨rfl, rfl⟩ ⟨Nat.le_of_ble_eq_true rfl, Nat.le_of_ble_eq_true rfl⟩) rfl ⟨Nat.le_of_ble_eq_true rfl, Nat.le_of_ble_eq_true rfl⟩ hN (hT0.keep hS hAs) hAs (Nat.le_trans hB0 hS.1) hK hP hD [0] (by decide) rfl [] rfl 0 5 rfl rfl rfl hl.1 rfl (Nat.le_of_ble_eq_true rfl) d_Reader_time_266) hS (fun q _ h => hFc q h) hFc (fun u266 tS H266 locs ht hvm hw266 hB hz1 hk1 hS => ?_)
                obtain ⟨x266, rfl⟩ : ∃ z, z = u266 := ⟨_, rfl⟩
                obtain ⟨hP1, hK1, hD1⟩ := hB
                rw [ht] at hP1
                obtain ⟨hP, hD⟩ := va_join (wr := [(t, .inl (cB, n, .inl (tx u)))]) (w1 := [(h, .inr (5, [.ref res, .int ie, .ref t, .int (nI x266.1), .int (nI x266.2.1), .int (wI x266.2.2), .int pa, .int ma, .int ex, .ref ki]))]) hP hD [0] [1] rfl rfl (by decide) (by decide) hk1 hFc hP1 hD1
                have hP : va_P (dC, dI) classes [(t, .inl (cB, n, .inl (tx u))), (h, .inr (5, [.ref res, .int ie, .ref t, .int (nI x266.1), .int (nI x266.2.1), .int (wI x266.2.2), .int pa, .int ma, .int ex, .ref ki]))] H266 := hP
                have hD : va_D A [(t, .inl (cB, n, .inl (tx u))), (h, .inr (5, [.ref res, .int ie, .ref t, .int (nI x266.1), .int (nI x266.2.1), .int (wI x266.2.2), .int pa, .int ma, .int ex, .ref ki]))] := hD
                have hw266 : x266 = rd_lea o21.1 o21.2 v'' := hw266
                have hi266 : rdInv n x266 := by rw [hw266]; exact lea_inv hi21.1 hi21.2.2.1
                refine lv_iload hx hb d_Reader_time_269 (lv_at hl 12 rfl) ?_
                refine lv_iload hx hb d_Reader_time_271 (lv_at hl 6 rfl) ?_
                refine lv_iload hx hb d_Reader_time_273 (lv_at hl 5 rfl) ?_
                refine vp_callSl (pu_callS (As := [.int (yr1 u n o21.1.1 (isLg u x en)), .int (dg u n (o21.1.1 + yoN (isLg u x en))), .int (dg u n ((o21.1.1 + yoN (isLg u x en)) + 2))]) (rest := []) ⟨hx, hb, hml, hown, hts⟩ tbin (c_daysTo l dC dI sb (yr1 u n o21.1.1 (isLg u x en)) (dg u n (o21.1.1 + yoN (isLg u x en))) (dg u n ((o21.1.1 + yoN (isLg u x en)) + 2))) q4_15 q4_16 q1_15 q4_17 (n := 3) (by decide +kernel) rfl ⟨rfl, rfl⟩ ⟨Nat.le_of_ble_eq_true rfl, Nat.le_of_ble_eq_true rfl⟩ ⟨Nat.le_of_ble_eq_true rfl, Nat.le_of_ble_eq_true rfl⟩ hN (hT0.keep hS hAs) hK hP [] rfl [] rfl hl.1 rfl (Nat.le_of_ble_eq_true rfl) d_Reader_time_275) (fun r275 hr275 => ?_)
                rw [show (r275 : Int64) = dtI (yr1 u n o21.1.1 (isLg u x en)) (dg u n (o21.1.1 + yoN (isLg u x en))) (dg u n ((o21.1.1 + yoN (isLg u x en)) + 2)) from hr275]
                refine lv_ldc2 (v := 24) hx hb hown (htb _ q4_20) d_Reader_time_278 ?_
                refine lv_lmul hx hb d_Reader_time_281 ?_
                refine lv_iload hx hb d_Reader_time_282 (lv_at hl 4 rfl) ?_
                refine lv_i2l (v := (dg u n ((o21.1.1 + yoN (isLg u x en)) + 4)).toInt64) hx hb d_Reader_time_284 rfl ?_
                refine lv_ladd hx hb d_Reader_time_285 ?_
                refine lv_ldc2 (v := 60) hx hb hown (htb _ q4_21) d_Reader_time_286 ?_
                refine lv_lmul hx hb d_Reader_time_289 ?_
                refine lv_iload hx hb d_Reader_time_290 (lv_at hl 3 rfl) ?_
                refine lv_i2l (v := (dg u n ((o21.1.1 + yoN (isLg u x en)) + 6)).toInt64) hx hb d_Reader_time_292 rfl ?_
                refine lv_ladd hx hb d_Reader_time_293 ?_
                refine lv_ldc2 (v := 60) hx hb hown (htb _ q4_21) d_Reader_time_294 ?_
                refine lv_lmul hx hb d_Reader_time_297 ?_
                refine lv_iload hx hb d_Reader_time_298 (lv_at hl 2 rfl) ?_
                refine lv_i2l (v := (dg u n ((o21.1.1 + yoN (isLg u x en)) + 8)).toInt64) hx hb d_Reader_time_300 rfl ?_
                refine lv_ladd hx hb d_Reader_time_301 ?_
                exact W.lret (v := ((((((dtI (yr1 u n o21.1.1 (isLg u x en)) (dg u n (o21.1.1 + yoN (isLg u x en))) (dg u n ((o21.1.1 + yoN (isLg u x en)) + 2))) * 24) + ((dg u n ((o21.1.1 + yoN (isLg u x en)) + 4)).toInt64)) * 60) + ((dg u n ((o21.1.1 + yoN (isLg u x en)) + 6)).toInt64)) * 60) + ((dg u n ((o21.1.1 + yoN (isLg u x en)) + 8)).toInt64)) hx hb hr (fun t ht hW => ⟨⟨_, x266, rfl, ⟨hw266.trans (by rw [bz_zP hv'', ho21]; rfl), by rw [ho21]; rfl⟩, by rw [ht]; exact hP.sub [1, 0] rfl, va_K.moved hW.alike hK, hD.sub [1, 0] (by decide) rfl⟩, hS.F ht⟩) hS.2.2 d_Reader_time_302
              · skip
                refine lv_iload hx hb d_Reader_time_227 (lv_at hl 1 rfl) ?_
                refine lv_if_eq (tgt := 265) hx hb d_Reader_time_229 (by decide) (fun c229 => ?_) (fun c229 => ?_)
                · refine lv_iconst (v := 0) hx hb d_Reader_time_265 (by decide) ?_
                  exact k266 _ (bz_f (fun q => bz_0 hv c229 q.1))
                · refine lv_iload hx hb d_Reader_time_232 (lv_at hl 0 rfl) ?_
                  refine lv_if_eq (tgt := 265) hx hb d_Reader_time_234 (by decide) (fun c234 => ?_) (fun c234 => ?_)
                  · refine lv_iconst (v := 0) hx hb d_Reader_time_265 (by decide) ?_
                    exact k266 _ (bz_f (fun q => bz_0 hv' c234 q.2.1))
                  · refine lv_iload hx hb d_Reader_time_237 (lv_at hl 12 rfl) ?_
                    refine lv_iload hx hb d_Reader_time_239 (lv_at hl 6 rfl) ?_
                    refine lv_iload hx hb d_Reader_time_241 (lv_at hl 5 rfl) ?_
                    refine vp_callSi (pu_callS (As := [.int (yr1 u n o21.1.1 (isLg u x en)), .int (dg u n (o21.1.1 + yoN (isLg u x en))), .int (dg u n ((o21.1.1 + yoN (isLg u x en)) + 2))]) (rest := [.int (nI o21.2), .ref h]) ⟨hx, hb, hml, hown, hts⟩ tbin (c_isDay l dC dI sb (yr1 u n o21.1.1 (isLg u x en)) (dg u n (o21.1.1 + yoN (isLg u x en))) (dg u n ((o21.1.1 + yoN (isLg u x en)) + 2))) q4_7 q4_8 q1_15 q4_9 (n := 3) (by decide +kernel) rfl ⟨rfl, rfl⟩ ⟨Nat.le_of_ble_eq_true rfl, Nat.le_of_ble_eq_true rfl⟩ ⟨Nat.le_of_ble_eq_true rfl, Nat.le_of_ble_eq_true rfl⟩ hN (hT0.keep hS hAs) hK hP [] rfl [] rfl hl.1 rfl (Nat.le_of_ble_eq_true rfl) d_Reader_time_243) (fun r243 hr243 => ?_)
                    refine lv_if_eq (tgt := 265) hx hb d_Reader_time_246 (by decide) (fun c246 => ?_) (fun c246 => ?_)
                    · refine lv_iconst (v := 0) hx hb d_Reader_time_265 (by decide) ?_
                      exact k266 _ (bz_f (fun q => bz_0 hr243 c246 q.2.2.1))
                    · refine lv_iload_n hx hb d_Reader_time_249 rfl (lv_at hl 9 rfl) ?_
                      refine lv_if_eq (tgt := 261) hx hb d_Reader_time_250 (by decide) (fun c250 => ?_) (fun c250 => ?_)
                      · refine lv_iconst (v := 1) hx hb d_Reader_time_261 (by decide) ?_
                        refine lv_goto (tgt := 266) hx hb d_Reader_time_262 (by decide) ?_
                        exact k266 _ (bz_t ⟨bz_1 hv c229, bz_1 hv' c234, bz_1 hr243 c246, Or.inl (bz_0 hr4 c250)⟩)
                      · refine lv_iload hx hb d_Reader_time_253 (lv_at hl 12 rfl) ?_
                        refine lv_sipush (v := 2050) hx hb d_Reader_time_255 (by decide) ?_
                        refine lv_icmp_lt (tgt := 265) hx hb d_Reader_time_258 (by decide) (fun c258 => ?_) (fun c258 => ?_)
                        · refine lv_iconst (v := 0) hx hb d_Reader_time_265 (by decide) ?_
                          exact k266 _ (bz_f (fun q => q.2.2.2.elim (fun z => z (bz_1 hr4 c250)) (fun z => z c258)))
                        · refine lv_iconst (v := 1) hx hb d_Reader_time_261 (by decide) ?_
                          refine lv_goto (tgt := 266) hx hb d_Reader_time_262 (by decide) ?_
                          exact k266 _ (bz_t ⟨bz_1 hv c229, bz_1 hv' c234, bz_1 hr243 c246, Or.inr c258⟩)
            · skip
              refine lv_iload hx hb d_Reader_time_197 (lv_at hl 3 rfl) ?_
              refine lv_bipush (v := 24) hx hb d_Reader_time_199 (by decide) ?_
              refine lv_icmp_ge (tgt := 222) hx hb d_Reader_time_201 (by decide) (fun c201 => ?_) (fun c201 => ?_)
              · refine lv_iconst (v := 0) hx hb d_Reader_time_222 (by decide) ?_
                exact k223 _ (bz_f (fun q => q.1 c201))
              · refine lv_iload hx hb d_Reader_time_204 (lv_at hl 2 rfl) ?_
                refine lv_bipush (v := 60) hx hb d_Reader_time_206 (by decide) ?_
                refine lv_icmp_ge (tgt := 222) hx hb d_Reader_time_208 (by decide) (fun c208 => ?_) (fun c208 => ?_)
                · refine lv_iconst (v := 0) hx hb d_Reader_time_222 (by decide) ?_
                  exact k223 _ (bz_f (fun q => q.2.1 c208))
                · refine lv_iload hx hb d_Reader_time_211 (lv_at hl 1 rfl) ?_
                  refine lv_bipush (v := 60) hx hb d_Reader_time_213 (by decide) ?_
                  refine lv_icmp_ge (tgt := 222) hx hb d_Reader_time_215 (by decide) (fun c215 => ?_) (fun c215 => ?_)
                  · refine lv_iconst (v := 0) hx hb d_Reader_time_222 (by decide) ?_
                    exact k223 _ (bz_f (fun q => q.2.2 c215))
                  · refine lv_iconst (v := 1) hx hb d_Reader_time_218 (by decide) ?_
                    refine lv_goto (tgt := 223) hx hb d_Reader_time_219 (by decide) ?_
                    exact k223 _ (bz_t ⟨c201, c208, c215⟩)
          · skip
            refine lv_iload_n hx hb d_Reader_time_155 rfl (lv_at hl 8 rfl) ?_
            refine lv_iload hx hb d_Reader_time_156 (lv_at hl 9 rfl) ?_
            refine lv_bipush (v := 11) hx hb d_Reader_time_158 (by decide) ?_
            refine lv_iadd hx hb d_Reader_time_160 ?_
            rw [show ((nI (o21.1.1 + yoN (isLg u x en))) + 11 : Int32) = nI ((o21.1.1 + yoN (isLg u x en)) + 11) from nI_add (o21.1.1 + yoN (isLg u x en)) 11]
            refine lv_icmp_ne (tgt := 194) hx hb d_Reader_time_161 (by decide) (fun c161 => ?_) (fun c161 => ?_)
            · refine lv_iconst (v := 0) hx hb d_Reader_time_194 (by decide) ?_
              exact k195 _ (bz_f (fun q => c161 (by rw [q.1])))
            · have h11 : o21.2 = (o21.1.1 + yoN (isLg u x en)) + 11 := by rw [nI_eq (by omega) (by omega)] at c161; exact c161
              refine lv_aload_n hx hb d_Reader_time_164 rfl (lv_at hl 5 rfl) ?_
              refine lv_aload_n hx hb d_Reader_time_165 rfl (lv_at hl 5 rfl) ?_
              refine va_get (v := .int (nI o21.1.1)) hx hb htb i_ListReader hown hK hP 0 rfl rfl 3 (by decide) (htb _ q3_62) (fun _ h9 => h9) rfl d_Reader_time_166 ?_
              refine lv_iload_n hx hb d_Reader_time_169 rfl (lv_at hl 8 rfl) ?_
              refine lv_iconst (v := 1) hx hb d_Reader_time_170 (by decide) ?_
              refine lv_isub hx hb d_Reader_time_171 ?_
              rw [show ((nI o21.2) - 1 : Int32) = nI (o21.2 - 1) from pk_sub (a := o21.2) (b := 1) (by omega)]
              refine vp_callSi (pu_callU (As := [.int (nI o21.1.1), .int (nI (o21.2 - 1))]) (rest := []) ⟨hx, hb, hml, hown, hts⟩ (cL_areDigits l dC dI sb h res t ki o21.1.1 o21.1.2.1 n o21.1.2.2 pa ma ex ie cB u o21.1.1 (o21.2 - 1) hu hn (by omega) (by omega)) (cu_of (n := 2) hts tbin q4_3 q9_208 q4_5 qx_7 q1_15 q4_6 rfl (by decide +kernel) ⟨rfl, rfl⟩ ⟨Nat.le_of_ble_eq_true rfl, Nat.le_of_ble_eq_true rfl⟩) rfl ⟨Nat.le_of_ble_eq_true rfl, Nat.le_of_ble_eq_true rfl⟩ hN (hT0.keep hS hAs) hK hP [0, 1] rfl [0] rfl 0 5 rfl rfl rfl hl.1 rfl (Nat.le_of_ble_eq_true rfl) d_Reader_time_172) (fun r172 hr172 => ?_)
              refine lv_if_eq (tgt := 194) hx hb d_Reader_time_175 (by decide) (fun c175 => ?_) (fun c175 => ?_)
              · refine lv_iconst (v := 0) hx hb d_Reader_time_194 (by decide) ?_
                exact k195 _ (bz_f (fun q => bz_0 hr172 c175 q.2.1))
              · refine lv_aload_n hx hb d_Reader_time_178 rfl (lv_at hl 5 rfl) ?_
                refine lv_iload_n hx hb d_Reader_time_179 rfl (lv_at hl 8 rfl) ?_
                refine lv_iconst (v := 1) hx hb d_Reader_time_180 (by decide) ?_
                refine lv_isub hx hb d_Reader_time_181 ?_
                rw [show ((nI o21.2) - 1 : Int32) = nI (o21.2 - 1) from pk_sub (a := o21.2) (b := 1) (by omega)]
                refine vp_callSi (pu_callU (As := [.int (nI (o21.2 - 1))]) (rest := []) ⟨hx, hb, hml, hown, hts⟩ (cL_octet l dC dI sb h res t ki o21.1.1 o21.1.2.1 n o21.1.2.2 pa ma ex ie cB u (nI (o21.2 - 1)) hu hn) (cu_of (n := 1) hts tbin q3_114 q3_116 q3_115 q3_118 q1_15 q3_119 rfl (by decide +kernel) ⟨rfl, rfl⟩ ⟨Nat.le_of_ble_eq_true rfl, Nat.le_of_ble_eq_true rfl⟩) rfl ⟨Nat.le_of_ble_eq_true rfl, Nat.le_of_ble_eq_true rfl⟩ hN (hT0.keep hS hAs) hK hP [0, 1] rfl [0] rfl 0 5 rfl rfl rfl hl.1 rfl (Nat.le_of_ble_eq_true rfl) d_Reader_time_182) (fun r182 hr182 => ?_)
                rw [oc_eq (by omega)] at hr182
                refine lv_bipush (v := 90) hx hb d_Reader_time_185 (by decide) ?_
                refine lv_icmp_ne (tgt := 194) hx hb d_Reader_time_187 (by decide) (fun c187 => ?_) (fun c187 => ?_)
                · refine lv_iconst (v := 0) hx hb d_Reader_time_194 (by decide) ?_
                  exact k195 _ (bz_f (fun q => c187 (by rw [hr182]; exact q.2.2)))
                · refine lv_iconst (v := 1) hx hb d_Reader_time_190 (by decide) ?_
                  refine lv_goto (tgt := 195) hx hb d_Reader_time_191 (by decide) ?_
                  exact k195 _ (bz_t ⟨h11, bz_1 hr172 c175, by rw [← hr182]; exact c187⟩)
        · skip
          refine lv_iload_n hx hb d_Reader_time_80 rfl (lv_at hl 3 rfl) ?_
          refine lv_if_ne (tgt := 105) hx hb d_Reader_time_81 (by decide) (fun c81 => ?_) (fun c81 => ?_)
          · exact k105 (yr0 u n o21.1.1 (isLg u x en)) ls (by rw [yr1, if_pos (bz_1 hr4 c81)]) (lv_sub hl [4, 5, 3, 2, 1, 0] rfl)
          · refine lv_iload hx hb d_Reader_time_84 (lv_at hl 0 rfl) ?_
            refine lv_iload hx hb d_Reader_time_86 (lv_at hl 0 rfl) ?_
            refine lv_bipush (v := 50) hx hb d_Reader_time_88 (by decide) ?_
            refine lv_icmp_lt (tgt := 99) hx hb d_Reader_time_90 (by decide) (fun c90 => ?_) (fun c90 => ?_)
            · refine lv_sipush (v := 2000) hx hb d_Reader_time_99 (by decide) ?_
              refine lv_iadd hx hb d_Reader_time_102 ?_
              refine lv_istore (lv' := [(5, .int ((yr0 u n o21.1.1 (isLg u x en)) + 2000)), (4, .int (nI (o21.1.1 + yoN (isLg u x en)))), (3, .int (nI o21.2)), (2, .int r4), (0, .ref h), (1, .int (nI en))]) hx hb d_Reader_time_103 hl (by decide) rfl (fun ls hl => ?_)
              exact k105 ((yr0 u n o21.1.1 (isLg u x en)) + 2000) ls (by rw [yr1, if_neg (bz_0 hr4 c81), if_neg (Int32.not_le.mpr c90)]) (lv_sub hl [4, 5, 3, 2, 1, 0] rfl)
            · refine lv_sipush (v := 1900) hx hb d_Reader_time_93 (by decide) ?_
              refine lv_goto (tgt := 102) hx hb d_Reader_time_96 (by decide) ?_
              refine lv_iadd hx hb d_Reader_time_102 ?_
              refine lv_istore (lv' := [(5, .int ((yr0 u n o21.1.1 (isLg u x en)) + 1900)), (4, .int (nI (o21.1.1 + yoN (isLg u x en)))), (3, .int (nI o21.2)), (2, .int r4), (0, .ref h), (1, .int (nI en))]) hx hb d_Reader_time_103 hl (by decide) rfl (fun ls hl => ?_)
              exact k105 ((yr0 u n o21.1.1 (isLg u x en)) + 1900) ls (by rw [yr1, if_neg (bz_0 hr4 c81), if_pos (Int32.not_lt.mp c90)]) (lv_sub hl [4, 5, 3, 2, 1, 0] rfl)
      · skip
        refine lv_iload_n hx hb d_Reader_time_41 rfl (lv_at hl 2 rfl) ?_
        refine lv_if_eq (tgt := 70) hx hb d_Reader_time_42 (by decide) (fun c42 => ?_) (fun c42 => ?_)
        · refine lv_aload_n hx hb d_Reader_time_70 rfl (lv_at hl 3 rfl) ?_
          refine lv_aload_n hx hb d_Reader_time_71 rfl (lv_at hl 3 rfl) ?_
          refine va_get (v := .int (nI o21.1.1)) hx hb htb i_ListReader hown hK hP 0 rfl rfl 3 (by decide) (htb _ q3_62) (fun _ h9 => h9) rfl d_Reader_time_72 ?_
          refine vp_callSi (pu_callU (As := [.int (nI o21.1.1)]) (rest := []) ⟨hx, hb, hml, hown, hts⟩ (cL_digits l dC dI sb h res t ki o21.1.1 o21.1.2.1 n o21.1.2.2 pa ma ex ie cB u o21.1.1 hu hn (by omega)) (cu_of (n := 1) hts tbin q3_239 q9_207 q4_1 qx_6 q1_15 q4_2 rfl (by decide +kernel) ⟨rfl, rfl⟩ ⟨Nat.le_of_ble_eq_true rfl, Nat.le_of_ble_eq_true rfl⟩) rfl ⟨Nat.le_of_ble_eq_true rfl, Nat.le_of_ble_eq_true rfl⟩ hN (hT0.keep hS hAs) hK hP [0, 1] rfl [0] rfl 0 5 rfl rfl rfl hl.1 rfl (Nat.le_of_ble_eq_true rfl) d_Reader_time_75) (fun r75 hr75 => ?_)
          exact k78 _ (by rw [hr75, yr0, if_neg (bz_0 hr4 c42)])
        · refine lv_aload_n hx hb d_Reader_time_45 rfl (lv_at hl 3 rfl) ?_
          refine lv_aload_n hx hb d_Reader_time_46 rfl (lv_at hl 3 rfl) ?_
          refine va_get (v := .int (nI o21.1.1)) hx hb htb i_ListReader hown hK hP 0 rfl rfl 3 (by decide) (htb _ q3_62) (fun _ h9 => h9) rfl d_Reader_time_47 ?_
          refine vp_callSi (pu_callU (As := [.int (nI o21.1.1)]) (rest := []) ⟨hx, hb, hml, hown, hts⟩ (cL_digits l dC dI sb h res t ki o21.1.1 o21.1.2.1 n o21.1.2.2 pa ma ex ie cB u o21.1.1 hu hn (by omega)) (cu_of (n := 1) hts tbin q3_239 q9_207 q4_1 qx_6 q1_15 q4_2 rfl (by decide +kernel) ⟨rfl, rfl⟩ ⟨Nat.le_of_ble_eq_true rfl, Nat.le_of_ble_eq_true rfl⟩) rfl ⟨Nat.le_of_ble_eq_true rfl, Nat.le_of_ble_eq_true rfl⟩ hN (hT0.keep hS hAs) hK hP [0, 1] rfl [0] rfl 0 5 rfl rfl rfl hl.1 rfl (Nat.le_of_ble_eq_true rfl) d_Reader_time_50) (fun r50 hr50 => ?_)
          refine lv_bipush (v := 100) hx hb d_Reader_time_53 (by decide) ?_
          refine lv_imul hx hb d_Reader_time_55 ?_
          refine lv_aload_n hx hb d_Reader_time_56 rfl (lv_at hl 3 rfl) ?_
          refine lv_aload_n hx hb d_Reader_time_57 rfl (lv_at hl 3 rfl) ?_
          refine va_get (v := .int (nI o21.1.1)) hx hb htb i_ListReader hown hK hP 0 rfl rfl 3 (by decide) (htb _ q3_62) (fun _ h9 => h9) rfl d_Reader_time_58 ?_
          refine lv_iconst (v := 2) hx hb d_Reader_time_61 (by decide) ?_
          refine lv_iadd hx hb d_Reader_time_62 ?_
          rw [show ((nI o21.1.1) + 2 : Int32) = nI (o21.1.1 + 2) from nI_add o21.1.1 2]
          refine vp_callSi (pu_callU (As := [.int (nI (o21.1.1 + 2))]) (rest := [.int (r50 * 100)]) ⟨hx, hb, hml, hown, hts⟩ (cL_digits l dC dI sb h res t ki o21.1.1 o21.1.2.1 n o21.1.2.2 pa ma ex ie cB u (o21.1.1 + 2) hu hn (by omega)) (cu_of (n := 1) hts tbin q3_239 q9_207 q4_1 qx_6 q1_15 q4_2 rfl (by decide +kernel) ⟨rfl, rfl⟩ ⟨Nat.le_of_ble_eq_true rfl, Nat.le_of_ble_eq_true rfl⟩) rfl ⟨Nat.le_of_ble_eq_true rfl, Nat.le_of_ble_eq_true rfl⟩ hN (hT0.keep hS hAs) hK hP [0, 1] rfl [0] rfl 0 5 rfl rfl rfl hl.1 rfl (Nat.le_of_ble_eq_true rfl) d_Reader_time_63) (fun r63 hr63 => ?_)
          refine lv_iadd hx hb d_Reader_time_66 ?_
          refine lv_goto (tgt := 78) hx hb d_Reader_time_67 (by decide) ?_
          exact k78 _ (by rw [hr50, hr63, yr0, if_pos (bz_1 hr4 c42)])
    · skip
      refine lv_iload_n hx hb d_Reader_time_29 rfl (lv_at hl 1 rfl) ?_
      refine lv_if_eq (tgt := 37) hx hb d_Reader_time_30 (by decide) (fun c30 => ?_) (fun c30 => ?_)
      · refine lv_iconst (v := 2) hx hb d_Reader_time_37 (by decide) ?_
        exact k38 _ (by rw [yoN, if_neg (bz_0 hr4 c30)]; rfl)
      · refine lv_iconst (v := 4) hx hb d_Reader_time_33 (by decide) ?_
        refine lv_goto (tgt := 38) hx hb d_Reader_time_34 (by decide) ?_
        exact k38 _ (by rw [yoN, if_pos (bz_1 hr4 c30)]; rfl)
  · skip
    refine lv_iload_n hx hb d_Reader_time_9 rfl (lv_at hl 0 rfl) ?_
    refine lv_if_eq (tgt := 18) hx hb d_Reader_time_10 (by decide) (fun c10 => ?_) (fun c10 => ?_)
    · refine lv_bipush (v := 23) hx hb d_Reader_time_18 (by decide) ?_
      exact k20 _ (by rw [tgN, if_neg (bz_0 hr4 c10)]; rfl)
    · refine lv_bipush (v := 24) hx hb d_Reader_time_13 (by decide) ?_
      refine lv_goto (tgt := 20) hx hb d_Reader_time_15 (by decide) ?_
      exact k20 _ (by rw [tgN, if_pos (bz_1 hr4 c10)]; rfl)
