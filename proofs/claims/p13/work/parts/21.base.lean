-- the skeleton's words of the law's entry (a starting text of the kit); then mine: what holds there
/-! THE CLAIM OUT OF ONE WALK OF THE LAW'S BODY. Your part is whole_start (and what it stands on); all else here is the same for every law, but numbers. -/
def R_law : String := "TrustChainLaw"
/-- what holds at the law's entry: the machine, the code, the tables' words (any of lw_tbl by 'hts w (by decide +kernel)'), the script of L ints xs at the cell b, what the Statement gives of the start (any of its parts by flat_of_before) -/
def lw_At (p : Program) (s : State) (m : MethodId) (meth : Method) (c : Code) (b L : Nat) (xs : Nat → Int32) : Prop :=
  p.tables.exec = Jvm.exec ∧ c.code = code ∧ meth.sig.returnType = ret ∧ c.maxLocals = 8 ∧ s.vm.findClass R_law = some m.cls ∧ (∀ w ∈ lw_tbl, w.before #[Value.ref b] s = true) ∧ va_X b L xs s s.heap ∧ b < s.heap.size ∧ meth.locks = false ∧ (Jvm.Cond.and given_1 narrow_1).before #[Value.ref b] s = true
theorem sel_priv2 {C : String} {y z : MethodName} {s : State} {args : Array Value} (hy : y.cls ≠ "java/lang/invoke/MethodHandle" ∧ y.cls ≠ "java/lang/invoke/VarHandle") (hzy : z.cls = y.cls) (hz : (Cond.selects C z z).before args s = true) (hpriv : (Cond.privateMethod y).before args s = true) (hinst : (Cond.instanceMethod y).before args s = true) : (Cond.selects C y y).before args s = true := by
  obtain ⟨mk, methM, hnamed, hmethM, -, -⟩ := Cond.instanceMethod_spec hinst
  have hfound : s.methodFound? y.cls y.name y.desc = some mk := State.methodFound?_of_named hnamed hy
  have hsel : ∀ c, selectMethod {} s.vm c mk = .method mk := fun c => selectMethod_private hmethM (Cond.privateMethod_at hpriv mk methM hnamed hmethM)
  cases hc : s.vm.findClass C with
  | none => simp [Cond.before, Cond.holds, Cond.value, hc] at hz
  | some c =>
    cases hf : s.methodFound? z.cls z.name z.desc with
    | none => simp [Cond.before, Cond.holds, Cond.value, hc, hf] at hz
    | some r =>
      cases hn : s.methodNamed? z with
      | none => simp [Cond.before, Cond.holds, Cond.value, hc, hf, hn] at hz
      | some m0 =>
        have hcls : mk.cls = m0.cls := by
          have a := findClass_of_methodNamed hnamed
          have b := findClass_of_methodNamed hn
          rw [hzy] at b
          exact Option.some.inj (a.symm.trans b)
        have h1 : (s.vm.classes[m0.cls]?).any (!·.isInterface) = true := by
          simp only [Cond.before, Cond.holds, Cond.value, hc, hf, hn] at hz
          split at hz
          · simp only [beq_iff_eq, Option.some.injEq, Bool.and_eq_true] at hz
            exact hz.2
          · simp at hz
        simp only [Cond.before, Cond.holds, Cond.value, hc, hfound, hnamed, hsel, hcls, h1]
        simp
theorem xs_ok {s : State} {args : Array Value} (hts : ∀ w ∈ lw_tbl, w.before args s = true) (htb0 : ∀ w, w ∈ tb → w ∈ lw_tbl → w.before args s = true) : ∀ w ∈ xs_sels, w.before args s = true := by
  intro w hw
  obtain ⟨k, hk⟩ := List.getElem?_of_mem hw
  match k, hk with
  | 0, hk => cases hk; exact sel_priv2 (z := ⟨"TrustChain$Reader", "octet", "(I)I"⟩) (by decide) rfl (hts _ (tm_3 (List.mem_of_getElem? (i := 117) rfl))) (hts _ (tm_4 (List.mem_of_getElem? (i := 0) rfl))) (hts _ (tm_4 (List.mem_of_getElem? (i := 1) rfl)))
  | 1, hk => cases hk; exact sel_priv2 (z := ⟨"TrustChain$Reader", "octet", "(I)I"⟩) (by decide) rfl (hts _ (tm_3 (List.mem_of_getElem? (i := 117) rfl))) (hts _ (tm_4 (List.mem_of_getElem? (i := 4) rfl))) (hts _ (tm_4 (List.mem_of_getElem? (i := 5) rfl)))
  | 2, hk => cases hk; exact sel_priv2 (z := ⟨"TrustChain$Reader", "octet", "(I)I"⟩) (by decide) rfl (hts _ (tm_3 (List.mem_of_getElem? (i := 117) rfl))) (hts _ (tm_3 (List.mem_of_getElem? (i := 203) rfl))) (hts _ (tm_3 (List.mem_of_getElem? (i := 204) rfl)))
  | 3, hk => cases hk; exact sel_priv2 (z := ⟨"TrustChain$Reader", "octet", "(I)I"⟩) (by decide) rfl (hts _ (tm_3 (List.mem_of_getElem? (i := 117) rfl))) (hts _ (tm_3 (List.mem_of_getElem? (i := 221) rfl))) (hts _ (tm_3 (List.mem_of_getElem? (i := 222) rfl)))
  | 4, hk => cases hk; exact sel_priv2 (z := ⟨"TrustChain$Reader", "octet", "(I)I"⟩) (by decide) rfl (hts _ (tm_3 (List.mem_of_getElem? (i := 117) rfl))) (hts _ (tm_3 (List.mem_of_getElem? (i := 213) rfl))) (hts _ (tm_3 (List.mem_of_getElem? (i := 214) rfl)))
  | 5, hk => cases hk; exact sel_priv2 (z := ⟨"TrustChain$Reader", "octet", "(I)I"⟩) (by decide) rfl (hts _ (tm_3 (List.mem_of_getElem? (i := 117) rfl))) (hts _ (tm_4 (List.mem_of_getElem? (i := 205) rfl))) (hts _ (tm_4 (List.mem_of_getElem? (i := 206) rfl)))
  | 6, hk => cases hk; exact sel_priv2 (z := ⟨"TrustChain$Reader", "octet", "(I)I"⟩) (by decide) rfl (hts _ (tm_3 (List.mem_of_getElem? (i := 118) rfl))) (hts _ (tm_4 (List.mem_of_getElem? (i := 0) rfl))) (hts _ (tm_4 (List.mem_of_getElem? (i := 1) rfl)))
  | 7, hk => cases hk; exact sel_priv2 (z := ⟨"TrustChain$Reader", "octet", "(I)I"⟩) (by decide) rfl (hts _ (tm_3 (List.mem_of_getElem? (i := 118) rfl))) (hts _ (tm_4 (List.mem_of_getElem? (i := 4) rfl))) (hts _ (tm_4 (List.mem_of_getElem? (i := 5) rfl)))
  | 8, hk => cases hk; exact sel_priv2 (z := ⟨"TrustChain$Reader", "octet", "(I)I"⟩) (by decide) rfl (hts _ (tm_3 (List.mem_of_getElem? (i := 118) rfl))) (hts _ (tm_3 (List.mem_of_getElem? (i := 203) rfl))) (hts _ (tm_3 (List.mem_of_getElem? (i := 204) rfl)))
  | 9, hk => cases hk; exact sel_priv2 (z := ⟨"TrustChain$Reader", "octet", "(I)I"⟩) (by decide) rfl (hts _ (tm_3 (List.mem_of_getElem? (i := 118) rfl))) (hts _ (tm_3 (List.mem_of_getElem? (i := 221) rfl))) (hts _ (tm_3 (List.mem_of_getElem? (i := 222) rfl)))
  | 10, hk => cases hk; exact sel_priv2 (z := ⟨"TrustChain$Reader", "octet", "(I)I"⟩) (by decide) rfl (hts _ (tm_3 (List.mem_of_getElem? (i := 118) rfl))) (hts _ (tm_3 (List.mem_of_getElem? (i := 213) rfl))) (hts _ (tm_3 (List.mem_of_getElem? (i := 214) rfl)))
  | 11, hk => cases hk; exact sel_priv2 (z := ⟨"TrustChain$Reader", "octet", "(I)I"⟩) (by decide) rfl (hts _ (tm_3 (List.mem_of_getElem? (i := 118) rfl))) (hts _ (tm_4 (List.mem_of_getElem? (i := 205) rfl))) (hts _ (tm_4 (List.mem_of_getElem? (i := 206) rfl)))
  | k + 12, hk => simp [xs_sels, xs_privs] at hk
theorem tb_ok {s : State} {args : Array Value} (hts : ∀ w ∈ lw_tbl, w.before args s = true) : ∀ w ∈ tb, w.before args s = true := fun w hw =>
  (List.mem_append.mp (List.mem_filter.mp hw).1).elim (fun h => xs_ok hts (fun w _ h => hts w h) w h) (fun h => hts w h)
theorem nw_ok {s : State} {args : Array Value} (hts : ∀ w ∈ lw_tbl, w.before args s = true) : nwA s := fun w hw => by
  have hk := nw_kinds w hw
  have h1 := hts w (nwords_lw w hw)
  cases w with
  | fieldLinkNest a b c d f g => exact va_Nw.of rfl h1
  | methodLinkNest a b c d => exact va_Nw.of rfl h1
  | declares x => exact va_Nw.of rfl h1
  | castable a b => exact va_Nw.of rfl h1
  | arrayOver t =>
    cases t with
    | object C => exact h1
    | _ => exact absurd hk (by simp [nw_kind])
  | _ => exact absurd hk (by simp [nw_kind])
theorem st_one {args : Array Value} {s : State} {C nm : String} (vs : List Int32) (hN : vs.length < 2 ^ 31) (hl : (Cond.laysStatic C nm "[I").before args s = true) (hini : (Cond.initialized C).before args s = true) (harr : (Cond.arrayOf (.static C nm "[I") .int).before args s = true) (hlen : (Cond.eq (.length (.static C nm "[I")) (.int (Int32.ofNat vs.length))).before args s = true)
    (hel : ∀ j, j < vs.length → (Cond.eq (.elem (.static C nm "[I") (.int (Int32.ofNat j))) (.int (vs.getD j 0))).before args s = true) :
    ∃ t, va_Z C nm "[I" (.ref t) (fun q => s.heap.size ≤ q) s s.heap ∧ va_T .int t vs.length (fun j => .int (vs.getD j 0)) (fun q => s.heap.size ≤ q) s s.heap := by
  have hA : ∀ a : Nat, a < s.heap.size → ¬ (fun q => s.heap.size ≤ q) a := fun a h => Nat.not_le.mpr h
  obtain ⟨t, ht, hT⟩ := va_Tof (f := fun j => .int (vs.getD j 0)) hN harr (va_eqt hlen) (fun j hj => va_eqt (hel j hj)) hA
  exact ⟨t, va_Zref hl hini ht hA, hT⟩
theorem arr_ok {s : State} {args : Array Value} {ty : FieldType} (hp : ty = .int ∨ ty = .long ∨ ty = .byte) (h : (Cond.arrayClass ty).before args s = true) : ∃ cA, ArrOfT s cA ty ∧ va_RA s cA ty := by
  obtain ⟨c, k, comp, h1, h2, h3⟩ := Cond.arrayClass_spec h
  exact ⟨c, fun n z => ⟨fun k h => (by cases h), k, h2, comp, h3⟩, by rcases hp with rfl | rfl | rfl <;> exact h1⟩
theorem arr_okO {s : State} {args : Array Value} {C : String} (h : (Cond.arrayOver (.object C)).before args s = true) : ∃ cA, ArrOfT s cA (.object C) ∧ va_RA s cA (.object C) := by
  obtain ⟨comp, c, k, h1, h2, h3, h4, h5⟩ := Cond.arrayOver_spec h
  exact ⟨c, fun n z => ⟨fun k h => (by cases h), k, h3, comp, h4⟩, k, comp, h3, h4, h1, h5⟩
def flatA : Jvm.Cond → List Jvm.Cond → List Jvm.Cond
  | .and a b, acc => flatA a (flatA b acc)
  | c, acc => c :: acc
theorem flatA_ok {args : Array Value} {s : State} (T : Jvm.Cond) : T.before args s = true → ∀ acc : List Jvm.Cond, (∀ c ∈ acc, c.before args s = true) → ∀ c ∈ flatA T acc, c.before args s = true := by
  induction T with
  | and a b iha ihb =>
    intro h acc ha c hc
    rw [Cond.before_and, Bool.and_eq_true] at h
    exact iha h.1 _ (ihb h.2 acc ha) c hc
  | _ =>
    intro h acc ha c hc
    simp only [flatA, List.mem_cons] at hc
    rcases hc with rfl | hc
    · exact h
    · exact ha c hc
abbrev pre1 : List Jvm.Cond := flatA (Jvm.Cond.and given_1 narrow_1) []
set_option maxRecDepth 100000 in
theorem el_PKCS1 : ∀ j, j < 8 → Cond.eq (.elem (.static "TrustChain$Reader" "PKCS1" "[I") (.int (Int32.ofNat j))) (.int (sv_PKCS1.getD j 0)) ∈ pre1 := by
  intro j hj
  match j, hj with
  | 0, _ => exact List.mem_of_getElem? (i := 13) rfl
  | 1, _ => exact List.mem_of_getElem? (i := 14) rfl
  | 2, _ => exact List.mem_of_getElem? (i := 15) rfl
  | 3, _ => exact List.mem_of_getElem? (i := 16) rfl
  | 4, _ => exact List.mem_of_getElem? (i := 17) rfl
  | 5, _ => exact List.mem_of_getElem? (i := 18) rfl
  | 6, _ => exact List.mem_of_getElem? (i := 19) rfl
  | 7, _ => exact List.mem_of_getElem? (i := 20) rfl
  | j + 8, h => exact absurd h (by omega)
set_option maxRecDepth 100000 in
theorem el_MONTH_STARTS : ∀ j, j < 13 → Cond.eq (.elem (.static "TrustChain$Reader" "MONTH_STARTS" "[I") (.int (Int32.ofNat j))) (.int (sv_MONTH_STARTS.getD j 0)) ∈ pre1 := by
  intro j hj
  match j, hj with
  | 0, _ => exact List.mem_of_getElem? (i := 24) rfl
  | 1, _ => exact List.mem_of_getElem? (i := 25) rfl
  | 2, _ => exact List.mem_of_getElem? (i := 26) rfl
  | 3, _ => exact List.mem_of_getElem? (i := 27) rfl
  | 4, _ => exact List.mem_of_getElem? (i := 28) rfl
  | 5, _ => exact List.mem_of_getElem? (i := 29) rfl
  | 6, _ => exact List.mem_of_getElem? (i := 30) rfl
  | 7, _ => exact List.mem_of_getElem? (i := 31) rfl
  | 8, _ => exact List.mem_of_getElem? (i := 32) rfl
  | 9, _ => exact List.mem_of_getElem? (i := 33) rfl
  | 10, _ => exact List.mem_of_getElem? (i := 34) rfl
  | 11, _ => exact List.mem_of_getElem? (i := 35) rfl
  | 12, _ => exact List.mem_of_getElem? (i := 36) rfl
  | j + 13, h => exact absurd h (by omega)
set_option maxRecDepth 100000 in
theorem el_START : ∀ j, j < 8 → Cond.eq (.elem (.static "TrustChain$Sha256" "START" "[I") (.int (Int32.ofNat j))) (.int (sv_START.getD j 0)) ∈ pre1 := by
  intro j hj
  match j, hj with
  | 0, _ => exact List.mem_of_getElem? (i := 40) rfl
  | 1, _ => exact List.mem_of_getElem? (i := 41) rfl
  | 2, _ => exact List.mem_of_getElem? (i := 42) rfl
  | 3, _ => exact List.mem_of_getElem? (i := 43) rfl
  | 4, _ => exact List.mem_of_getElem? (i := 44) rfl
  | 5, _ => exact List.mem_of_getElem? (i := 45) rfl
  | 6, _ => exact List.mem_of_getElem? (i := 46) rfl
  | 7, _ => exact List.mem_of_getElem? (i := 47) rfl
  | j + 8, h => exact absurd h (by omega)
set_option maxRecDepth 100000 in
theorem el_ROUND : ∀ j, j < 64 → Cond.eq (.elem (.static "TrustChain$Sha256" "ROUND" "[I") (.int (Int32.ofNat j))) (.int (sv_ROUND.getD j 0)) ∈ pre1 := by
  intro j hj
  match j, hj with
  | 0, _ => exact List.mem_of_getElem? (i := 51) rfl
  | 1, _ => exact List.mem_of_getElem? (i := 52) rfl
  | 2, _ => exact List.mem_of_getElem? (i := 53) rfl
  | 3, _ => exact List.mem_of_getElem? (i := 54) rfl
  | 4, _ => exact List.mem_of_getElem? (i := 55) rfl
  | 5, _ => exact List.mem_of_getElem? (i := 56) rfl
  | 6, _ => exact List.mem_of_getElem? (i := 57) rfl
  | 7, _ => exact List.mem_of_getElem? (i := 58) rfl
  | 8, _ => exact List.mem_of_getElem? (i := 59) rfl
  | 9, _ => exact List.mem_of_getElem? (i := 60) rfl
  | 10, _ => exact List.mem_of_getElem? (i := 61) rfl
  | 11, _ => exact List.mem_of_getElem? (i := 62) rfl
  | 12, _ => exact List.mem_of_getElem? (i := 63) rfl
  | 13, _ => exact List.mem_of_getElem? (i := 64) rfl
  | 14, _ => exact List.mem_of_getElem? (i := 65) rfl
  | 15, _ => exact List.mem_of_getElem? (i := 66) rfl
  | 16, _ => exact List.mem_of_getElem? (i := 67) rfl
  | 17, _ => exact List.mem_of_getElem? (i := 68) rfl
  | 18, _ => exact List.mem_of_getElem? (i := 69) rfl
  | 19, _ => exact List.mem_of_getElem? (i := 70) rfl
  | 20, _ => exact List.mem_of_getElem? (i := 71) rfl
  | 21, _ => exact List.mem_of_getElem? (i := 72) rfl
  | 22, _ => exact List.mem_of_getElem? (i := 73) rfl
  | 23, _ => exact List.mem_of_getElem? (i := 74) rfl
  | 24, _ => exact List.mem_of_getElem? (i := 75) rfl
  | 25, _ => exact List.mem_of_getElem? (i := 76) rfl
  | 26, _ => exact List.mem_of_getElem? (i := 77) rfl
  | 27, _ => exact List.mem_of_getElem? (i := 78) rfl
  | 28, _ => exact List.mem_of_getElem? (i := 79) rfl
  | 29, _ => exact List.mem_of_getElem? (i := 80) rfl
  | 30, _ => exact List.mem_of_getElem? (i := 81) rfl
  | 31, _ => exact List.mem_of_getElem? (i := 82) rfl
  | 32, _ => exact List.mem_of_getElem? (i := 83) rfl
  | 33, _ => exact List.mem_of_getElem? (i := 84) rfl
  | 34, _ => exact List.mem_of_getElem? (i := 85) rfl
  | 35, _ => exact List.mem_of_getElem? (i := 86) rfl
  | 36, _ => exact List.mem_of_getElem? (i := 87) rfl
  | 37, _ => exact List.mem_of_getElem? (i := 88) rfl
  | 38, _ => exact List.mem_of_getElem? (i := 89) rfl
  | 39, _ => exact List.mem_of_getElem? (i := 90) rfl
  | 40, _ => exact List.mem_of_getElem? (i := 91) rfl
  | 41, _ => exact List.mem_of_getElem? (i := 92) rfl
  | 42, _ => exact List.mem_of_getElem? (i := 93) rfl
  | 43, _ => exact List.mem_of_getElem? (i := 94) rfl
  | 44, _ => exact List.mem_of_getElem? (i := 95) rfl
  | 45, _ => exact List.mem_of_getElem? (i := 96) rfl
  | 46, _ => exact List.mem_of_getElem? (i := 97) rfl
  | 47, _ => exact List.mem_of_getElem? (i := 98) rfl
  | 48, _ => exact List.mem_of_getElem? (i := 99) rfl
  | 49, _ => exact List.mem_of_getElem? (i := 100) rfl
  | 50, _ => exact List.mem_of_getElem? (i := 101) rfl
  | 51, _ => exact List.mem_of_getElem? (i := 102) rfl
  | 52, _ => exact List.mem_of_getElem? (i := 103) rfl
  | 53, _ => exact List.mem_of_getElem? (i := 104) rfl
  | 54, _ => exact List.mem_of_getElem? (i := 105) rfl
  | 55, _ => exact List.mem_of_getElem? (i := 106) rfl
  | 56, _ => exact List.mem_of_getElem? (i := 107) rfl
  | 57, _ => exact List.mem_of_getElem? (i := 108) rfl
  | 58, _ => exact List.mem_of_getElem? (i := 109) rfl
  | 59, _ => exact List.mem_of_getElem? (i := 110) rfl
  | 60, _ => exact List.mem_of_getElem? (i := 111) rfl
  | 61, _ => exact List.mem_of_getElem? (i := 112) rfl
  | 62, _ => exact List.mem_of_getElem? (i := 113) rfl
  | 63, _ => exact List.mem_of_getElem? (i := 114) rfl
  | j + 64, h => exact absurd h (by omega)
set_option maxRecDepth 100000 in
theorem el_PREFIX : ∀ j, j < 19 → Cond.eq (.elem (.static "TrustChain$Rsa" "PREFIX" "[I") (.int (Int32.ofNat j))) (.int (sv_PREFIX.getD j 0)) ∈ pre1 := by
  intro j hj
  match j, hj with
  | 0, _ => exact List.mem_of_getElem? (i := 118) rfl
  | 1, _ => exact List.mem_of_getElem? (i := 119) rfl
  | 2, _ => exact List.mem_of_getElem? (i := 120) rfl
  | 3, _ => exact List.mem_of_getElem? (i := 121) rfl
  | 4, _ => exact List.mem_of_getElem? (i := 122) rfl
  | 5, _ => exact List.mem_of_getElem? (i := 123) rfl
  | 6, _ => exact List.mem_of_getElem? (i := 124) rfl
  | 7, _ => exact List.mem_of_getElem? (i := 125) rfl
  | 8, _ => exact List.mem_of_getElem? (i := 126) rfl
  | 9, _ => exact List.mem_of_getElem? (i := 127) rfl
  | 10, _ => exact List.mem_of_getElem? (i := 128) rfl
  | 11, _ => exact List.mem_of_getElem? (i := 129) rfl
  | 12, _ => exact List.mem_of_getElem? (i := 130) rfl
  | 13, _ => exact List.mem_of_getElem? (i := 131) rfl
  | 14, _ => exact List.mem_of_getElem? (i := 132) rfl
  | 15, _ => exact List.mem_of_getElem? (i := 133) rfl
  | 16, _ => exact List.mem_of_getElem? (i := 134) rfl
  | 17, _ => exact List.mem_of_getElem? (i := 135) rfl
  | 18, _ => exact List.mem_of_getElem? (i := 136) rfl
  | j + 19, h => exact absurd h (by omega)
def ks_0 : List Int32 := [32, 39, 40, 41, 43, 44, 45, 46, 47, 58, 61, 63]
set_option maxRecDepth 100000 in
theorem el_s0 : ∀ j, j < 12 → Cond.eq (.elem (.field (.string "TrustChainModel$Text" 113) "java/lang/String" "value" "[B") (.int (Int32.ofNat j))) (.int (ks_0.getD j 0)) ∈ pre1 := by
  intro j hj
  match j, hj with
  | 0, _ => exact List.mem_of_getElem? (i := 513) rfl
  | 1, _ => exact List.mem_of_getElem? (i := 514) rfl
  | 2, _ => exact List.mem_of_getElem? (i := 515) rfl
  | 3, _ => exact List.mem_of_getElem? (i := 516) rfl
  | 4, _ => exact List.mem_of_getElem? (i := 517) rfl
  | 5, _ => exact List.mem_of_getElem? (i := 518) rfl
  | 6, _ => exact List.mem_of_getElem? (i := 519) rfl
  | 7, _ => exact List.mem_of_getElem? (i := 520) rfl
  | 8, _ => exact List.mem_of_getElem? (i := 521) rfl
  | 9, _ => exact List.mem_of_getElem? (i := 522) rfl
  | 10, _ => exact List.mem_of_getElem? (i := 523) rfl
  | 11, _ => exact List.mem_of_getElem? (i := 524) rfl
  | j + 12, h => exact absurd h (by omega)
def ks_1 : List Int32 := [50, 65, 56, 54, 52, 56, 56, 54, 70, 55, 48, 68, 48, 49, 48, 49, 48, 66]
set_option maxRecDepth 100000 in
theorem el_s1 : ∀ j, j < 18 → Cond.eq (.elem (.field (.string "TrustChainModel$Text" 264) "java/lang/String" "value" "[B") (.int (Int32.ofNat j))) (.int (ks_1.getD j 0)) ∈ pre1 := by
  intro j hj
  match j, hj with
  | 0, _ => exact List.mem_of_getElem? (i := 480) rfl
  | 1, _ => exact List.mem_of_getElem? (i := 481) rfl
  | 2, _ => exact List.mem_of_getElem? (i := 482) rfl
  | 3, _ => exact List.mem_of_getElem? (i := 483) rfl
  | 4, _ => exact List.mem_of_getElem? (i := 484) rfl
  | 5, _ => exact List.mem_of_getElem? (i := 485) rfl
  | 6, _ => exact List.mem_of_getElem? (i := 486) rfl
  | 7, _ => exact List.mem_of_getElem? (i := 487) rfl
  | 8, _ => exact List.mem_of_getElem? (i := 488) rfl
  | 9, _ => exact List.mem_of_getElem? (i := 489) rfl
  | 10, _ => exact List.mem_of_getElem? (i := 490) rfl
  | 11, _ => exact List.mem_of_getElem? (i := 491) rfl
  | 12, _ => exact List.mem_of_getElem? (i := 492) rfl
  | 13, _ => exact List.mem_of_getElem? (i := 493) rfl
  | 14, _ => exact List.mem_of_getElem? (i := 494) rfl
  | 15, _ => exact List.mem_of_getElem? (i := 495) rfl
  | 16, _ => exact List.mem_of_getElem? (i := 496) rfl
  | 17, _ => exact List.mem_of_getElem? (i := 497) rfl
  | j + 18, h => exact absurd h (by omega)
def ks_2 : List Int32 := [50, 65, 56, 54, 52, 56, 56, 54, 70, 55, 48, 68, 48, 49, 48, 49, 48, 49]
set_option maxRecDepth 100000 in
theorem el_s2 : ∀ j, j < 18 → Cond.eq (.elem (.field (.string "TrustChainModel$Text" 307) "java/lang/String" "value" "[B") (.int (Int32.ofNat j))) (.int (ks_2.getD j 0)) ∈ pre1 := by
  intro j hj
  match j, hj with
  | 0, _ => exact List.mem_of_getElem? (i := 541) rfl
  | 1, _ => exact List.mem_of_getElem? (i := 542) rfl
  | 2, _ => exact List.mem_of_getElem? (i := 543) rfl
  | 3, _ => exact List.mem_of_getElem? (i := 544) rfl
  | 4, _ => exact List.mem_of_getElem? (i := 545) rfl
  | 5, _ => exact List.mem_of_getElem? (i := 546) rfl
  | 6, _ => exact List.mem_of_getElem? (i := 547) rfl
  | 7, _ => exact List.mem_of_getElem? (i := 548) rfl
  | 8, _ => exact List.mem_of_getElem? (i := 549) rfl
  | 9, _ => exact List.mem_of_getElem? (i := 550) rfl
  | 10, _ => exact List.mem_of_getElem? (i := 551) rfl
  | 11, _ => exact List.mem_of_getElem? (i := 552) rfl
  | 12, _ => exact List.mem_of_getElem? (i := 553) rfl
  | 13, _ => exact List.mem_of_getElem? (i := 554) rfl
  | 14, _ => exact List.mem_of_getElem? (i := 555) rfl
  | 15, _ => exact List.mem_of_getElem? (i := 556) rfl
  | 16, _ => exact List.mem_of_getElem? (i := 557) rfl
  | 17, _ => exact List.mem_of_getElem? (i := 558) rfl
  | j + 18, h => exact absurd h (by omega)
def ks_3 : List Int32 := [51, 48, 51, 49, 51, 48, 48, 68, 48, 54, 48, 57, 54, 48, 56, 54, 52, 56, 48, 49, 54, 53, 48, 51, 48, 52, 48, 50, 48, 49, 48, 53, 48, 48, 48, 52, 50, 48]
set_option maxRecDepth 100000 in
theorem el_s3 : ∀ j, j < 38 → Cond.eq (.elem (.field (.string "TrustChainModel" 296) "java/lang/String" "value" "[B") (.int (Int32.ofNat j))) (.int (ks_3.getD j 0)) ∈ pre1 := by
  intro j hj
  match j, hj with
  | 0, _ => exact List.mem_of_getElem? (i := 576) rfl
  | 1, _ => exact List.mem_of_getElem? (i := 577) rfl
  | 2, _ => exact List.mem_of_getElem? (i := 578) rfl
  | 3, _ => exact List.mem_of_getElem? (i := 579) rfl
  | 4, _ => exact List.mem_of_getElem? (i := 580) rfl
  | 5, _ => exact List.mem_of_getElem? (i := 581) rfl
  | 6, _ => exact List.mem_of_getElem? (i := 582) rfl
  | 7, _ => exact List.mem_of_getElem? (i := 583) rfl
  | 8, _ => exact List.mem_of_getElem? (i := 584) rfl
  | 9, _ => exact List.mem_of_getElem? (i := 585) rfl
  | 10, _ => exact List.mem_of_getElem? (i := 586) rfl
  | 11, _ => exact List.mem_of_getElem? (i := 587) rfl
  | 12, _ => exact List.mem_of_getElem? (i := 588) rfl
  | 13, _ => exact List.mem_of_getElem? (i := 589) rfl
  | 14, _ => exact List.mem_of_getElem? (i := 590) rfl
  | 15, _ => exact List.mem_of_getElem? (i := 591) rfl
  | 16, _ => exact List.mem_of_getElem? (i := 592) rfl
  | 17, _ => exact List.mem_of_getElem? (i := 593) rfl
  | 18, _ => exact List.mem_of_getElem? (i := 594) rfl
  | 19, _ => exact List.mem_of_getElem? (i := 595) rfl
  | 20, _ => exact List.mem_of_getElem? (i := 596) rfl
  | 21, _ => exact List.mem_of_getElem? (i := 597) rfl
  | 22, _ => exact List.mem_of_getElem? (i := 598) rfl
  | 23, _ => exact List.mem_of_getElem? (i := 599) rfl
  | 24, _ => exact List.mem_of_getElem? (i := 600) rfl
  | 25, _ => exact List.mem_of_getElem? (i := 601) rfl
  | 26, _ => exact List.mem_of_getElem? (i := 602) rfl
  | 27, _ => exact List.mem_of_getElem? (i := 603) rfl
  | 28, _ => exact List.mem_of_getElem? (i := 604) rfl
  | 29, _ => exact List.mem_of_getElem? (i := 605) rfl
  | 30, _ => exact List.mem_of_getElem? (i := 606) rfl
  | 31, _ => exact List.mem_of_getElem? (i := 607) rfl
  | 32, _ => exact List.mem_of_getElem? (i := 608) rfl
  | 33, _ => exact List.mem_of_getElem? (i := 609) rfl
  | 34, _ => exact List.mem_of_getElem? (i := 610) rfl
  | 35, _ => exact List.mem_of_getElem? (i := 611) rfl
  | 36, _ => exact List.mem_of_getElem? (i := 612) rfl
  | 37, _ => exact List.mem_of_getElem? (i := 613) rfl
  | j + 38, h => exact absurd h (by omega)
theorem str_one {args : Array Value} {s : State} {own tx : String} {k : Nat} (bs : List Int32) (hN : bs.length < 2 ^ 31) (hr : (Cond.stringRef own k tx).before args s = true) (hex : (Cond.exactly (.string own k) "java/lang/String").before args s = true)
    (hco : (Cond.eq (.field (.string own k) "java/lang/String" "coder" "B") (.int 0)).before args s = true) (har : (Cond.arrayOf (.field (.string own k) "java/lang/String" "value" "[B") .byte).before args s = true)
    (hle : (Cond.eq (.length (.field (.string own k) "java/lang/String" "value" "[B")) (.int (Int32.ofNat bs.length))).before args s = true)
    (hel : ∀ j, j < bs.length → (Cond.eq (.elem (.field (.string own k) "java/lang/String" "value" "[B") (.int (Int32.ofNat j))) (.int (bs.getD j 0))).before args s = true) :
    ∃ a t : Nat, vk_R own k tx a s ∧ va_O "java/lang/String" a (fun q => s.heap.size ≤ q) s s.heap ∧ va_OF "java/lang/String" "coder" "B" (.int 0) a (fun q => s.heap.size ≤ q) s s.heap ∧ va_OF "java/lang/String" "value" "[B" (.ref t) a (fun q => s.heap.size ≤ q) s s.heap ∧ va_T .byte t bs.length (fun j => .int (bs.getD j 0)) (fun q => s.heap.size ≤ q) s s.heap := by
  have hA : ∀ a : Nat, a < s.heap.size → ¬ (fun q => s.heap.size ≤ q) a := fun a h => Nat.not_le.mpr h
  obtain ⟨adK, adV, hS, hev⟩ := vk_Sof (N := 1) (tm := fun _ => .string own k) (len := [bs.length]) (byt := [bs]) (A := fun q => s.heap.size ≤ q)
    (fun i hi => by obtain rfl : i = 0 := by omega
                    exact hN) (fun _ _ => hex) (fun _ _ => hco) (fun _ _ => har)
    (fun i hi => by obtain rfl : i = 0 := by omega
                    exact hle)
    (fun i hi j hj => by obtain rfl : i = 0 := by omega
                         exact hel j hj) (fun i j hi hj hne => absurd (show i = j by omega) hne) hA
  exact ⟨adK 0, adV 0, vk_R.of hr (hev 0 (by omega)), hS.1 0 (by omega)⟩
set_option maxHeartbeats 4000000 in
set_option maxRecDepth 100000 in
/-- what every contract asks, where the law begins -/
theorem base_ok {args : Array Value} {s : State} (hts : ∀ w ∈ lw_tbl, w.before args s = true) (hgv : (Jvm.Cond.and given_1 narrow_1).before args s = true) :
    ∃ (dC : Nat → ClassId) (dI : Nat → Nat → Nat) (cB cI cJ cO cX : ClassId) (sb : sB), (∀ w ∈ tb, w.before args s = true) ∧ va_K (dC, dI) classes [(cB, .byte), (cI, .int), (cJ, .long), (cO, .object "java/lang/Object"), (cX, .object "TrustChainModel$Text")] s ∧ nwOK sb s ∧ stOK sb s s.heap ∧ sb.1 = s.heap.size := by
  have htb := tb_ok hts
  have hs := flatA_ok _ hgv [] (fun c h => by cases h)
  have hA : ∀ a : Nat, a < s.heap.size → ¬ (fun q => s.heap.size ≤ q) a := fun a h => Nat.not_le.mpr h
  obtain ⟨c0, iS0, hKn0⟩ := u_known (C := "TrustChain$Slice") (T := F_Slice) (N := 3) (n := 3) htb i_Slice (htb _ q2_92)
  obtain ⟨c1, iS1, hKn1⟩ := u_known (C := "TrustChain$NameSet") (T := F_NameSet) (N := 2) (n := 2) htb i_NameSet (htb _ q2_119)
  obtain ⟨c2, iS2, hKn2⟩ := u_known (C := "TrustChain$Paper") (T := F_Paper) (N := 9) (n := 9) htb i_Paper (htb _ q5_61)
  obtain ⟨c3, iS3, hKn3⟩ := u_known (C := "TrustChain$Certificate") (T := F_Certificate) (N := 28) (n := 28) htb i_Certificate (htb _ q2_90)
  obtain ⟨c4, iS4, hKn4⟩ := u_known (C := "TrustChain$CertificateReader") (T := F_CertificateReader) (N := 9) (n := 9) htb i_CertificateReader (htb _ q2_59)
  obtain ⟨c5, iS5, hKn5⟩ := u_known (C := "TrustChain$ListReader") (T := F_ListReader) (N := 10) (n := 10) htb i_ListReader (htb _ q5_55)
  obtain ⟨c6, iS6, hKn6⟩ := u_known (C := "TrustChain$Sha256") (T := F_Sha256) (N := 1) (n := 1) htb i_Sha256 (htb _ q1_69)
  obtain ⟨c7, iS7, hKn7⟩ := u_known (C := "TrustChain$Rsa") (T := F_Rsa) (N := 8) (n := 8) htb i_Rsa (htb _ q1_80)
  obtain ⟨c8, iS8, hKn8⟩ := u_known (C := "TrustChain$Search") (T := F_Search) (N := 5) (n := 5) htb i_Search (htb _ q1_112)
  obtain ⟨c9, iS9, hKn9⟩ := u_known (C := "TrustChain$PathCheck") (T := F_PathCheck) (N := 4) (n := 4) htb i_PathCheck (htb _ q1_137)
  obtain ⟨c10, iS10, hKn10⟩ := u_known (C := "TrustChain") (T := F_Trust) (N := 14) (n := 14) htb i_Trust (htb _ q1_34)
  obtain ⟨c11, iS11, hKn11⟩ := u_known (C := "java/util/ArrayList") (T := F_AL) (N := 3) (n := 3) htb i_AL (htb _ q1_42)
  obtain ⟨c12, iS12, hKn12⟩ := u_known (C := "TrustChainModel") (T := F_Model) (N := 32) (n := 32) htb i_Model (htb _ q6_166)
  obtain ⟨c13, iS13, hKn13⟩ := u_known (C := "TrustChainModel$Text") (T := F_Text) (N := 54) (n := 54) htb i_Text (htb _ q6_173)
  obtain ⟨cB, hB⟩ := arr_ok (Or.inr (Or.inr rfl)) (htb _ q1_67)
  obtain ⟨cI, hI⟩ := arr_ok (Or.inl rfl) (htb _ q1_78)
  obtain ⟨cJ, hJ⟩ := arr_ok (Or.inr (Or.inl rfl)) (htb _ q1_110)
  obtain ⟨cO, hO⟩ := arr_okO (hts _ q4_160)
  obtain ⟨cX, hX⟩ := arr_okO (hts _ q6_172)
  obtain ⟨t0, hz0, ht0⟩ := st_one (C := "TrustChain$Reader") (nm := "PKCS1") sv_PKCS1 (by decide) (hts _ q3_182) (htb _ q1_15) (hs _ (List.mem_of_getElem? (i := 11) rfl)) (hs _ (List.mem_of_getElem? (i := 12) rfl)) (fun j hj => hs _ (el_PKCS1 j hj))
  obtain ⟨t1, hz1, ht1⟩ := st_one (C := "TrustChain$Reader") (nm := "MONTH_STARTS") sv_MONTH_STARTS (by decide) (hts _ q4_11) (htb _ q1_15) (hs _ (List.mem_of_getElem? (i := 22) rfl)) (hs _ (List.mem_of_getElem? (i := 23) rfl)) (fun j hj => hs _ (el_MONTH_STARTS j hj))
  obtain ⟨t2, hz2, ht2⟩ := st_one (C := "TrustChain$Sha256") (nm := "START") sv_START (by decide) (hts _ q5_14) (htb _ q1_5) (hs _ (List.mem_of_getElem? (i := 38) rfl)) (hs _ (List.mem_of_getElem? (i := 39) rfl)) (fun j hj => hs _ (el_START j hj))
  obtain ⟨t3, hz3, ht3⟩ := st_one (C := "TrustChain$Sha256") (nm := "ROUND") sv_ROUND (by decide) (hts _ q5_33) (htb _ q1_5) (hs _ (List.mem_of_getElem? (i := 49) rfl)) (hs _ (List.mem_of_getElem? (i := 50) rfl)) (fun j hj => hs _ (el_ROUND j hj))
  obtain ⟨t4, hz4, ht4⟩ := st_one (C := "TrustChain$Rsa") (nm := "PREFIX") sv_PREFIX (by decide) (hts _ q5_222) (htb _ q1_6) (hs _ (List.mem_of_getElem? (i := 116) rfl)) (hs _ (List.mem_of_getElem? (i := 117) rfl)) (fun j hj => hs _ (el_PREFIX j hj))
  obtain ⟨t5, he5, ht5⟩ := va_Tof (s := s) (args := args) (tm := .static "java/util/ArrayList" "DEFAULTCAPACITY_EMPTY_ELEMENTDATA" "[Ljava/lang/Object;") (ty := .object "java/lang/Object") (N := 0) (f := fun _ => .null) (A := fun q => s.heap.size ≤ q) (by decide) (hs _ (by decide +kernel)) (va_eqt (hs _ (by decide +kernel))) (fun j hj => absurd hj (Nat.not_lt_zero j)) hA
  have hz5 := va_Zref (A := fun q => s.heap.size ≤ q) (hts _ q1_54) (htb _ q1_4) he5 hA
  obtain ⟨a0, b0, hr0, hk0⟩ := str_one (own := "TrustChainModel$Text") (k := 113) (tx := " '()+,-./:=?") ks_0 (by decide) (hts _ q8_204) (hs _ (List.mem_of_getElem? (i := 509) rfl)) (hs _ (List.mem_of_getElem? (i := 510) rfl)) (hs _ (List.mem_of_getElem? (i := 511) rfl)) (hs _ (List.mem_of_getElem? (i := 512) rfl)) (fun j hj => hs _ (el_s0 j hj))
  obtain ⟨a1, b1, hr1, hk1⟩ := str_one (own := "TrustChainModel$Text") (k := 264) (tx := "2A864886F70D01010B") ks_1 (by decide) (hts _ q8_118) (hs _ (List.mem_of_getElem? (i := 476) rfl)) (hs _ (List.mem_of_getElem? (i := 477) rfl)) (hs _ (List.mem_of_getElem? (i := 478) rfl)) (hs _ (List.mem_of_getElem? (i := 479) rfl)) (fun j hj => hs _ (el_s1 j hj))
  obtain ⟨a2, b2, hr2, hk2⟩ := str_one (own := "TrustChainModel$Text") (k := 307) (tx := "2A864886F70D010101") ks_2 (by decide) (hts _ q9_39) (hs _ (List.mem_of_getElem? (i := 537) rfl)) (hs _ (List.mem_of_getElem? (i := 538) rfl)) (hs _ (List.mem_of_getElem? (i := 539) rfl)) (hs _ (List.mem_of_getElem? (i := 540) rfl)) (fun j hj => hs _ (el_s2 j hj))
  obtain ⟨a3, b3, hr3, hk3⟩ := str_one (own := "TrustChainModel") (k := 296) (tx := "3031300D060960864801650304020105000420") ks_3 (by decide) (hts _ q9_127) (hs _ (List.mem_of_getElem? (i := 572) rfl)) (hs _ (List.mem_of_getElem? (i := 573) rfl)) (hs _ (List.mem_of_getElem? (i := 574) rfl)) (hs _ (List.mem_of_getElem? (i := 575) rfl)) (fun j hj => hs _ (el_s3 j hj))
  have hcs := va_Zof (C := "java/lang/String") (n := "COMPACT_STRINGS") (d := "Z") (v := .int 1) (A := fun q => s.heap.size ≤ q) (hts _ q8_140) (htb _ q1_28) (va_eqt (hs _ (by decide +kernel))) hA
  have hsf := va_Zqof (C := "jdk/internal/util/Preconditions") (n := "SIOOBE_FORMATTER") (d := "Ljava/util/function/BiFunction;") (A := fun q => s.heap.size ≤ q) (hts _ q8_156) (htb _ q1_26) (hs _ (by decide +kernel)) hA
  obtain ⟨mi, hmi⟩ := va_Mi.of (hs _ (List.mem_of_getElem? (i := 172) rfl))
  refine ⟨fun k => [c0, c1, c2, c3, c4, c5, c6, c7, c8, c9, c10, c11, c12, c13].getD k c0, fun k => [iS0, iS1, iS2, iS3, iS4, iS5, iS6, iS7, iS8, iS9, iS10, iS11, iS12, iS13].getD k iS0, cB, cI, cJ, cO, cX, (s.heap.size, fun k => [t0, t1, t2, t3, t4, t5, 0, 0, 0, mi, a0, a1, a2, a3, 0, 0, 0, 0, 0, 0, b0, b1, b2, b3].getD k 0), htb, ⟨?_, ?_⟩, ⟨nw_ok hts, fun k z hz => match k, hz with | 0, hz => by cases hz; exact hr0 | 1, hz => by cases hz; exact hr1 | 2, hz => by cases hz; exact hr2 | 3, hz => by cases hz; exact hr3 | k + 4, hz => by simp [kstr] at hz, hmi⟩, ⟨⟨hz0, ht0⟩, ⟨hz1, ht1⟩, ⟨hz2, ht2⟩, ⟨hz3, ht3⟩, ⟨hz4, ht4⟩, ⟨hz5, ht5⟩, fun k z hz => match k, hz with | 0, hz => by cases hz; exact hk0 | 1, hz => by cases hz; exact hk1 | 2, hz => by cases hz; exact hk2 | 3, hz => by cases hz; exact hk3 | k + 4, hz => by simp [kstr] at hz, hcs, hsf⟩, rfl⟩
  · intro k q hq
    match k, hq with
    | 0, hq => cases hq; exact hKn0
    | 1, hq => cases hq; exact hKn1
    | 2, hq => cases hq; exact hKn2
    | 3, hq => cases hq; exact hKn3
    | 4, hq => cases hq; exact hKn4
    | 5, hq => cases hq; exact hKn5
    | 6, hq => cases hq; exact hKn6
    | 7, hq => cases hq; exact hKn7
    | 8, hq => cases hq; exact hKn8
    | 9, hq => cases hq; exact hKn9
    | 10, hq => cases hq; exact hKn10
    | 11, hq => cases hq; exact hKn11
    | 12, hq => cases hq; exact hKn12
    | 13, hq => cases hq; exact hKn13
    | k + 14, hq => simp [classes] at hq
  · intro k q hq
    match k, hq with
    | 0, hq => cases hq; exact hB
    | 1, hq => cases hq; exact hI
    | 2, hq => cases hq; exact hJ
    | 3, hq => cases hq; exact hO
    | 4, hq => cases hq; exact hX
    | k + 5, hq => simp at hq
