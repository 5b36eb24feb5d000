/-! The reference's Text. An answer: 1 with what was read, or 0 and where it is wrong. -/
def tI (u : Nat → Nat) : Nat → Int32 := fun j => nI (u j)
theorem tI_at {u : Nat → Nat} {k : Nat} (h : k < 2 ^ 31) : tI u (nI k).toNatClampNeg = nI (u k) := by
  rw [nI_clamp h]; rfl
def eb {α β : Type} (x : Nat ⊕ α) (f : α → Nat ⊕ β) : Nat ⊕ β := match x with
  | .inl w => .inl w
  | .inr a => f a
theorem eb_ok {α β : Type} {x : Nat ⊕ α} {f : α → Nat ⊕ β} {a : α} (h : x = .inr a) : eb x f = f a := by rw [h]; rfl
theorem eb_no {α β : Type} {x : Nat ⊕ α} {f : α → Nat ⊕ β} {w : Nat} (h : x = .inl w) : eb x f = .inl w := by rw [h]; rfl
/-- while (M) B, after f turns at most -/
noncomputable def loopE {α : Type} (B : α → Nat ⊕ α) (M : α → Prop) : Nat → α → Nat ⊕ α
  | 0, s => .inr s
  | f + 1, s => @ite _ (M s) (Classical.propDecidable _) (eb (B s) (loopE B M f)) (.inr s)
theorem loopE_go {α : Type} {B : α → Nat ⊕ α} {M : α → Prop} {N k : Nat} {s s' : α} {T : Nat ⊕ α} (h : loopE B M (N - k) s = T) (hk : k < N) (hM : M s) (hB : B s = .inr s') : loopE B M (N - (k + 1)) s' = T := by
  rw [← h, show N - k = (N - (k + 1)) + 1 by omega]
  exact ((if_pos hM).trans (eb_ok hB)).symm
theorem loopE_fail {α : Type} {B : α → Nat ⊕ α} {M : α → Prop} {N k w : Nat} {s : α} {T : Nat ⊕ α} (h : loopE B M (N - k) s = T) (hk : k < N) (hM : M s) (hB : B s = .inl w) : T = .inl w := by
  rw [← h, show N - k = (N - (k + 1)) + 1 by omega]
  exact (if_pos hM).trans (eb_no hB)
theorem loopE_stop {α : Type} {B : α → Nat ⊕ α} {M : α → Prop} {f : Nat} {s : α} {T : Nat ⊕ α} (h : loopE B M f s = T) (hM : ¬ M s) : T = .inr s := by
  rw [← h]
  cases f with
  | zero => rfl
  | succ f => exact if_neg hM
/-- arrays that hold a list of pairs -/
def arrOK (g h : Nat → Int32) (D : List (Nat × Nat)) : Prop := ∀ i, i < D.length → g i = nI (D.getD i (0, 0)).1 ∧ h i = nI (D.getD i (0, 0)).2
def arrOK3 (g h k : Nat → Int32) (D : List (Nat × Nat × Nat)) : Prop := ∀ i, i < D.length → g i = nI (D.getD i (0, 0, 0)).1 ∧ h i = nI (D.getD i (0, 0, 0)).2.1 ∧ k i = nI (D.getD i (0, 0, 0)).2.2
theorem arrOK.nil (g h : Nat → Int32) : arrOK g h [] := fun i hi => absurd hi (Nat.not_lt_zero i)
theorem arrOK3.nil (g h k : Nat → Int32) : arrOK3 g h k [] := fun i hi => absurd hi (Nat.not_lt_zero i)
theorem arrOK.snoc {g h : Nat → Int32} {D : List (Nat × Nat)} {a b : Nat} (H : arrOK g h D) (hl : D.length < 2 ^ 31) : arrOK (upd g (nI D.length).toNatClampNeg (nI a)) (upd h (nI D.length).toNatClampNeg (nI b)) (D ++ [(a, b)]) := fun i hi => by
  rw [List.length_append] at hi
  have hi : i < D.length + 1 := hi
  rw [nI_clamp hl]
  rcases Nat.lt_succ_iff_lt_or_eq.mp hi with h1 | h1
  · rw [(getD_snoc D (a, b) (0, 0) i).1 h1]
    have e : ∀ f : Nat → Int32, ∀ v, upd f D.length v i = f i := fun f v => if_neg (by omega)
    rw [e, e]
    exact H i h1
  · rw [(getD_snoc D (a, b) (0, 0) i).2 h1]
    have e : ∀ f : Nat → Int32, ∀ v, upd f D.length v i = v := fun f v => if_pos h1
    rw [e, e]
    exact ⟨rfl, rfl⟩
theorem arrOK3.snoc {g h k : Nat → Int32} {D : List (Nat × Nat × Nat)} {a b c : Nat} (H : arrOK3 g h k D) (hl : D.length < 2 ^ 31) : arrOK3 (upd g (nI D.length).toNatClampNeg (nI a)) (upd h (nI D.length).toNatClampNeg (nI b)) (upd k (nI D.length).toNatClampNeg (nI c)) (D ++ [(a, b, c)]) := fun i hi => by
  rw [List.length_append] at hi
  have hi : i < D.length + 1 := hi
  rw [nI_clamp hl]
  rcases Nat.lt_succ_iff_lt_or_eq.mp hi with h1 | h1
  · rw [(getD_snoc D (a, b, c) (0, 0, 0) i).1 h1]
    have e : ∀ f : Nat → Int32, ∀ v, upd f D.length v i = f i := fun f v => if_neg (by omega)
    rw [e, e, e]
    exact H i h1
  · rw [(getD_snoc D (a, b, c) (0, 0, 0) i).2 h1]
    have e : ∀ f : Nat → Int32, ∀ v, upd f D.length v i = v := fun f v => if_pos h1
    rw [e, e, e]
    exact ⟨rfl, rfl, rfl⟩
theorem in_nat {r : Int32} {a b c : Nat} (ha : a < 2 ^ 31) (hb : b < 2 ^ 31) (hc : c < 2 ^ 31) (h : bz r (¬ nI a < nI b ∧ ¬ nI c < nI a)) : bz r (b ≤ a ∧ a ≤ c) := by
  rw [nI_ltI ha hb, nI_ltI hc ha] at h
  exact bz_c h ⟨fun q => by omega, fun q => by omega⟩
theorem nI_idiv {a b : Nat} (ha : a < 2 ^ 31) (hb : 0 < b) (hb2 : b < 2 ^ 31) : nI a / nI b = nI (a / b) := by
  apply Int32.toInt_inj.mp
  rw [Int32.toInt_div_of_ne_right, nI_toInt ha, nI_toInt hb2, nI_toInt (Nat.lt_of_le_of_lt (Nat.div_le_self _ _) ha)]
  · exact (Int.ofNat_tdiv a b).symm
  · intro h
    have := congrArg Int32.toInt h
    rw [nI_toInt hb2] at this
    have h1 : (-1 : Int32).toInt = -1 := by decide
    rw [h1] at this
    omega
theorem nI_irem {a b : Nat} (ha : a < 2 ^ 31) (hb : 0 < b) (hb2 : b < 2 ^ 31) : nI a - nI a / nI b * nI b = nI (a % b) := by
  rw [nI_idiv ha hb hb2, nI_mul, pk_sub (Nat.div_mul_le_self a b)]
  congr 1
  have := Nat.div_add_mod a b
  rw [Nat.mul_comm] at this
  omega
theorem nI_m1 {a : Nat} (h : 1 ≤ a) : nI a + (-1) = nI (a - 1) := (show nI a + (-1) = nI a - nI 1 from by rw [Int32.sub_eq_add_neg]; rfl).trans (pk_sub h)
def tgE (u : Nat → Nat) (p en : Nat) : Int32 := if p < en then nI (u p) else -1
section PSN
variable {p : Program} {l : Launch} {e : Env} {R : Room} {s : State} {m : MethodId} {args : Array Value} {below : List Frame} {meth : Method} {c : Code} {H : Heap} {locs : List Loc} {cells slots : Nat} {Q : State → Prop}
variable {pc : Nat} {ls : Array Slot} {rest st0 : List Value} {cc bytes : ByteArray} {nL maxL index : Nat} {Ts : List Cond} {own host : String} {y : MethodName} {ret : Option FieldType} {rm : Room} {D : va_G} {ws wsB : va_W} {tys tysB : List (ClassId × FieldType)} {As : List Value} {n : Nat} {sb : sB}
theorem pu_callSN {Qc : Array Value → State → Outcome → State → Prop} (S : CallFix p m c cc nL s args Ts own) (hin : ∀ w ∈ tb, w ∈ Ts) (hM : Met l y (Cond.code y bytes maxL ret :: tb) rm (pu_P As D sb ws tys) Qc 0 0 (fun _ => False))
    (h1 : Cond.methodLinkNest own index y host ∈ nwords) (h2 : Cond.static y ∈ tb) (h4 : Cond.initialized y.cls ∈ tb) (h5 : Cond.code y bytes maxL ret ∈ tb)
    (hd : y.cls ≠ "java/lang/invoke/MethodHandle" ∧ y.cls ≠ "java/lang/invoke/VarHandle" ∧ (parseMethodDescriptor y.desc).map (fun d => d.parameters.length) = some n) (hn : As.length = n)
    (hz : rm.cells = 0 ∧ rm.slots = 0) (hR : rm.frames + 1 ≤ R.frames ∧ 8 + (maxL + 11) + rm.locals ≤ R.locals) (hf : cells ≤ R.cells ∧ slots ≤ R.slots)
    (hN : nwOK sb s) (hT : stOK sb s H) (hK : va_K D classes tysB s) (hP : va_P D classes wsB H) (is : List Nat) (hs : is.filterMap (fun i => wsB[i]?) = ws) (ts : List Nat) (ht : ts.filterMap (fun i => tysB[i]?) = tys)
    (hsize : ls.size = nL) (hstack : st0 = As.reverse ++ rest) (hW : (rest.map fun v => v.category).sum ≤ 8) (hdg : decode cc pc = .ok (.invokestatic index, 3)) :
    CallRun p l e R s m args below meth c H locs cells slots 0 0 (F0 m pc ls st0) rest (Qc As.toArray) (fun _ => False) := by
  subst hstack
  subst hn
  exact va_Run.run (va_runSN (As := As) (rest := rest) S hM ⟨va_cnB As.length S.2.2.2.2 (gd_in hin (gd_cons h5)) rfl hz.1 hz.2 (hN.1 _ h1) (S.2.2.2.2 _ (hin _ h4)) hd hR, S.2.2.2.2 _ (hin _ h2), trivial⟩ ⟨pu_blind, pu_pre hN hT hK hP is hs ts ht⟩ rfl rfl hsize rfl (lv_room hW) hdg ⟨hf.1, hf.2⟩)
end PSN
theorem sh8 {a b : Nat} (ha : a < 256) (hb : b < 256) : (nI a <<< ((8 : Int32) &&& 31)) ||| nI b = nI (a * 256 + b) := by
  rw [show ((8 : Int32) &&& 31) = 8 from by decide]
  have h := Nat.shiftLeft_add_eq_or_of_lt (show b < 2 ^ 8 from hb) a
  apply Int32.toBitVec_inj.mp
  apply BitVec.eq_of_toNat_eq
  show ((nI a).toBitVec <<< (BitVec.smod (8 : Int32).toBitVec 32) ||| (nI b).toBitVec).toNat = (nI (a * 256 + b)).toBitVec.toNat
  rw [show BitVec.smod (8 : Int32).toBitVec 32 = 8#32 from by decide]
  have e1 : (nI a).toBitVec = BitVec.ofNat 32 a := rfl
  have e2 : (nI b).toBitVec = BitVec.ofNat 32 b := rfl
  have e3 : (nI (a * 256 + b)).toBitVec = BitVec.ofNat 32 (a * 256 + b) := rfl
  rw [e1, e2, e3, BitVec.toNat_or, BitVec.toNat_ofNat, BitVec.toNat_ofNat, BitVec.shiftLeft_eq', BitVec.toNat_shiftLeft, BitVec.toNat_ofNat]
  rw [show (8#32).toNat = 8 from rfl, Nat.mod_eq_of_lt (show a < 2 ^ 32 by omega), Nat.mod_eq_of_lt (show b < 2 ^ 32 by omega), Nat.mod_eq_of_lt (show a * 256 + b < 2 ^ 32 by omega)]
  rw [Nat.shiftLeft_eq] at h ⊢
  rw [Nat.mod_eq_of_lt (show a * 2 ^ 8 < 2 ^ 32 by omega), ← h]
set_option maxHeartbeats 4000000 in
set_option maxRecDepth 100000 in
theorem t_bad (l : Launch) (dC : Nat → ClassId) (dI : Nat → Nat → Nat) (sb : sB) (q d0 r_dnsAt r_dnsEnd r_dirAt r_dirEnd r_treeAt r_treeEnd r_treeKind r_entryAt r_entryEnd r_oidAt r_oidEnd : Nat) (f_n f_p f_from f_to f_place f_serial f_serialEnd f_issuer f_issuerEnd f_subject f_subjectEnd f_subjectParts f_parts f_modulus f_modulusEnd f_exponent f_tbs f_tbsEnd f_signature f_signatureEnd f_length f_usage f_dns f_dirs f_extensions f_matters f_ownKey f_ownKeyEnd f_issuerKey f_issuerKeyEnd f_trees f_entries f_oids f_nameAt f_nameEnd f_ca f_basic f_trusted : Int32) (f_time0 f_time1 f_latest : Int64) (cI : ClassId) (u : Nat → Nat) (k : Nat)  (sz : Nat) : Met l y_Text_bad w_Text_bad ({ frames := 0, cells := 0, slots := 0, locals := 0 }) (mu_P [.ref q, .int (nI k)] (dC, dI) sb [(q, .inr (13, (.ref d0 :: .int f_n :: .int f_p :: .int (-1) :: .int f_from :: .int f_to :: .int f_place :: .long f_time0 :: .long f_time1 :: .long f_latest :: .int f_serial :: .int f_serialEnd :: .int f_issuer :: .int f_issuerEnd :: .int f_subject :: .int f_subjectEnd :: .int f_subjectParts :: .int f_parts :: .int f_modulus :: .int f_modulusEnd :: .int f_exponent :: .int f_tbs :: .int f_tbsEnd :: .int f_signature :: .int f_signatureEnd :: .int f_length :: .int f_usage :: .int f_dns :: .int f_dirs :: .int f_extensions :: .int f_matters :: .int f_ownKey :: .int f_ownKeyEnd :: .int f_issuerKey :: .int f_issuerKeyEnd :: .int f_trees :: .int f_entries :: .int f_oids :: .int f_nameAt :: .int f_nameEnd :: .int f_ca :: .int f_basic :: .int f_trusted :: .ref r_dnsAt :: .ref r_dnsEnd :: .ref r_dirAt :: .ref r_dirEnd :: .ref r_treeAt :: .ref r_treeEnd :: .ref r_treeKind :: .ref r_entryAt :: .ref r_entryEnd :: .ref r_oidAt :: .ref r_oidEnd :: [])))] [] sz) (va_Qi (fun r (_u : Unit) => r = 0) (mu_B (dC, dI) [] (va_A [(q, .inr (13, (.ref d0 :: .int f_n :: .int f_p :: .int (-1) :: .int f_from :: .int f_to :: .int f_place :: .long f_time0 :: .long f_time1 :: .long f_latest :: .int f_serial :: .int f_serialEnd :: .int f_issuer :: .int f_issuerEnd :: .int f_subject :: .int f_subjectEnd :: .int f_subjectParts :: .int f_parts :: .int f_modulus :: .int f_modulusEnd :: .int f_exponent :: .int f_tbs :: .int f_tbsEnd :: .int f_signature :: .int f_signatureEnd :: .int f_length :: .int f_usage :: .int f_dns :: .int f_dirs :: .int f_extensions :: .int f_matters :: .int f_ownKey :: .int f_ownKeyEnd :: .int f_issuerKey :: .int f_issuerKeyEnd :: .int f_trees :: .int f_entries :: .int f_oids :: .int f_nameAt :: .int f_nameEnd :: .int f_ca :: .int f_basic :: .int f_trusted :: .ref r_dnsAt :: .ref r_dnsEnd :: .ref r_dirAt :: .ref r_dirEnd :: .ref r_treeAt :: .ref r_treeEnd :: .ref r_treeKind :: .ref r_entryAt :: .ref r_entryEnd :: .ref r_oidAt :: .ref r_oidEnd :: [])))] sz) (fun _ : Unit => [(q, .inr (13, (.ref d0 :: .int f_n :: .int f_p :: .int (nI k) :: .int f_from :: .int f_to :: .int f_place :: .long f_time0 :: .long f_time1 :: .long f_latest :: .int f_serial :: .int f_serialEnd :: .int f_issuer :: .int f_issuerEnd :: .int f_subject :: .int f_subjectEnd :: .int f_subjectParts :: .int f_parts :: .int f_modulus :: .int f_modulusEnd :: .int f_exponent :: .int f_tbs :: .int f_tbsEnd :: .int f_signature :: .int f_signatureEnd :: .int f_length :: .int f_usage :: .int f_dns :: .int f_dirs :: .int f_extensions :: .int f_matters :: .int f_ownKey :: .int f_ownKeyEnd :: .int f_issuerKey :: .int f_issuerKeyEnd :: .int f_trees :: .int f_entries :: .int f_oids :: .int f_nameAt :: .int f_nameEnd :: .int f_ca :: .int f_basic :: .int f_trusted :: .ref r_dnsAt :: .ref r_dnsEnd :: .ref r_dirAt :: .ref r_dirEnd :: .ref r_treeAt :: .ref r_treeEnd :: .ref r_treeKind :: .ref r_entryAt :: .ref r_entryEnd :: .ref r_oidAt :: .ref r_oidEnd :: [])))])) (va_A [(q, .inr (13, (.ref d0 :: .int f_n :: .int f_p :: .int (-1) :: .int f_from :: .int f_to :: .int f_place :: .long f_time0 :: .long f_time1 :: .long f_latest :: .int f_serial :: .int f_serialEnd :: .int f_issuer :: .int f_issuerEnd :: .int f_subject :: .int f_subjectEnd :: .int f_subjectParts :: .int f_parts :: .int f_modulus :: .int f_modulusEnd :: .int f_exponent :: .int f_tbs :: .int f_tbsEnd :: .int f_signature :: .int f_signatureEnd :: .int f_length :: .int f_usage :: .int f_dns :: .int f_dirs :: .int f_extensions :: .int f_matters :: .int f_ownKey :: .int f_ownKeyEnd :: .int f_issuerKey :: .int f_issuerKeyEnd :: .int f_trees :: .int f_entries :: .int f_oids :: .int f_nameAt :: .int f_nameEnd :: .int f_ca :: .int f_basic :: .int f_trusted :: .ref r_dnsAt :: .ref r_dnsEnd :: .ref r_dirAt :: .ref r_dirEnd :: .ref r_treeAt :: .ref r_treeEnd :: .ref r_treeKind :: .ref r_entryAt :: .ref r_entryEnd :: .ref r_oidAt :: .ref r_oidEnd :: [])))] sz)) 0 0 (va_A [(q, .inr (13, (.ref d0 :: .int f_n :: .int f_p :: .int (-1) :: .int f_from :: .int f_to :: .int f_place :: .long f_time0 :: .long f_time1 :: .long f_latest :: .int f_serial :: .int f_serialEnd :: .int f_issuer :: .int f_issuerEnd :: .int f_subject :: .int f_subjectEnd :: .int f_subjectParts :: .int f_parts :: .int f_modulus :: .int f_modulusEnd :: .int f_exponent :: .int f_tbs :: .int f_tbsEnd :: .int f_signature :: .int f_signatureEnd :: .int f_length :: .int f_usage :: .int f_dns :: .int f_dirs :: .int f_extensions :: .int f_matters :: .int f_ownKey :: .int f_ownKeyEnd :: .int f_issuerKey :: .int f_issuerKeyEnd :: .int f_trees :: .int f_entries :: .int f_oids :: .int f_nameAt :: .int f_nameEnd :: .int f_ca :: .int f_basic :: .int f_trusted :: .ref r_dnsAt :: .ref r_dnsEnd :: .ref r_dirAt :: .ref r_dirEnd :: .ref r_treeAt :: .ref r_treeEnd :: .ref r_treeKind :: .ref r_entryAt :: .ref r_entryEnd :: .ref r_oidAt :: .ref r_oidEnd :: [])))] sz) := by
  refine Met.ofW (cc := b_Text_bad) (maxL := 2) (ret := (some FieldType.boolean)) (by decide) rfl ?_
  intro p e s m args below meth c s₁ B hml hv
  obtain ⟨rfl, hsz, hB0, hP, hK, hD0, hN, hT0⟩ := hv
  have hx := B.exec
  have hb := B.bytes
  have hr := B.returns
  have hts := atoms_spec (ws := w_Text_bad) B.pre
  have tbin : ∀ w ∈ tb, w ∈ w_Text_bad := fun w h => List.mem_cons_of_mem _ h
  have htb : ∀ w ∈ tb, w.before _ s = true := fun w h => hts w (tbin w h)
  have hown : s.vm.findClass "TrustChainModel$Text" = some m.cls := findClass_of_methodNamed B.named
  have hlocks := B.notSynchronized
  subst hsz
  have hD := hD0.self (sz := s.heap.size)
  generalize hAe : va_A [(q, .inr (13, (.ref d0 :: .int f_n :: .int f_p :: .int (-1) :: .int f_from :: .int f_to :: .int f_place :: .long f_time0 :: .long f_time1 :: .long f_latest :: .int f_serial :: .int f_serialEnd :: .int f_issuer :: .int f_issuerEnd :: .int f_subject :: .int f_subjectEnd :: .int f_subjectParts :: .int f_parts :: .int f_modulus :: .int f_modulusEnd :: .int f_exponent :: .int f_tbs :: .int f_tbsEnd :: .int f_signature :: .int f_signatureEnd :: .int f_length :: .int f_usage :: .int f_dns :: .int f_dirs :: .int f_extensions :: .int f_matters :: .int f_ownKey :: .int f_ownKeyEnd :: .int f_issuerKey :: .int f_issuerKeyEnd :: .int f_trees :: .int f_entries :: .int f_oids :: .int f_nameAt :: .int f_nameEnd :: .int f_ca :: .int f_basic :: .int f_trusted :: .ref r_dnsAt :: .ref r_dnsEnd :: .ref r_dirAt :: .ref r_dirEnd :: .ref r_treeAt :: .ref r_treeEnd :: .ref r_treeKind :: .ref r_entryAt :: .ref r_entryEnd :: .ref r_oidAt :: .ref r_oidEnd :: [])))] s.heap.size = A at hD ⊢
  have hA : ∀ q : Nat, s.heap.size ≤ q → A q := fun q h => by rw [← hAe]; exact Or.inr h
  have hAs : ∀ q : Nat, A q → sb.1 ≤ q := fun q h => by
    rw [← hAe] at h
    rcases h with ⟨k, e, h⟩ | h
    · exact hD0.2 k _ h
    · exact Nat.le_trans hB0 h
  have hS : va_S A s.heap s.heap [] := va_S.rf
  have hcs : 0 ≤ (headSpec w_Text_bad ({ frames := 0, cells := 0, slots := 0, locals := 0 })).room.cells ∧ 0 ≤ (headSpec w_Text_bad ({ frames := 0, cells := 0, slots := 0, locals := 0 })).room.slots := ⟨Nat.le_refl _, Nat.le_refl _⟩
  have hP : va_P (dC, dI) classes [(q, .inr (13, (.ref d0 :: .int f_n :: .int f_p :: .int (-1) :: .int f_from :: .int f_to :: .int f_place :: .long f_time0 :: .long f_time1 :: .long f_latest :: .int f_serial :: .int f_serialEnd :: .int f_issuer :: .int f_issuerEnd :: .int f_subject :: .int f_subjectEnd :: .int f_subjectParts :: .int f_parts :: .int f_modulus :: .int f_modulusEnd :: .int f_exponent :: .int f_tbs :: .int f_tbsEnd :: .int f_signature :: .int f_signatureEnd :: .int f_length :: .int f_usage :: .int f_dns :: .int f_dirs :: .int f_extensions :: .int f_matters :: .int f_ownKey :: .int f_ownKeyEnd :: .int f_issuerKey :: .int f_issuerKeyEnd :: .int f_trees :: .int f_entries :: .int f_oids :: .int f_nameAt :: .int f_nameEnd :: .int f_ca :: .int f_basic :: .int f_trusted :: .ref r_dnsAt :: .ref r_dnsEnd :: .ref r_dirAt :: .ref r_dirEnd :: .ref r_treeAt :: .ref r_treeEnd :: .ref r_treeKind :: .ref r_entryAt :: .ref r_entryEnd :: .ref r_oidAt :: .ref r_oidEnd :: [])))] s.heap := hP
  have hl := lv_entry ([.ref q, .int (nI k)]) (n := 2) (Nat.le_of_ble_eq_true rfl)
  rw [lg_entry_eq]
  generalize (lg_sl ([.ref q, .int (nI k)]) ++ List.replicate (2 - (lg_sl ([.ref q, .int (nI k)])).length) Slot.unset).toArray = ls at hl ⊢
  have hl : lv_has ls 2 [(0, .ref q), (1, .int (nI k))] := hl
  refine lv_aload_n hx hb d_Text_bad_0 rfl (lv_at hl 0 rfl) ?_
  refine va_get (v := .int (-1)) hx hb htb i_Text hown hK hP 0 rfl rfl 3 (by decide) (htb _ q6_183) (fun _ h9 => h9) rfl d_Text_bad_1 ?_
  refine lv_if_ge (tgt := 12) hx hb d_Text_bad_4 (by decide) (fun c4 => ?_) (fun c4 => ?_)
  · exact absurd c4 (by decide)
  refine lv_aload_n hx hb d_Text_bad_7 rfl (lv_at hl 0 rfl) ?_
  refine lv_iload_n hx hb d_Text_bad_8 rfl (lv_at hl 1 rfl) ?_
  refine va_put (v := .int (nI k)) (ty := .int) hx hb htb i_Text t_Text t_Text_ok n_Text hown hK hP hD hS 0 rfl rfl 3 (by decide) (htb _ q6_183) (fun _ h9 => h9) rfl (by decide +kernel) rfl rfl (Nat.le_of_ble_eq_true rfl) d_Text_bad_9 (fun H9 locs hP hD hS => ?_)
  have hP : va_P (dC, dI) classes [(q, .inr (13, (.ref d0 :: .int f_n :: .int f_p :: .int (nI k) :: .int f_from :: .int f_to :: .int f_place :: .long f_time0 :: .long f_time1 :: .long f_latest :: .int f_serial :: .int f_serialEnd :: .int f_issuer :: .int f_issuerEnd :: .int f_subject :: .int f_subjectEnd :: .int f_subjectParts :: .int f_parts :: .int f_modulus :: .int f_modulusEnd :: .int f_exponent :: .int f_tbs :: .int f_tbsEnd :: .int f_signature :: .int f_signatureEnd :: .int f_length :: .int f_usage :: .int f_dns :: .int f_dirs :: .int f_extensions :: .int f_matters :: .int f_ownKey :: .int f_ownKeyEnd :: .int f_issuerKey :: .int f_issuerKeyEnd :: .int f_trees :: .int f_entries :: .int f_oids :: .int f_nameAt :: .int f_nameEnd :: .int f_ca :: .int f_basic :: .int f_trusted :: .ref r_dnsAt :: .ref r_dnsEnd :: .ref r_dirAt :: .ref r_dirEnd :: .ref r_treeAt :: .ref r_treeEnd :: .ref r_treeKind :: .ref r_entryAt :: .ref r_entryEnd :: .ref r_oidAt :: .ref r_oidEnd :: [])))] H9 := hP
  have hD : va_D A [(q, .inr (13, (.ref d0 :: .int f_n :: .int f_p :: .int (nI k) :: .int f_from :: .int f_to :: .int f_place :: .long f_time0 :: .long f_time1 :: .long f_latest :: .int f_serial :: .int f_serialEnd :: .int f_issuer :: .int f_issuerEnd :: .int f_subject :: .int f_subjectEnd :: .int f_subjectParts :: .int f_parts :: .int f_modulus :: .int f_modulusEnd :: .int f_exponent :: .int f_tbs :: .int f_tbsEnd :: .int f_signature :: .int f_signatureEnd :: .int f_length :: .int f_usage :: .int f_dns :: .int f_dirs :: .int f_extensions :: .int f_matters :: .int f_ownKey :: .int f_ownKeyEnd :: .int f_issuerKey :: .int f_issuerKeyEnd :: .int f_trees :: .int f_entries :: .int f_oids :: .int f_nameAt :: .int f_nameEnd :: .int f_ca :: .int f_basic :: .int f_trusted :: .ref r_dnsAt :: .ref r_dnsEnd :: .ref r_dirAt :: .ref r_dirEnd :: .ref r_treeAt :: .ref r_treeEnd :: .ref r_treeKind :: .ref r_entryAt :: .ref r_entryEnd :: .ref r_oidAt :: .ref r_oidEnd :: [])))] := hD
  refine lv_iconst (v := 0) hx hb d_Text_bad_12 (by decide) ?_
  exact W.zret (v := 0) hx hb hr (bz_n (bz_f not_false)) (fun t ht hW => ⟨⟨_, (), rfl, rfl, by rw [ht]; exact hP, va_K.moved hW.alike hK, hD⟩, hS.F ht⟩) hS.2.2 d_Text_bad_13
def y_Text_tag : MethodName := ⟨"TrustChainModel$Text", "tag", "(I)I"⟩
abbrev b_Text_tag : ByteArray := prog_15_method_3_code
def w_Text_tag : List Cond := Cond.code y_Text_tag b_Text_tag 2 ((some FieldType.int)) :: tb
theorem d_Text_tag_0 : decode b_Text_tag 0 = .ok (.aload_n 0, 1) := by decide +kernel
theorem d_Text_tag_1 : decode b_Text_tag 1 = .ok (.getfield 52, 3) := by decide +kernel
theorem d_Text_tag_4 : decode b_Text_tag 4 = .ok (.iload_n 1, 1) := by decide +kernel
theorem d_Text_tag_5 : decode b_Text_tag 5 = .ok (.if_icmp .ge 15, 3) := by decide +kernel
theorem d_Text_tag_8 : decode b_Text_tag 8 = .ok (.aload_n 0, 1) := by decide +kernel
theorem d_Text_tag_9 : decode b_Text_tag 9 = .ok (.getfield 9, 3) := by decide +kernel
theorem d_Text_tag_12 : decode b_Text_tag 12 = .ok (.aload_n 0, 1) := by decide +kernel
theorem d_Text_tag_13 : decode b_Text_tag 13 = .ok (.getfield 52, 3) := by decide +kernel
theorem d_Text_tag_16 : decode b_Text_tag 16 = .ok (.iaload, 1) := by decide +kernel
theorem d_Text_tag_17 : decode b_Text_tag 17 = .ok (.goto 4, 3) := by decide +kernel
theorem d_Text_tag_20 : decode b_Text_tag 20 = .ok (.iconst (-1), 1) := by decide +kernel
theorem d_Text_tag_21 : decode b_Text_tag 21 = .ok (.ireturn, 1) := by decide +kernel
set_option maxHeartbeats 4000000 in
set_option maxRecDepth 100000 in
theorem t_tag (l : Launch) (dC : Nat → ClassId) (dI : Nat → Nat → Nat) (sb : sB) (q d0 r_dnsAt r_dnsEnd r_dirAt r_dirEnd r_treeAt r_treeEnd r_treeKind r_entryAt r_entryEnd r_oidAt r_oidEnd : Nat) (f_from f_to f_place f_serial f_serialEnd f_issuer f_issuerEnd f_subject f_subjectEnd f_subjectParts f_parts f_modulus f_modulusEnd f_exponent f_tbs f_tbsEnd f_signature f_signatureEnd f_length f_usage f_dns f_dirs f_extensions f_matters f_ownKey f_ownKeyEnd f_issuerKey f_issuerKeyEnd f_trees f_entries f_oids f_nameAt f_nameEnd f_ca f_basic f_trusted : Int32) (f_time0 f_time1 f_latest : Int64) (n pp : Nat) (cI : ClassId) (u : Nat → Nat) (en : Nat)  (hu : ∀ j, u j < 256) (hn : n ≤ 2048) (h_0 : en ≤ n) (h_1 : pp ≤ n) : Met l y_Text_tag w_Text_tag ({ frames := 0, cells := 0, slots := 0, locals := 0 }) (pu_P [.ref q, .int (nI en)] (dC, dI) sb [(q, .inr (13, (.ref d0 :: .int (nI n) :: .int (nI pp) :: .int (-1) :: .int f_from :: .int f_to :: .int f_place :: .long f_time0 :: .long f_time1 :: .long f_latest :: .int f_serial :: .int f_serialEnd :: .int f_issuer :: .int f_issuerEnd :: .int f_subject :: .int f_subjectEnd :: .int f_subjectParts :: .int f_parts :: .int f_modulus :: .int f_modulusEnd :: .int f_exponent :: .int f_tbs :: .int f_tbsEnd :: .int f_signature :: .int f_signatureEnd :: .int f_length :: .int f_usage :: .int f_dns :: .int f_dirs :: .int f_extensions :: .int f_matters :: .int f_ownKey :: .int f_ownKeyEnd :: .int f_issuerKey :: .int f_issuerKeyEnd :: .int f_trees :: .int f_entries :: .int f_oids :: .int f_nameAt :: .int f_nameEnd :: .int f_ca :: .int f_basic :: .int f_trusted :: .ref r_dnsAt :: .ref r_dnsEnd :: .ref r_dirAt :: .ref r_dirEnd :: .ref r_treeAt :: .ref r_treeEnd :: .ref r_treeKind :: .ref r_entryAt :: .ref r_entryEnd :: .ref r_oidAt :: .ref r_oidEnd :: []))), (d0, .inl (cI, 2048, .inl (tI u)))] [(cI, .int)]) (vp_Si (fun r => r = tgE u pp en)) 0 0 (fun _ => False) := by
  refine Met.ofW (cc := b_Text_tag) (maxL := 2) (ret := (some FieldType.int)) (by decide) rfl ?_
  intro p e s m args below meth c s₁ B hml hv
  obtain ⟨rfl, hP, hK, hN, hT0⟩ := hv
  have hx := B.exec
  have hb := B.bytes
  have hr := B.returns
  have hts := atoms_spec (ws := w_Text_tag) B.pre
  have tbin : ∀ w ∈ tb, w ∈ w_Text_tag := fun w h => List.mem_cons_of_mem _ h
  have htb : ∀ w ∈ tb, w.before _ s = true := fun w h => hts w (tbin w h)
  have hown : s.vm.findClass "TrustChainModel$Text" = some m.cls := findClass_of_methodNamed B.named
  have hlocks := B.notSynchronized
  have hcs : 0 ≤ (headSpec w_Text_tag ({ frames := 0, cells := 0, slots := 0, locals := 0 })).room.cells ∧ 0 ≤ (headSpec w_Text_tag ({ frames := 0, cells := 0, slots := 0, locals := 0 })).room.slots := ⟨Nat.zero_le _, Nat.zero_le _⟩
  have hP : va_P (dC, dI) classes [(q, .inr (13, (.ref d0 :: .int (nI n) :: .int (nI pp) :: .int (-1) :: .int f_from :: .int f_to :: .int f_place :: .long f_time0 :: .long f_time1 :: .long f_latest :: .int f_serial :: .int f_serialEnd :: .int f_issuer :: .int f_issuerEnd :: .int f_subject :: .int f_subjectEnd :: .int f_subjectParts :: .int f_parts :: .int f_modulus :: .int f_modulusEnd :: .int f_exponent :: .int f_tbs :: .int f_tbsEnd :: .int f_signature :: .int f_signatureEnd :: .int f_length :: .int f_usage :: .int f_dns :: .int f_dirs :: .int f_extensions :: .int f_matters :: .int f_ownKey :: .int f_ownKeyEnd :: .int f_issuerKey :: .int f_issuerKeyEnd :: .int f_trees :: .int f_entries :: .int f_oids :: .int f_nameAt :: .int f_nameEnd :: .int f_ca :: .int f_basic :: .int f_trusted :: .ref r_dnsAt :: .ref r_dnsEnd :: .ref r_dirAt :: .ref r_dirEnd :: .ref r_treeAt :: .ref r_treeEnd :: .ref r_treeKind :: .ref r_entryAt :: .ref r_entryEnd :: .ref r_oidAt :: .ref r_oidEnd :: []))), (d0, .inl (cI, 2048, .inl (tI u)))] s.heap := hP
  have hl := lv_entry ([.ref q, .int (nI en)]) (n := 2) (Nat.le_of_ble_eq_true rfl)
  rw [lg_entry_eq]
  generalize (lg_sl ([.ref q, .int (nI en)]) ++ List.replicate (2 - (lg_sl ([.ref q, .int (nI en)])).length) Slot.unset).toArray = ls at hl ⊢
  have hl : lv_has ls 2 [(0, .ref q), (1, .int (nI en))] := hl
  refine lv_aload_n hx hb d_Text_tag_0 rfl (lv_at hl 0 rfl) ?_
  refine va_get (v := .int (nI pp)) hx hb htb i_Text hown hK hP 0 rfl rfl 2 (by decide) (htb _ q6_182) (fun _ h9 => h9) rfl d_Text_tag_1 ?_
  refine lv_iload_n hx hb d_Text_tag_4 rfl (lv_at hl 1 rfl) ?_
  refine lv_icmp_ge (tgt := 20) hx hb d_Text_tag_5 (by decide) (fun c5 => ?_) (fun c5 => ?_)
  · have p5 : ¬ pp < en := by rw [nI_leI (by omega) (by omega)] at c5; omega
    refine lv_iconst (v := -1) hx hb d_Text_tag_20 (by decide) ?_
    exact W.iret (v := -1) hx hb hr (fun t ht hW => ⟨_, rfl, (if_neg p5).symm, ht⟩) (fun q h => by cases h) d_Text_tag_21
  · have p5 : pp < en := by rw [nI_leI (by omega) (by omega)] at c5; omega
    refine lv_aload_n hx hb d_Text_tag_8 rfl (lv_at hl 0 rfl) ?_
    refine va_get (v := .ref d0) hx hb htb i_Text hown hK hP 0 rfl rfl 0 (by decide) (htb _ q6_178) (fun _ h9 => h9) rfl d_Text_tag_9 ?_
    refine lv_aload_n hx hb d_Text_tag_12 rfl (lv_at hl 0 rfl) ?_
    refine va_get (v := .int (nI pp)) hx hb htb i_Text hown hK hP 0 rfl rfl 2 (by decide) (htb _ q6_182) (fun _ h9 => h9) rfl d_Text_tag_13 ?_
    have h16 : vp_in (nI pp) 2048 := vp_in_nI (by omega) (by omega)
    refine va_iald hx hb hK hP 1 0 rfl rfl h16 d_Text_tag_16 ?_
    rw [show tI u (nI pp).toNatClampNeg = nI (u pp) from tI_at (by omega)]
    have hu16 := hu pp
    refine lv_goto (tgt := 21) hx hb d_Text_tag_17 (by decide) ?_
    exact W.iret (v := nI (u pp)) hx hb hr (fun t ht hW => ⟨_, rfl, (if_pos p5).symm, ht⟩) (fun q h => by cases h) d_Text_tag_21
theorem d_Text_element_19 : decode b_Text_element 19 = .ok (.putfield 59, 3) := by decide +kernel
theorem d_Text_element_22 : decode b_Text_element 22 = .ok (.aload_n 0, 1) := by decide +kernel
theorem d_Text_element_23 : decode b_Text_element 23 = .ok (.getfield 9, 3) := by decide +kernel
theorem d_Text_element_26 : decode b_Text_element 26 = .ok (.aload_n 0, 1) := by decide +kernel
theorem d_Text_element_27 : decode b_Text_element 27 = .ok (.getfield 52, 3) := by decide +kernel
theorem d_Text_element_30 : decode b_Text_element 30 = .ok (.iaload, 1) := by decide +kernel
theorem d_Text_element_31 : decode b_Text_element 31 = .ok (.iload_n 1, 1) := by decide +kernel
theorem d_Text_element_32 : decode b_Text_element 32 = .ok (.if_icmp .ne 13, 3) := by decide +kernel
theorem d_Text_element_35 : decode b_Text_element 35 = .ok (.aload_n 0, 1) := by decide +kernel
theorem d_Text_element_36 : decode b_Text_element 36 = .ok (.getfield 52, 3) := by decide +kernel
theorem d_Text_element_39 : decode b_Text_element 39 = .ok (.iconst 1, 1) := by decide +kernel
theorem d_Text_element_40 : decode b_Text_element 40 = .ok (.iadd, 1) := by decide +kernel
theorem d_Text_element_41 : decode b_Text_element 41 = .ok (.iload_n 2, 1) := by decide +kernel
theorem d_Text_element_42 : decode b_Text_element 42 = .ok (.if_icmp .lt 12, 3) := by decide +kernel
theorem d_Text_element_45 : decode b_Text_element 45 = .ok (.aload_n 0, 1) := by decide +kernel
theorem d_Text_element_46 : decode b_Text_element 46 = .ok (.aload_n 0, 1) := by decide +kernel
theorem d_Text_element_47 : decode b_Text_element 47 = .ok (.getfield 52, 3) := by decide +kernel
theorem d_Text_element_50 : decode b_Text_element 50 = .ok (.invokevirtual 55, 3) := by decide +kernel
theorem d_Text_element_53 : decode b_Text_element 53 = .ok (.ireturn, 1) := by decide +kernel
theorem d_Text_element_54 : decode b_Text_element 54 = .ok (.aload_n 0, 1) := by decide +kernel
theorem d_Text_element_55 : decode b_Text_element 55 = .ok (.getfield 9, 3) := by decide +kernel
theorem d_Text_element_58 : decode b_Text_element 58 = .ok (.aload_n 0, 1) := by decide +kernel
theorem d_Text_element_59 : decode b_Text_element 59 = .ok (.getfield 52, 3) := by decide +kernel
theorem d_Text_element_62 : decode b_Text_element 62 = .ok (.iconst 1, 1) := by decide +kernel
theorem d_Text_element_63 : decode b_Text_element 63 = .ok (.iadd, 1) := by decide +kernel
theorem d_Text_element_64 : decode b_Text_element 64 = .ok (.iaload, 1) := by decide +kernel
theorem d_Text_element_65 : decode b_Text_element 65 = .ok (.istore_n 3, 1) := by decide +kernel
theorem d_Text_element_66 : decode b_Text_element 66 = .ok (.aload_n 0, 1) := by decide +kernel
theorem d_Text_element_67 : decode b_Text_element 67 = .ok (.getfield 52, 3) := by decide +kernel
theorem d_Text_element_70 : decode b_Text_element 70 = .ok (.iconst 2, 1) := by decide +kernel
theorem d_Text_element_71 : decode b_Text_element 71 = .ok (.iadd, 1) := by decide +kernel
theorem d_Text_element_72 : decode b_Text_element 72 = .ok (.istore 4, 2) := by decide +kernel
theorem d_Text_element_74 : decode b_Text_element 74 = .ok (.iload_n 3, 1) := by decide +kernel
theorem d_Text_element_75 : decode b_Text_element 75 = .ok (.sipush 129, 3) := by decide +kernel
theorem d_Text_element_78 : decode b_Text_element 78 = .ok (.if_icmp .ne 45, 3) := by decide +kernel
theorem d_Text_element_81 : decode b_Text_element 81 = .ok (.iload 4, 2) := by decide +kernel
theorem d_Text_element_83 : decode b_Text_element 83 = .ok (.iload_n 2, 1) := by decide +kernel
theorem d_Text_element_84 : decode b_Text_element 84 = .ok (.if_icmp .ge 16, 3) := by decide +kernel
theorem d_Text_element_87 : decode b_Text_element 87 = .ok (.aload_n 0, 1) := by decide +kernel
theorem d_Text_element_88 : decode b_Text_element 88 = .ok (.getfield 9, 3) := by decide +kernel
theorem d_Text_element_91 : decode b_Text_element 91 = .ok (.iload 4, 2) := by decide +kernel
theorem d_Text_element_93 : decode b_Text_element 93 = .ok (.iaload, 1) := by decide +kernel
theorem d_Text_element_94 : decode b_Text_element 94 = .ok (.sipush 128, 3) := by decide +kernel
theorem d_Text_element_97 : decode b_Text_element 97 = .ok (.if_icmp .ge 12, 3) := by decide +kernel
theorem d_Text_element_100 : decode b_Text_element 100 = .ok (.aload_n 0, 1) := by decide +kernel
theorem d_Text_element_101 : decode b_Text_element 101 = .ok (.aload_n 0, 1) := by decide +kernel
theorem d_Text_element_102 : decode b_Text_element 102 = .ok (.getfield 52, 3) := by decide +kernel
theorem d_Text_element_105 : decode b_Text_element 105 = .ok (.invokevirtual 55, 3) := by decide +kernel
theorem d_Text_element_108 : decode b_Text_element 108 = .ok (.ireturn, 1) := by decide +kernel
theorem d_Text_element_109 : decode b_Text_element 109 = .ok (.aload_n 0, 1) := by decide +kernel
theorem d_Text_element_110 : decode b_Text_element 110 = .ok (.getfield 9, 3) := by decide +kernel
theorem d_Text_element_113 : decode b_Text_element 113 = .ok (.iload 4, 2) := by decide +kernel
theorem d_Text_element_115 : decode b_Text_element 115 = .ok (.iinc 4 1, 3) := by decide +kernel
theorem d_Text_element_118 : decode b_Text_element 118 = .ok (.iaload, 1) := by decide +kernel
theorem d_Text_element_119 : decode b_Text_element 119 = .ok (.istore_n 3, 1) := by decide +kernel
theorem d_Text_element_120 : decode b_Text_element 120 = .ok (.goto 79, 3) := by decide +kernel
theorem d_Text_element_123 : decode b_Text_element 123 = .ok (.iload_n 3, 1) := by decide +kernel
theorem d_Text_element_124 : decode b_Text_element 124 = .ok (.sipush 130, 3) := by decide +kernel
theorem d_Text_element_127 : decode b_Text_element 127 = .ok (.if_icmp .ne 57, 3) := by decide +kernel
theorem d_Text_element_130 : decode b_Text_element 130 = .ok (.iload 4, 2) := by decide +kernel
theorem d_Text_element_132 : decode b_Text_element 132 = .ok (.iconst 1, 1) := by decide +kernel
theorem d_Text_element_133 : decode b_Text_element 133 = .ok (.iadd, 1) := by decide +kernel
theorem d_Text_element_134 : decode b_Text_element 134 = .ok (.iload_n 2, 1) := by decide +kernel
theorem d_Text_element_135 : decode b_Text_element 135 = .ok (.if_icmp .ge 13, 3) := by decide +kernel
theorem d_Text_element_138 : decode b_Text_element 138 = .ok (.aload_n 0, 1) := by decide +kernel
theorem d_Text_element_139 : decode b_Text_element 139 = .ok (.getfield 9, 3) := by decide +kernel
theorem d_Text_element_142 : decode b_Text_element 142 = .ok (.iload 4, 2) := by decide +kernel
theorem d_Text_element_144 : decode b_Text_element 144 = .ok (.iaload, 1) := by decide +kernel
theorem d_Text_element_145 : decode b_Text_element 145 = .ok (.ifCond .ne 12, 3) := by decide +kernel
theorem d_Text_element_148 : decode b_Text_element 148 = .ok (.aload_n 0, 1) := by decide +kernel
theorem d_Text_element_149 : decode b_Text_element 149 = .ok (.aload_n 0, 1) := by decide +kernel
theorem d_Text_element_150 : decode b_Text_element 150 = .ok (.getfield 52, 3) := by decide +kernel
theorem d_Text_element_153 : decode b_Text_element 153 = .ok (.invokevirtual 55, 3) := by decide +kernel
theorem d_Text_element_156 : decode b_Text_element 156 = .ok (.ireturn, 1) := by decide +kernel
theorem d_Text_element_157 : decode b_Text_element 157 = .ok (.aload_n 0, 1) := by decide +kernel
theorem d_Text_element_158 : decode b_Text_element 158 = .ok (.getfield 9, 3) := by decide +kernel
theorem d_Text_element_161 : decode b_Text_element 161 = .ok (.iload 4, 2) := by decide +kernel
theorem d_Text_element_163 : decode b_Text_element 163 = .ok (.iaload, 1) := by decide +kernel
theorem d_Text_element_164 : decode b_Text_element 164 = .ok (.bipush 8, 2) := by decide +kernel
theorem d_Text_element_166 : decode b_Text_element 166 = .ok (.ishl, 1) := by decide +kernel
theorem d_Text_element_167 : decode b_Text_element 167 = .ok (.aload_n 0, 1) := by decide +kernel
theorem d_Text_element_168 : decode b_Text_element 168 = .ok (.getfield 9, 3) := by decide +kernel
theorem d_Text_element_171 : decode b_Text_element 171 = .ok (.iload 4, 2) := by decide +kernel
theorem d_Text_element_173 : decode b_Text_element 173 = .ok (.iconst 1, 1) := by decide +kernel
theorem d_Text_element_174 : decode b_Text_element 174 = .ok (.iadd, 1) := by decide +kernel
theorem d_Text_element_175 : decode b_Text_element 175 = .ok (.iaload, 1) := by decide +kernel
theorem d_Text_element_176 : decode b_Text_element 176 = .ok (.ior, 1) := by decide +kernel
theorem d_Text_element_177 : decode b_Text_element 177 = .ok (.istore_n 3, 1) := by decide +kernel
theorem d_Text_element_178 : decode b_Text_element 178 = .ok (.iinc 4 2, 3) := by decide +kernel
theorem d_Text_element_181 : decode b_Text_element 181 = .ok (.goto 18, 3) := by decide +kernel
theorem d_Text_element_184 : decode b_Text_element 184 = .ok (.iload_n 3, 1) := by decide +kernel
theorem d_Text_element_185 : decode b_Text_element 185 = .ok (.bipush 127, 2) := by decide +kernel
theorem d_Text_element_187 : decode b_Text_element 187 = .ok (.if_icmp .le 12, 3) := by decide +kernel
theorem d_Text_element_190 : decode b_Text_element 190 = .ok (.aload_n 0, 1) := by decide +kernel
theorem d_Text_element_191 : decode b_Text_element 191 = .ok (.aload_n 0, 1) := by decide +kernel
theorem d_Text_element_192 : decode b_Text_element 192 = .ok (.getfield 52, 3) := by decide +kernel
theorem d_Text_element_195 : decode b_Text_element 195 = .ok (.invokevirtual 55, 3) := by decide +kernel
theorem d_Text_element_198 : decode b_Text_element 198 = .ok (.ireturn, 1) := by decide +kernel
theorem d_Text_element_199 : decode b_Text_element 199 = .ok (.iload 4, 2) := by decide +kernel
theorem d_Text_element_201 : decode b_Text_element 201 = .ok (.iload_n 3, 1) := by decide +kernel
theorem d_Text_element_202 : decode b_Text_element 202 = .ok (.iadd, 1) := by decide +kernel
theorem d_Text_element_203 : decode b_Text_element 203 = .ok (.iload_n 2, 1) := by decide +kernel
theorem d_Text_element_204 : decode b_Text_element 204 = .ok (.if_icmp .le 12, 3) := by decide +kernel
theorem d_Text_element_207 : decode b_Text_element 207 = .ok (.aload_n 0, 1) := by decide +kernel
theorem d_Text_element_208 : decode b_Text_element 208 = .ok (.aload_n 0, 1) := by decide +kernel
theorem d_Text_element_209 : decode b_Text_element 209 = .ok (.getfield 52, 3) := by decide +kernel
theorem d_Text_element_212 : decode b_Text_element 212 = .ok (.invokevirtual 55, 3) := by decide +kernel
theorem d_Text_element_215 : decode b_Text_element 215 = .ok (.ireturn, 1) := by decide +kernel
theorem d_Text_element_216 : decode b_Text_element 216 = .ok (.aload_n 0, 1) := by decide +kernel
theorem d_Text_element_217 : decode b_Text_element 217 = .ok (.iload 4, 2) := by decide +kernel
theorem d_Text_element_219 : decode b_Text_element 219 = .ok (.putfield 62, 3) := by decide +kernel
theorem d_Text_element_222 : decode b_Text_element 222 = .ok (.aload_n 0, 1) := by decide +kernel
theorem d_Text_element_223 : decode b_Text_element 223 = .ok (.iload 4, 2) := by decide +kernel
theorem d_Text_element_225 : decode b_Text_element 225 = .ok (.iload_n 3, 1) := by decide +kernel
theorem d_Text_element_226 : decode b_Text_element 226 = .ok (.iadd, 1) := by decide +kernel
theorem d_Text_element_227 : decode b_Text_element 227 = .ok (.putfield 65, 3) := by decide +kernel
theorem d_Text_element_230 : decode b_Text_element 230 = .ok (.iconst 1, 1) := by decide +kernel
theorem d_Text_element_231 : decode b_Text_element 231 = .ok (.ireturn, 1) := by decide +kernel
noncomputable def tx_element (u : Nat → Nat) (pp : Nat) (tg : Nat) (en : Nat)  : Nat ⊕ (Nat × Nat) :=
  (@ite _ (pp < en) (Classical.propDecidable _) (@ite _ (¬ ((u pp) = tg) ∨ (¬ ((pp + 1) < en))) (Classical.propDecidable _) (.inl pp) (@ite _ ((u (pp + 1)) = 129) (Classical.propDecidable _) (@ite _ ((en ≤ (pp + 2)) ∨ (¬ (128 ≤ (u (pp + 2))))) (Classical.propDecidable _) (.inl pp) (@ite _ (((pp + 2 + 1) + (u (pp + 2))) ≤ en) (Classical.propDecidable _) (.inr ((pp + 2 + 1), ((pp + 2 + 1) + (u (pp + 2))))) (.inl pp))) (@ite _ ((u (pp + 1)) = 130) (Classical.propDecidable _) (@ite _ ((en ≤ ((pp + 2) + 1)) ∨ ((u (pp + 2)) = 0)) (Classical.propDecidable _) (.inl pp) (@ite _ (((pp + 2 + 2) + ((u (pp + 2)) * 256 + (u ((pp + 2) + 1)))) ≤ en) (Classical.propDecidable _) (.inr ((pp + 2 + 2), ((pp + 2 + 2) + ((u (pp + 2)) * 256 + (u ((pp + 2) + 1)))))) (.inl pp))) (@ite _ ((u (pp + 1)) ≤ 127) (Classical.propDecidable _) (@ite _ (((pp + 2) + (u (pp + 1))) ≤ en) (Classical.propDecidable _) (.inr ((pp + 2), ((pp + 2) + (u (pp + 1))))) (.inl pp)) (.inl pp))))) (.inl en))
set_option maxHeartbeats 4000000 in
set_option maxRecDepth 100000 in
theorem t_element (l : Launch) (dC : Nat → ClassId) (dI : Nat → Nat → Nat) (sb : sB) (q d0 r_dnsAt r_dnsEnd r_dirAt r_dirEnd r_treeAt r_treeEnd r_treeKind r_entryAt r_entryEnd r_oidAt r_oidEnd : Nat) (f_from f_to f_place f_serial f_serialEnd f_issuer f_issuerEnd f_subject f_subjectEnd f_subjectParts f_parts f_modulus f_modulusEnd f_exponent f_tbs f_tbsEnd f_signature f_signatureEnd f_length f_usage f_dns f_dirs f_extensions f_matters f_ownKey f_ownKeyEnd f_issuerKey f_issuerKeyEnd f_trees f_entries f_oids f_nameAt f_nameEnd f_ca f_basic f_trusted : Int32) (f_time0 f_time1 f_latest : Int64) (n pp : Nat) (cI : ClassId) (u : Nat → Nat) (tg : Nat) (en : Nat)  (sz : Nat) (hu : ∀ j, u j < 256) (hn : n ≤ 2048) (h_0 : en ≤ n) (h_1 : pp ≤ n) (h_2 : tg < 2 ^ 31)  : Met l y_Text_element w_Text_element ({ frames := 1, cells := 0, slots := 0, locals := 21 }) (mu_P [.ref q, .int (nI tg), .int (nI en)] (dC, dI) sb [(q, .inr (13, (.ref d0 :: .int (nI n) :: .int (nI pp) :: .int (-1) :: .int f_from :: .int f_to :: .int f_place :: .long f_time0 :: .long f_time1 :: .long f_latest :: .int f_serial :: .int f_serialEnd :: .int f_issuer :: .int f_issuerEnd :: .int f_subject :: .int f_subjectEnd :: .int f_subjectParts :: .int f_parts :: .int f_modulus :: .int f_modulusEnd :: .int f_exponent :: .int f_tbs :: .int f_tbsEnd :: .int f_signature :: .int f_signatureEnd :: .int f_length :: .int f_usage :: .int f_dns :: .int f_dirs :: .int f_extensions :: .int f_matters :: .int f_ownKey :: .int f_ownKeyEnd :: .int f_issuerKey :: .int f_issuerKeyEnd :: .int f_trees :: .int f_entries :: .int f_oids :: .int f_nameAt :: .int f_nameEnd :: .int f_ca :: .int f_basic :: .int f_trusted :: .ref r_dnsAt :: .ref r_dnsEnd :: .ref r_dirAt :: .ref r_dirEnd :: .ref r_treeAt :: .ref r_treeEnd :: .ref r_treeKind :: .ref r_entryAt :: .ref r_entryEnd :: .ref r_oidAt :: .ref r_oidEnd :: []))), (d0, .inl (cI, 2048, .inl (tI u)))] [(cI, .int)] sz) (va_Qi (fun r (u' : Int32 × Int32 × Int32 × Int32) => (∃ z : Nat × Nat, tx_element u pp tg en = .inr z ∧ r = 1 ∧ u'.1 = -1 ∧ u'.2.1 = nI (z.1) ∧ u'.2.2.1 = nI (z.2) ∧ u'.2.2.2 = nI (pp) ∧ pp + 2 ≤ z.1 ∧ z.1 ≤ z.2 ∧ z.2 ≤ en) ∨ (∃ w9 : Nat, tx_element u pp tg en = .inl w9 ∧ r = 0 ∧ u'.1 = nI w9)) (mu_B (dC, dI) [(cI, .int)] (va_A [(q, .inr (13, (.ref d0 :: .int (nI n) :: .int (nI pp) :: .int (-1) :: .int f_from :: .int f_to :: .int f_place :: .long f_time0 :: .long f_time1 :: .long f_latest :: .int f_serial :: .int f_serialEnd :: .int f_issuer :: .int f_issuerEnd :: .int f_subject :: .int f_subjectEnd :: .int f_subjectParts :: .int f_parts :: .int f_modulus :: .int f_modulusEnd :: .int f_exponent :: .int f_tbs :: .int f_tbsEnd :: .int f_signature :: .int f_signatureEnd :: .int f_length :: .int f_usage :: .int f_dns :: .int f_dirs :: .int f_extensions :: .int f_matters :: .int f_ownKey :: .int f_ownKeyEnd :: .int f_issuerKey :: .int f_issuerKeyEnd :: .int f_trees :: .int f_entries :: .int f_oids :: .int f_nameAt :: .int f_nameEnd :: .int f_ca :: .int f_basic :: .int f_trusted :: .ref r_dnsAt :: .ref r_dnsEnd :: .ref r_dirAt :: .ref r_dirEnd :: .ref r_treeAt :: .ref r_treeEnd :: .ref r_treeKind :: .ref r_entryAt :: .ref r_entryEnd :: .ref r_oidAt :: .ref r_oidEnd :: []))), (d0, .inl (cI, 2048, .inl (tI u)))] sz) (fun u' : Int32 × Int32 × Int32 × Int32 => [(q, .inr (13, (.ref d0 :: .int (nI n) :: .int (nI pp) :: .int u'.1 :: .int u'.2.1 :: .int u'.2.2.1 :: .int u'.2.2.2 :: .long f_time0 :: .long f_time1 :: .long f_latest :: .int f_serial :: .int f_serialEnd :: .int f_issuer :: .int f_issuerEnd :: .int f_subject :: .int f_subjectEnd :: .int f_subjectParts :: .int f_parts :: .int f_modulus :: .int f_modulusEnd :: .int f_exponent :: .int f_tbs :: .int f_tbsEnd :: .int f_signature :: .int f_signatureEnd :: .int f_length :: .int f_usage :: .int f_dns :: .int f_dirs :: .int f_extensions :: .int f_matters :: .int f_ownKey :: .int f_ownKeyEnd :: .int f_issuerKey :: .int f_issuerKeyEnd :: .int f_trees :: .int f_entries :: .int f_oids :: .int f_nameAt :: .int f_nameEnd :: .int f_ca :: .int f_basic :: .int f_trusted :: .ref r_dnsAt :: .ref r_dnsEnd :: .ref r_dirAt :: .ref r_dirEnd :: .ref r_treeAt :: .ref r_treeEnd :: .ref r_treeKind :: .ref r_entryAt :: .ref r_entryEnd :: .ref r_oidAt :: .ref r_oidEnd :: []))), (d0, .inl (cI, 2048, .inl (tI u)))])) (va_A [(q, .inr (13, (.ref d0 :: .int (nI n) :: .int (nI pp) :: .int (-1) :: .int f_from :: .int f_to :: .int f_place :: .long f_time0 :: .long f_time1 :: .long f_latest :: .int f_serial :: .int f_serialEnd :: .int f_issuer :: .int f_issuerEnd :: .int f_subject :: .int f_subjectEnd :: .int f_subjectParts :: .int f_parts :: .int f_modulus :: .int f_modulusEnd :: .int f_exponent :: .int f_tbs :: .int f_tbsEnd :: .int f_signature :: .int f_signatureEnd :: .int f_length :: .int f_usage :: .int f_dns :: .int f_dirs :: .int f_extensions :: .int f_matters :: .int f_ownKey :: .int f_ownKeyEnd :: .int f_issuerKey :: .int f_issuerKeyEnd :: .int f_trees :: .int f_entries :: .int f_oids :: .int f_nameAt :: .int f_nameEnd :: .int f_ca :: .int f_basic :: .int f_trusted :: .ref r_dnsAt :: .ref r_dnsEnd :: .ref r_dirAt :: .ref r_dirEnd :: .ref r_treeAt :: .ref r_treeEnd :: .ref r_treeKind :: .ref r_entryAt :: .ref r_entryEnd :: .ref r_oidAt :: .ref r_oidEnd :: []))), (d0, .inl (cI, 2048, .inl (tI u)))] sz)) 0 0 (va_A [(q, .inr (13, (.ref d0 :: .int (nI n) :: .int (nI pp) :: .int (-1) :: .int f_from :: .int f_to :: .int f_place :: .long f_time0 :: .long f_time1 :: .long f_latest :: .int f_serial :: .int f_serialEnd :: .int f_issuer :: .int f_issuerEnd :: .int f_subject :: .int f_subjectEnd :: .int f_subjectParts :: .int f_parts :: .int f_modulus :: .int f_modulusEnd :: .int f_exponent :: .int f_tbs :: .int f_tbsEnd :: .int f_signature :: .int f_signatureEnd :: .int f_length :: .int f_usage :: .int f_dns :: .int f_dirs :: .int f_extensions :: .int f_matters :: .int f_ownKey :: .int f_ownKeyEnd :: .int f_issuerKey :: .int f_issuerKeyEnd :: .int f_trees :: .int f_entries :: .int f_oids :: .int f_nameAt :: .int f_nameEnd :: .int f_ca :: .int f_basic :: .int f_trusted :: .ref r_dnsAt :: .ref r_dnsEnd :: .ref r_dirAt :: .ref r_dirEnd :: .ref r_treeAt :: .ref r_treeEnd :: .ref r_treeKind :: .ref r_entryAt :: .ref r_entryEnd :: .ref r_oidAt :: .ref r_oidEnd :: []))), (d0, .inl (cI, 2048, .inl (tI u)))] sz) := by
  refine Met.ofW (cc := b_Text_element) (maxL := 5) (ret := (some FieldType.boolean)) (by decide) rfl ?_
  intro p e s m args below meth c s₁ B hml hv
  obtain ⟨rfl, hsz, hB0, hP, hK, hD0, hN, hT0⟩ := hv
  have hx := B.exec
  have hb := B.bytes
  have hr := B.returns
  have hts := atoms_spec (ws := w_Text_element) B.pre
  have tbin : ∀ w ∈ tb, w ∈ w_Text_element := fun w h => List.mem_cons_of_mem _ h
  have htb : ∀ w ∈ tb, w.before _ s = true := fun w h => hts w (tbin w h)
  have hown : s.vm.findClass "TrustChainModel$Text" = some m.cls := findClass_of_methodNamed B.named
  have hlocks := B.notSynchronized
  subst hsz
  have hD := hD0.self (sz := s.heap.size)
  generalize hAe : va_A [(q, .inr (13, (.ref d0 :: .int (nI n) :: .int (nI pp) :: .int (-1) :: .int f_from :: .int f_to :: .int f_place :: .long f_time0 :: .long f_time1 :: .long f_latest :: .int f_serial :: .int f_serialEnd :: .int f_issuer :: .int f_issuerEnd :: .int f_subject :: .int f_subjectEnd :: .int f_subjectParts :: .int f_parts :: .int f_modulus :: .int f_modulusEnd :: .int f_exponent :: .int f_tbs :: .int f_tbsEnd :: .int f_signature :: .int f_signatureEnd :: .int f_length :: .int f_usage :: .int f_dns :: .int f_dirs :: .int f_extensions :: .int f_matters :: .int f_ownKey :: .int f_ownKeyEnd :: .int f_issuerKey :: .int f_issuerKeyEnd :: .int f_trees :: .int f_entries :: .int f_oids :: .int f_nameAt :: .int f_nameEnd :: .int f_ca :: .int f_basic :: .int f_trusted :: .ref r_dnsAt :: .ref r_dnsEnd :: .ref r_dirAt :: .ref r_dirEnd :: .ref r_treeAt :: .ref r_treeEnd :: .ref r_treeKind :: .ref r_entryAt :: .ref r_entryEnd :: .ref r_oidAt :: .ref r_oidEnd :: []))), (d0, .inl (cI, 2048, .inl (tI u)))] s.heap.size = A at hD ⊢
  have hA : ∀ q : Nat, s.heap.size ≤ q → A q := fun q h => by rw [← hAe]; exact Or.inr h
  have hAs : ∀ q : Nat, A q → sb.1 ≤ q := fun q h => by
    rw [← hAe] at h
    rcases h with ⟨k, e, h⟩ | h
    · exact hD0.2 k _ h
    · exact Nat.le_trans hB0 h
  have hS : va_S A s.heap s.heap [] := va_S.rf
  have hcs : 0 ≤ (headSpec w_Text_element ({ frames := 1, cells := 0, slots := 0, locals := 21 })).room.cells ∧ 0 ≤ (headSpec w_Text_element ({ frames := 1, cells := 0, slots := 0, locals := 21 })).room.slots := ⟨Nat.le_refl _, Nat.le_refl _⟩
  have hP : va_P (dC, dI) classes [(q, .inr (13, (.ref d0 :: .int (nI n) :: .int (nI pp) :: .int (-1) :: .int f_from :: .int f_to :: .int f_place :: .long f_time0 :: .long f_time1 :: .long f_latest :: .int f_serial :: .int f_serialEnd :: .int f_issuer :: .int f_issuerEnd :: .int f_subject :: .int f_subjectEnd :: .int f_subjectParts :: .int f_parts :: .int f_modulus :: .int f_modulusEnd :: .int f_exponent :: .int f_tbs :: .int f_tbsEnd :: .int f_signature :: .int f_signatureEnd :: .int f_length :: .int f_usage :: .int f_dns :: .int f_dirs :: .int f_extensions :: .int f_matters :: .int f_ownKey :: .int f_ownKeyEnd :: .int f_issuerKey :: .int f_issuerKeyEnd :: .int f_trees :: .int f_entries :: .int f_oids :: .int f_nameAt :: .int f_nameEnd :: .int f_ca :: .int f_basic :: .int f_trusted :: .ref r_dnsAt :: .ref r_dnsEnd :: .ref r_dirAt :: .ref r_dirEnd :: .ref r_treeAt :: .ref r_treeEnd :: .ref r_treeKind :: .ref r_entryAt :: .ref r_entryEnd :: .ref r_oidAt :: .ref r_oidEnd :: []))), (d0, .inl (cI, 2048, .inl (tI u)))] s.heap := hP
  have hl := lv_entry ([.ref q, .int (nI tg), .int (nI en)]) (n := 5) (Nat.le_of_ble_eq_true rfl)
  rw [lg_entry_eq]
  generalize (lg_sl ([.ref q, .int (nI tg), .int (nI en)]) ++ List.replicate (5 - (lg_sl ([.ref q, .int (nI tg), .int (nI en)])).length) Slot.unset).toArray = ls at hl ⊢
  have hl : lv_has ls 5 [(0, .ref q), (1, .int (nI tg)), (2, .int (nI en))] := hl
  refine lv_aload_n hx hb d_Text_element_0 rfl (lv_at hl 0 rfl) ?_
  refine va_get (v := .int (nI pp)) hx hb htb i_Text hown hK hP 0 rfl rfl 2 (by decide) (htb _ q6_182) (fun _ h9 => h9) rfl d_Text_element_1 ?_
  refine lv_iload_n hx hb d_Text_element_4 rfl (lv_at hl 2 rfl) ?_
  refine lv_icmp_lt (tgt := 14) hx hb d_Text_element_5 (by decide) (fun c5 => ?_) (fun c5 => ?_)
  · have p5 : pp < en := ((nI_ltI (a := pp) (b := en) (by omega) (by omega)).mp c5)
    refine lv_aload_n hx hb d_Text_element_14 rfl (lv_at hl 0 rfl) ?_
    refine lv_aload_n hx hb d_Text_element_15 rfl (lv_at hl 0 rfl) ?_
    refine va_get (v := .int (nI pp)) hx hb htb i_Text hown hK hP 0 rfl rfl 2 (by decide) (htb _ q6_182) (fun _ h9 => h9) rfl d_Text_element_16 ?_
    refine va_put (v := .int (nI pp)) (ty := .int) hx hb htb i_Text t_Text t_Text_ok n_Text hown hK hP hD hS 0 rfl rfl 6 (by decide) (htb _ q6_187) (fun _ h9 => h9) rfl (by decide +kernel) rfl rfl (Nat.le_of_ble_eq_true rfl) d_Text_element_19 (fun H19 locs hP hD hS => ?_)
    have hP : va_P (dC, dI) classes [(q, .inr (13, (.ref d0 :: .int (nI n) :: .int (nI pp) :: .int (-1) :: .int f_from :: .int f_to :: .int (nI pp) :: .long f_time0 :: .long f_time1 :: .long f_latest :: .int f_serial :: .int f_serialEnd :: .int f_issuer :: .int f_issuerEnd :: .int f_subject :: .int f_subjectEnd :: .int f_subjectParts :: .int f_parts :: .int f_modulus :: .int f_modulusEnd :: .int f_exponent :: .int f_tbs :: .int f_tbsEnd :: .int f_signature :: .int f_signatureEnd :: .int f_length :: .int f_usage :: .int f_dns :: .int f_dirs :: .int f_extensions :: .int f_matters :: .int f_ownKey :: .int f_ownKeyEnd :: .int f_issuerKey :: .int f_issuerKeyEnd :: .int f_trees :: .int f_entries :: .int f_oids :: .int f_nameAt :: .int f_nameEnd :: .int f_ca :: .int f_basic :: .int f_trusted :: .ref r_dnsAt :: .ref r_dnsEnd :: .ref r_dirAt :: .ref r_dirEnd :: .ref r_treeAt :: .ref r_treeEnd :: .ref r_treeKind :: .ref r_entryAt :: .ref r_entryEnd :: .ref r_oidAt :: .ref r_oidEnd :: []))), (d0, .inl (cI, 2048, .inl (tI u)))] H19 := hP
    have hD : va_D A [(q, .inr (13, (.ref d0 :: .int (nI n) :: .int (nI pp) :: .int (-1) :: .int f_from :: .int f_to :: .int (nI pp) :: .long f_time0 :: .long f_time1 :: .long f_latest :: .int f_serial :: .int f_serialEnd :: .int f_issuer :: .int f_issuerEnd :: .int f_subject :: .int f_subjectEnd :: .int f_subjectParts :: .int f_parts :: .int f_modulus :: .int f_modulusEnd :: .int f_exponent :: .int f_tbs :: .int f_tbsEnd :: .int f_signature :: .int f_signatureEnd :: .int f_length :: .int f_usage :: .int f_dns :: .int f_dirs :: .int f_extensions :: .int f_matters :: .int f_ownKey :: .int f_ownKeyEnd :: .int f_issuerKey :: .int f_issuerKeyEnd :: .int f_trees :: .int f_entries :: .int f_oids :: .int f_nameAt :: .int f_nameEnd :: .int f_ca :: .int f_basic :: .int f_trusted :: .ref r_dnsAt :: .ref r_dnsEnd :: .ref r_dirAt :: .ref r_dirEnd :: .ref r_treeAt :: .ref r_treeEnd :: .ref r_treeKind :: .ref r_entryAt :: .ref r_entryEnd :: .ref r_oidAt :: .ref r_oidEnd :: []))), (d0, .inl (cI, 2048, .inl (tI u)))] := hD
    refine w_cutJ (J := ¬ (¬ ((u pp) = tg) ∨ (¬ ((pp + 1) < en)))) (nL := 5) (lv := [(0, .ref q), (1, .int (nI tg)), (2, .int (nI en))]) (pcJ := 54) (st := []) (fun ls hc22 hl => ?_) (fun k54_22 => ?_)
    · skip
      refine lv_aload_n hx hb d_Text_element_54 rfl (lv_at hl 0 rfl) ?_
      refine va_get (v := .ref d0) hx hb htb i_Text hown hK hP 0 rfl rfl 0 (by decide) (htb _ q6_178) (fun _ h9 => h9) rfl d_Text_element_55 ?_
      refine lv_aload_n hx hb d_Text_element_58 rfl (lv_at hl 0 rfl) ?_
      refine va_get (v := .int (nI pp)) hx hb htb i_Text hown hK hP 0 rfl rfl 2 (by decide) (htb _ q6_182) (fun _ h9 => h9) rfl d_Text_element_59 ?_
      refine lv_iconst (v := 1) hx hb d_Text_element_62 (by decide) ?_
      refine lv_iadd hx hb d_Text_element_63 ?_
      rw [show ((nI pp) + 1 : Int32) = nI (pp + 1) from nI_add pp 1]
      have h64 : vp_in (nI (pp + 1)) 2048 := vp_in_nI (by omega) (by omega)
      refine va_iald hx hb hK hP 1 0 rfl rfl h64 d_Text_element_64 ?_
      rw [show tI u (nI (pp + 1)).toNatClampNeg = nI (u (pp + 1)) from tI_at (by omega)]
      have hu64 := hu (pp + 1)
      refine lv_istore_n (lv' := [(3, .int (nI (u (pp + 1)))), (0, .ref q), (1, .int (nI tg)), (2, .int (nI en))]) hx hb d_Text_element_65 rfl hl (by decide) rfl (fun ls hl => ?_)
      refine lv_aload_n hx hb d_Text_element_66 rfl (lv_at hl 1 rfl) ?_
      refine va_get (v := .int (nI pp)) hx hb htb i_Text hown hK hP 0 rfl rfl 2 (by decide) (htb _ q6_182) (fun _ h9 => h9) rfl d_Text_element_67 ?_
      refine lv_iconst (v := 2) hx hb d_Text_element_70 (by decide) ?_
      refine lv_iadd hx hb d_Text_element_71 ?_
      rw [show ((nI pp) + 2 : Int32) = nI (pp + 2) from nI_add pp 2]
      refine lv_istore (lv' := [(4, .int (nI (pp + 2))), (3, .int (nI (u (pp + 1)))), (0, .ref q), (1, .int (nI tg)), (2, .int (nI en))]) hx hb d_Text_element_72 hl (by decide) rfl (fun ls hl => ?_)
      refine lv_iload_n hx hb d_Text_element_74 rfl (lv_at hl 1 rfl) ?_
      refine lv_sipush (v := 129) hx hb d_Text_element_75 (by decide) ?_
      refine lv_icmp_ne (tgt := 123) hx hb d_Text_element_78 (by decide) (fun c78 => ?_) (fun c78 => ?_)
      · have p78 : ¬ ((u (pp + 1)) = 129) := (fun q9 => c78 ((nI_eq (a := (u (pp + 1))) (b := 129) (by omega) (by omega)).mpr q9))
        refine lv_iload_n hx hb d_Text_element_123 rfl (lv_at hl 1 rfl) ?_
        refine lv_sipush (v := 130) hx hb d_Text_element_124 (by decide) ?_
        refine lv_icmp_ne (tgt := 184) hx hb d_Text_element_127 (by decide) (fun c127 => ?_) (fun c127 => ?_)
        · have p127 : ¬ ((u (pp + 1)) = 130) := (fun q9 => c127 ((nI_eq (a := (u (pp + 1))) (b := 130) (by omega) (by omega)).mpr q9))
          refine lv_iload_n hx hb d_Text_element_184 rfl (lv_at hl 1 rfl) ?_
          refine lv_bipush (v := 127) hx hb d_Text_element_185 (by decide) ?_
          refine lv_icmp_le (tgt := 199) hx hb d_Text_element_187 (by decide) (fun c187 => ?_) (fun c187 => ?_)
          · have p187 : (u (pp + 1)) ≤ 127 := ((nI_leI (a := (u (pp + 1))) (b := 127) (by omega) (by omega)).mp c187)
            refine lv_iload hx hb d_Text_element_199 (lv_at hl 0 rfl) ?_
            refine lv_iload_n hx hb d_Text_element_201 rfl (lv_at hl 1 rfl) ?_
            refine lv_iadd hx hb d_Text_element_202 ?_
            rw [show ((nI (pp + 2)) + (nI (u (pp + 1))) : Int32) = nI ((pp + 2) + (u (pp + 1))) from nI_add (pp + 2) (u (pp + 1))]
            refine lv_iload_n hx hb d_Text_element_203 rfl (lv_at hl 4 rfl) ?_
            refine lv_icmp_le (tgt := 216) hx hb d_Text_element_204 (by decide) (fun c204 => ?_) (fun c204 => ?_)
            · have p204 : ((pp + 2) + (u (pp + 1))) ≤ en := ((nI_leI (a := ((pp + 2) + (u (pp + 1)))) (b := en) (by omega) (by omega)).mp c204)
              refine lv_aload_n hx hb d_Text_element_216 rfl (lv_at hl 2 rfl) ?_
              refine lv_iload hx hb d_Text_element_217 (lv_at hl 0 rfl) ?_
              refine va_put (v := .int (nI (pp + 2))) (ty := .int) hx hb htb i_Text t_Text t_Text_ok n_Text hown hK hP hD hS 0 rfl rfl 4 (by decide) (htb _ q6_185) (fun _ h9 => h9) rfl (by decide +kernel) rfl rfl (Nat.le_of_ble_eq_true rfl) d_Text_element_219 (fun H219 locs hP hD hS => ?_)
              have hP : va_P (dC, dI) classes [(q, .inr (13, (.ref d0 :: .int (nI n) :: .int (nI pp) :: .int (-1) :: .int (nI (pp + 2)) :: .int f_to :: .int (nI pp) :: .long f_time0 :: .long f_time1 :: .long f_latest :: .int f_serial :: .int f_serialEnd :: .int f_issuer :: .int f_issuerEnd :: .int f_subject :: .int f_subjectEnd :: .int f_subjectParts :: .int f_parts :: .int f_modulus :: .int f_modulusEnd :: .int f_exponent :: .int f_tbs :: .int f_tbsEnd :: .int f_signature :: .int f_signatureEnd :: .int f_length :: .int f_usage :: .int f_dns :: .int f_dirs :: .int f_extensions :: .int f_matters :: .int f_ownKey :: .int f_ownKeyEnd :: .int f_issuerKey :: .int f_issuerKeyEnd :: .int f_trees :: .int f_entries :: .int f_oids :: .int f_nameAt :: .int f_nameEnd :: .int f_ca :: .int f_basic :: .int f_trusted :: .ref r_dnsAt :: .ref r_dnsEnd :: .ref r_dirAt :: .ref r_dirEnd :: .ref r_treeAt :: .ref r_treeEnd :: .ref r_treeKind :: .ref r_entryAt :: .ref r_entryEnd :: .ref r_oidAt :: .ref r_oidEnd :: []))), (d0, .inl (cI, 2048, .inl (tI u)))] H219 := hP
              have hD : va_D A [(q, .inr (13, (.ref d0 :: .int (nI n) :: .int (nI pp) :: .int (-1) :: .int (nI (pp + 2)) :: .int f_to :: .int (nI pp) :: .long f_time0 :: .long f_time1 :: .long f_latest :: .int f_serial :: .int f_serialEnd :: .int f_issuer :: .int f_issuerEnd :: .int f_subject :: .int f_subjectEnd :: .int f_subjectParts :: .int f_parts :: .int f_modulus :: .int f_modulusEnd :: .int f_exponent :: .int f_tbs :: .int f_tbsEnd :: .int f_signature :: .int f_signatureEnd :: .int f_length :: .int f_usage :: .int f_dns :: .int f_dirs :: .int f_extensions :: .int f_matters :: .int f_ownKey :: .int f_ownKeyEnd :: .int f_issuerKey :: .int f_issuerKeyEnd :: .int f_trees :: .int f_entries :: .int f_oids :: .int f_nameAt :: .int f_nameEnd :: .int f_ca :: .int f_basic :: .int f_trusted :: .ref r_dnsAt :: .ref r_dnsEnd :: .ref r_dirAt :: .ref r_dirEnd :: .ref r_treeAt :: .ref r_treeEnd :: .ref r_treeKind :: .ref r_entryAt :: .ref r_entryEnd :: .ref r_oidAt :: .ref r_oidEnd :: []))), (d0, .inl (cI, 2048, .inl (tI u)))] := hD
              refine lv_aload_n hx hb d_Text_element_222 rfl (lv_at hl 2 rfl) ?_
              refine lv_iload hx hb d_Text_element_223 (lv_at hl 0 rfl) ?_
              refine lv_iload_n hx hb d_Text_element_225 rfl (lv_at hl 1 rfl) ?_
              refine lv_iadd hx hb d_Text_element_226 ?_
              rw [show ((nI (pp + 2)) + (nI (u (pp + 1))) : Int32) = nI ((pp + 2) + (u (pp + 1))) from nI_add (pp + 2) (u (pp + 1))]
              refine va_put (v := .int (nI ((pp + 2) + (u (pp + 1))))) (ty := .int) hx hb htb i_Text t_Text t_Text_ok n_Text hown hK hP hD hS 0 rfl rfl 5 (by decide) (htb _ q6_186) (fun _ h9 => h9) rfl (by decide +kernel) rfl rfl (Nat.le_of_ble_eq_true rfl) d_Text_element_227 (fun H227 locs hP hD hS => ?_)
              have hP : va_P (dC, dI) classes [(q, .inr (13, (.ref d0 :: .int (nI n) :: .int (nI pp) :: .int (-1) :: .int (nI (pp + 2)) :: .int (nI ((pp + 2) + (u (pp + 1)))) :: .int (nI pp) :: .long f_time0 :: .long f_time1 :: .long f_latest :: .int f_serial :: .int f_serialEnd :: .int f_issuer :: .int f_issuerEnd :: .int f_subject :: .int f_subjectEnd :: .int f_subjectParts :: .int f_parts :: .int f_modulus :: .int f_modulusEnd :: .int f_exponent :: .int f_tbs :: .int f_tbsEnd :: .int f_signature :: .int f_signatureEnd :: .int f_length :: .int f_usage :: .int f_dns :: .int f_dirs :: .int f_extensions :: .int f_matters :: .int f_ownKey :: .int f_ownKeyEnd :: .int f_issuerKey :: .int f_issuerKeyEnd :: .int f_trees :: .int f_entries :: .int f_oids :: .int f_nameAt :: .int f_nameEnd :: .int f_ca :: .int f_basic :: .int f_trusted :: .ref r_dnsAt :: .ref r_dnsEnd :: .ref r_dirAt :: .ref r_dirEnd :: .ref r_treeAt :: .ref r_treeEnd :: .ref r_treeKind :: .ref r_entryAt :: .ref r_entryEnd :: .ref r_oidAt :: .ref r_oidEnd :: []))), (d0, .inl (cI, 2048, .inl (tI u)))] H227 := hP
              have hD : va_D A [(q, .inr (13, (.ref d0 :: .int (nI n) :: .int (nI pp) :: .int (-1) :: .int (nI (pp + 2)) :: .int (nI ((pp + 2) + (u (pp + 1)))) :: .int (nI pp) :: .long f_time0 :: .long f_time1 :: .long f_latest :: .int f_serial :: .int f_serialEnd :: .int f_issuer :: .int f_issuerEnd :: .int f_subject :: .int f_subjectEnd :: .int f_subjectParts :: .int f_parts :: .int f_modulus :: .int f_modulusEnd :: .int f_exponent :: .int f_tbs :: .int f_tbsEnd :: .int f_signature :: .int f_signatureEnd :: .int f_length :: .int f_usage :: .int f_dns :: .int f_dirs :: .int f_extensions :: .int f_matters :: .int f_ownKey :: .int f_ownKeyEnd :: .int f_issuerKey :: .int f_issuerKeyEnd :: .int f_trees :: .int f_entries :: .int f_oids :: .int f_nameAt :: .int f_nameEnd :: .int f_ca :: .int f_basic :: .int f_trusted :: .ref r_dnsAt :: .ref r_dnsEnd :: .ref r_dirAt :: .ref r_dirEnd :: .ref r_treeAt :: .ref r_treeEnd :: .ref r_treeKind :: .ref r_entryAt :: .ref r_entryEnd :: .ref r_oidAt :: .ref r_oidEnd :: []))), (d0, .inl (cI, 2048, .inl (tI u)))] := hD
              refine lv_iconst (v := 1) hx hb d_Text_element_230 (by decide) ?_
              have e9 : tx_element u pp tg en = .inr ((pp + 2), ((pp + 2) + (u (pp + 1)))) := by
                exact ((if_pos p5).trans ((if_neg hc22).trans ((if_neg p78).trans ((if_neg p127).trans ((if_pos p187).trans ((if_pos p204).trans rfl))))))
              exact W.zret (v := 1) hx hb hr (bz_n (bz_t trivial)) (fun t ht hW => ⟨⟨_, (-1, nI (pp + 2), nI ((pp + 2) + (u (pp + 1))), nI pp), rfl, Or.inl ⟨((pp + 2), ((pp + 2) + (u (pp + 1)))), e9, rfl, rfl, rfl, rfl, rfl, by show pp + 2 ≤ (pp + 2); omega, by show (pp + 2) ≤ ((pp + 2) + (u (pp + 1))); omega, by show ((pp + 2) + (u (pp + 1))) ≤ en; omega⟩, by rw [ht]; exact hP, va_K.moved hW.alike hK, hD⟩, hS.F ht⟩) hS.2.2 d_Text_element_231
            · have p204 : ¬ (((pp + 2) + (u (pp + 1))) ≤ en) := (fun q9 => c204 ((nI_leI (a := ((pp + 2) + (u (pp + 1)))) (b := en) (by omega) (by omega)).mpr q9))
              refine lv_aload_n hx hb d_Text_element_207 rfl (lv_at hl 2 rfl) ?_
              refine lv_aload_n hx hb d_Text_element_208 rfl (lv_at hl 2 rfl) ?_
              refine va_get (v := .int (nI pp)) hx hb htb i_Text hown hK hP 0 rfl rfl 2 (by decide) (htb _ q6_182) (fun _ h9 => h9) rfl d_Text_element_209 ?_
              have hFc := va_free (wc := [(q, .inr (13, (.ref d0 :: .int (nI n) :: .int (nI pp) :: .int (-1) :: .int f_from :: .int f_to :: .int (nI pp) :: .long f_time0 :: .long f_time1 :: .long f_latest :: .int f_serial :: .int f_serialEnd :: .int f_issuer :: .int f_issuerEnd :: .int f_subject :: .int f_subjectEnd :: .int f_subjectParts :: .int f_parts :: .int f_modulus :: .int f_modulusEnd :: .int f_exponent :: .int f_tbs :: .int f_tbsEnd :: .int f_signature :: .int f_signatureEnd :: .int f_length :: .int f_usage :: .int f_dns :: .int f_dirs :: .int f_extensions :: .int f_matters :: .int f_ownKey :: .int f_ownKeyEnd :: .int f_issuerKey :: .int f_issuerKeyEnd :: .int f_trees :: .int f_entries :: .int f_oids :: .int f_nameAt :: .int f_nameEnd :: .int f_ca :: .int f_basic :: .int f_trusted :: .ref r_dnsAt :: .ref r_dnsEnd :: .ref r_dirAt :: .ref r_dirEnd :: .ref r_treeAt :: .ref r_treeEnd :: .ref r_treeKind :: .ref r_entryAt :: .ref r_entryEnd :: .ref r_oidAt :: .ref r_oidEnd :: [])))]) hD hS hA [0] rfl
              refine va_calli (mu_runV (As := [.int (nI pp)]) (rest := []) ⟨hx, hb, hml, hown, hts⟩ tbin (t_bad l dC dI sb q d0 r_dnsAt r_dnsEnd r_dirAt r_dirEnd r_treeAt r_treeEnd r_treeKind r_entryAt r_entryEnd r_oidAt r_oidEnd (nI n) (nI pp) f_from f_to (nI pp) f_serial f_serialEnd f_issuer f_issuerEnd f_subject f_subjectEnd f_subjectParts f_parts f_modulus f_modulusEnd f_exponent f_tbs f_tbsEnd f_signature f_signatureEnd f_length f_usage f_dns f_dirs f_extensions f_matters f_ownKey f_ownKeyEnd f_issuerKey f_issuerKeyEnd f_trees f_entries f_oids f_nameAt f_nameEnd f_ca f_basic f_trusted f_time0 f_time1 f_latest cI u pp H19.size) q8_99 q8_100 q8_101 q1_10 q8_102 (n := 1) (by decide +kernel) rfl ⟨rfl, rfl⟩ ⟨Nat.le_of_ble_eq_true rfl, Nat.le_of_ble_eq_true rfl⟩ ⟨Nat.le_of_ble_eq_true rfl, Nat.le_of_ble_eq_true rfl⟩ hN (hT0.keep hS hAs) hAs (Nat.le_trans hB0 hS.1) hK hP hD [0] (by decide) rfl [] rfl 0 13 rfl rfl rfl hl.1 rfl (Nat.le_of_ble_eq_true rfl) d_Text_element_212) hS (fun q _ h => hFc q h) hFc (fun r212 u212 tS H212 locs ht hvm hw212 hB hz1 hk1 hS => ?_)
              skip
              obtain ⟨hP1, hK1, hD1⟩ := hB
              rw [ht] at hP1
              obtain ⟨hP, hD⟩ := va_join (wr := [(d0, .inl (cI, 2048, .inl (tI u)))]) (w1 := [(q, .inr (13, (.ref d0 :: .int (nI n) :: .int (nI pp) :: .int (nI pp) :: .int f_from :: .int f_to :: .int (nI pp) :: .long f_time0 :: .long f_time1 :: .long f_latest :: .int f_serial :: .int f_serialEnd :: .int f_issuer :: .int f_issuerEnd :: .int f_subject :: .int f_subjectEnd :: .int f_subjectParts :: .int f_parts :: .int f_modulus :: .int f_modulusEnd :: .int f_exponent :: .int f_tbs :: .int f_tbsEnd :: .int f_signature :: .int f_signatureEnd :: .int f_length :: .int f_usage :: .int f_dns :: .int f_dirs :: .int f_extensions :: .int f_matters :: .int f_ownKey :: .int f_ownKeyEnd :: .int f_issuerKey :: .int f_issuerKeyEnd :: .int f_trees :: .int f_entries :: .int f_oids :: .int f_nameAt :: .int f_nameEnd :: .int f_ca :: .int f_basic :: .int f_trusted :: .ref r_dnsAt :: .ref r_dnsEnd :: .ref r_dirAt :: .ref r_dirEnd :: .ref r_treeAt :: .ref r_treeEnd :: .ref r_treeKind :: .ref r_entryAt :: .ref r_entryEnd :: .ref r_oidAt :: .ref r_oidEnd :: [])))]) hP hD [0] [1] rfl rfl (by decide) (by decide) hk1 hFc hP1 hD1
              have hP : va_P (dC, dI) classes [(d0, .inl (cI, 2048, .inl (tI u))), (q, .inr (13, (.ref d0 :: .int (nI n) :: .int (nI pp) :: .int (nI pp) :: .int f_from :: .int f_to :: .int (nI pp) :: .long f_time0 :: .long f_time1 :: .long f_latest :: .int f_serial :: .int f_serialEnd :: .int f_issuer :: .int f_issuerEnd :: .int f_subject :: .int f_subjectEnd :: .int f_subjectParts :: .int f_parts :: .int f_modulus :: .int f_modulusEnd :: .int f_exponent :: .int f_tbs :: .int f_tbsEnd :: .int f_signature :: .int f_signatureEnd :: .int f_length :: .int f_usage :: .int f_dns :: .int f_dirs :: .int f_extensions :: .int f_matters :: .int f_ownKey :: .int f_ownKeyEnd :: .int f_issuerKey :: .int f_issuerKeyEnd :: .int f_trees :: .int f_entries :: .int f_oids :: .int f_nameAt :: .int f_nameEnd :: .int f_ca :: .int f_basic :: .int f_trusted :: .ref r_dnsAt :: .ref r_dnsEnd :: .ref r_dirAt :: .ref r_dirEnd :: .ref r_treeAt :: .ref r_treeEnd :: .ref r_treeKind :: .ref r_entryAt :: .ref r_entryEnd :: .ref r_oidAt :: .ref r_oidEnd :: [])))] H212 := hP
              have hD : va_D A [(d0, .inl (cI, 2048, .inl (tI u))), (q, .inr (13, (.ref d0 :: .int (nI n) :: .int (nI pp) :: .int (nI pp) :: .int f_from :: .int f_to :: .int (nI pp) :: .long f_time0 :: .long f_time1 :: .long f_latest :: .int f_serial :: .int f_serialEnd :: .int f_issuer :: .int f_issuerEnd :: .int f_subject :: .int f_subjectEnd :: .int f_subjectParts :: .int f_parts :: .int f_modulus :: .int f_modulusEnd :: .int f_exponent :: .int f_tbs :: .int f_tbsEnd :: .int f_signature :: .int f_signatureEnd :: .int f_length :: .int f_usage :: .int f_dns :: .int f_dirs :: .int f_extensions :: .int f_matters :: .int f_ownKey :: .int f_ownKeyEnd :: .int f_issuerKey :: .int f_issuerKeyEnd :: .int f_trees :: .int f_entries :: .int f_oids :: .int f_nameAt :: .int f_nameEnd :: .int f_ca :: .int f_basic :: .int f_trusted :: .ref r_dnsAt :: .ref r_dnsEnd :: .ref r_dirAt :: .ref r_dirEnd :: .ref r_treeAt :: .ref r_treeEnd :: .ref r_treeKind :: .ref r_entryAt :: .ref r_entryEnd :: .ref r_oidAt :: .ref r_oidEnd :: [])))] := hD
              subst hw212
              have e9 : tx_element u pp tg en = .inl pp := by
                exact ((if_pos p5).trans ((if_neg hc22).trans ((if_neg p78).trans ((if_neg p127).trans ((if_pos p187).trans ((if_neg p204).trans rfl))))))
              exact W.zret (v := 0) hx hb hr (bz_n (bz_f not_false)) (fun t ht hW => ⟨⟨_, (nI pp, f_from, f_to, nI pp), rfl, Or.inr ⟨_, e9, rfl, rfl⟩, by rw [ht]; exact hP.sub [1, 0] rfl, va_K.moved hW.alike hK, hD.sub [1, 0] (by decide) rfl⟩, hS.F ht⟩) hS.2.2 d_Text_element_215
          · have p187 : ¬ ((u (pp + 1)) ≤ 127) := (fun q9 => c187 ((nI_leI (a := (u (pp + 1))) (b := 127) (by omega) (by omega)).mpr q9))
            refine lv_aload_n hx hb d_Text_element_190 rfl (lv_at hl 2 rfl) ?_
            refine lv_aload_n hx hb d_Text_element_191 rfl (lv_at hl 2 rfl) ?_
            refine va_get (v := .int (nI pp)) hx hb htb i_Text hown hK hP 0 rfl rfl 2 (by decide) (htb _ q6_182) (fun _ h9 => h9) rfl d_Text_element_192 ?_
            have hFc := va_free (wc := [(q, .inr (13, (.ref d0 :: .int (nI n) :: .int (nI pp) :: .int (-1) :: .int f_from :: .int f_to :: .int (nI pp) :: .long f_time0 :: .long f_time1 :: .long f_latest :: .int f_serial :: .int f_serialEnd :: .int f_issuer :: .int f_issuerEnd :: .int f_subject :: .int f_subjectEnd :: .int f_subjectParts :: .int f_parts :: .int f_modulus :: .int f_modulusEnd :: .int f_exponent :: .int f_tbs :: .int f_tbsEnd :: .int f_signature :: .int f_signatureEnd :: .int f_length :: .int f_usage :: .int f_dns :: .int f_dirs :: .int f_extensions :: .int f_matters :: .int f_ownKey :: .int f_ownKeyEnd :: .int f_issuerKey :: .int f_issuerKeyEnd :: .int f_trees :: .int f_entries :: .int f_oids :: .int f_nameAt :: .int f_nameEnd :: .int f_ca :: .int f_basic :: .int f_trusted :: .ref r_dnsAt :: .ref r_dnsEnd :: .ref r_dirAt :: .ref r_dirEnd :: .ref r_treeAt :: .ref r_treeEnd :: .ref r_treeKind :: .ref r_entryAt :: .ref r_entryEnd :: .ref r_oidAt :: .ref r_oidEnd :: [])))]) hD hS hA [0] rfl
            refine va_calli (mu_runV (As := [.int (nI pp)]) (rest := []) ⟨hx, hb, hml, hown, hts⟩ tbin (t_bad l dC dI sb q d0 r_dnsAt r_dnsEnd r_dirAt r_dirEnd r_treeAt r_treeEnd r_treeKind r_entryAt r_entryEnd r_oidAt r_oidEnd (nI n) (nI pp) f_from f_to (nI pp) f_serial f_serialEnd f_issuer f_issuerEnd f_subject f_subjectEnd f_subjectParts f_parts f_modulus f_modulusEnd f_exponent f_tbs f_tbsEnd f_signature f_signatureEnd f_length f_usage f_dns f_dirs f_extensions f_matters f_ownKey f_ownKeyEnd f_issuerKey f_issuerKeyEnd f_trees f_entries f_oids f_nameAt f_nameEnd f_ca f_basic f_trusted f_time0 f_time1 f_latest cI u pp H19.size) q8_99 q8_100 q8_101 q1_10 q8_102 (n := 1) (by decide +kernel) rfl ⟨rfl, rfl⟩ ⟨Nat.le_of_ble_eq_true rfl, Nat.le_of_ble_eq_true rfl⟩ ⟨Nat.le_of_ble_eq_true rfl, Nat.le_of_ble_eq_true rfl⟩ hN (hT0.keep hS hAs) hAs (Nat.le_trans hB0 hS.1) hK hP hD [0] (by decide) rfl [] rfl 0 13 rfl rfl rfl hl.1 rfl (Nat.le_of_ble_eq_true rfl) d_Text_element_195) hS (fun q _ h => hFc q h) hFc (fun r195 u195 tS H195 locs ht hvm hw195 hB hz1 hk1 hS => ?_)
            skip
            obtain ⟨hP1, hK1, hD1⟩ := hB
            rw [ht] at hP1
            obtain ⟨hP, hD⟩ := va_join (wr := [(d0, .inl (cI, 2048, .inl (tI u)))]) (w1 := [(q, .inr (13, (.ref d0 :: .int (nI n) :: .int (nI pp) :: .int (nI pp) :: .int f_from :: .int f_to :: .int (nI pp) :: .long f_time0 :: .long f_time1 :: .long f_latest :: .int f_serial :: .int f_serialEnd :: .int f_issuer :: .int f_issuerEnd :: .int f_subject :: .int f_subjectEnd :: .int f_subjectParts :: .int f_parts :: .int f_modulus :: .int f_modulusEnd :: .int f_exponent :: .int f_tbs :: .int f_tbsEnd :: .int f_signature :: .int f_signatureEnd :: .int f_length :: .int f_usage :: .int f_dns :: .int f_dirs :: .int f_extensions :: .int f_matters :: .int f_ownKey :: .int f_ownKeyEnd :: .int f_issuerKey :: .int f_issuerKeyEnd :: .int f_trees :: .int f_entries :: .int f_oids :: .int f_nameAt :: .int f_nameEnd :: .int f_ca :: .int f_basic :: .int f_trusted :: .ref r_dnsAt :: .ref r_dnsEnd :: .ref r_dirAt :: .ref r_dirEnd :: .ref r_treeAt :: .ref r_treeEnd :: .ref r_treeKind :: .ref r_entryAt :: .ref r_entryEnd :: .ref r_oidAt :: .ref r_oidEnd :: [])))]) hP hD [0] [1] rfl rfl (by decide) (by decide) hk1 hFc hP1 hD1
            have hP : va_P (dC, dI) classes [(d0, .inl (cI, 2048, .inl (tI u))), (q, .inr (13, (.ref d0 :: .int (nI n) :: .int (nI pp) :: .int (nI pp) :: .int f_from :: .int f_to :: .int (nI pp) :: .long f_time0 :: .long f_time1 :: .long f_latest :: .int f_serial :: .int f_serialEnd :: .int f_issuer :: .int f_issuerEnd :: .int f_subject :: .int f_subjectEnd :: .int f_subjectParts :: .int f_parts :: .int f_modulus :: .int f_modulusEnd :: .int f_exponent :: .int f_tbs :: .int f_tbsEnd :: .int f_signature :: .int f_signatureEnd :: .int f_length :: .int f_usage :: .int f_dns :: .int f_dirs :: .int f_extensions :: .int f_matters :: .int f_ownKey :: .int f_ownKeyEnd :: .int f_issuerKey :: .int f_issuerKeyEnd :: .int f_trees :: .int f_entries :: .int f_oids :: .int f_nameAt :: .int f_nameEnd :: .int f_ca :: .int f_basic :: .int f_trusted :: .ref r_dnsAt :: .ref r_dnsEnd :: .ref r_dirAt :: .ref r_dirEnd :: .ref r_treeAt :: .ref r_treeEnd :: .ref r_treeKind :: .ref r_entryAt :: .ref r_entryEnd :: .ref r_oidAt :: .ref r_oidEnd :: [])))] H195 := hP
            have hD : va_D A [(d0, .inl (cI, 2048, .inl (tI u))), (q, .inr (13, (.ref d0 :: .int (nI n) :: .int (nI pp) :: .int (nI pp) :: .int f_from :: .int f_to :: .int (nI pp) :: .long f_time0 :: .long f_time1 :: .long f_latest :: .int f_serial :: .int f_serialEnd :: .int f_issuer :: .int f_issuerEnd :: .int f_subject :: .int f_subjectEnd :: .int f_subjectParts :: .int f_parts :: .int f_modulus :: .int f_modulusEnd :: .int f_exponent :: .int f_tbs :: .int f_tbsEnd :: .int f_signature :: .int f_signatureEnd :: .int f_length :: .int f_usage :: .int f_dns :: .int f_dirs :: .int f_extensions :: .int f_matters :: .int f_ownKey :: .int f_ownKeyEnd :: .int f_issuerKey :: .int f_issuerKeyEnd :: .int f_trees :: .int f_entries :: .int f_oids :: .int f_nameAt :: .int f_nameEnd :: .int f_ca :: .int f_basic :: .int f_trusted :: .ref r_dnsAt :: .ref r_dnsEnd :: .ref r_dirAt :: .ref r_dirEnd :: .ref r_treeAt :: .ref r_treeEnd :: .ref r_treeKind :: .ref r_entryAt :: .ref r_entryEnd :: .ref r_oidAt :: .ref r_oidEnd :: [])))] := hD
            subst hw195
            have e9 : tx_element u pp tg en = .inl pp := by
              exact ((if_pos p5).trans ((if_neg hc22).trans ((if_neg p78).trans ((if_neg p127).trans ((if_neg p187).trans rfl)))))
            exact W.zret (v := 0) hx hb hr (bz_n (bz_f not_false)) (fun t ht hW => ⟨⟨_, (nI pp, f_from, f_to, nI pp), rfl, Or.inr ⟨_, e9, rfl, rfl⟩, by rw [ht]; exact hP.sub [1, 0] rfl, va_K.moved hW.alike hK, hD.sub [1, 0] (by decide) rfl⟩, hS.F ht⟩) hS.2.2 d_Text_element_198
        · have p127 : (u (pp + 1)) = 130 := ((nI_eq (a := (u (pp + 1))) (b := 130) (by omega) (by omega)).mp c127)
          refine w_cutJ (J := ¬ ((en ≤ ((pp + 2) + 1)) ∨ ((u (pp + 2)) = 0))) (nL := 5) (lv := [(4, .int (nI (pp + 2))), (3, .int (nI (u (pp + 1)))), (0, .ref q), (1, .int (nI tg)), (2, .int (nI en))]) (pcJ := 157) (st := []) (fun ls hc130 hl => ?_) (fun k157_130 => ?_)
          · skip
            refine lv_aload_n hx hb d_Text_element_157 rfl (lv_at hl 2 rfl) ?_
            refine va_get (v := .ref d0) hx hb htb i_Text hown hK hP 0 rfl rfl 0 (by decide) (htb _ q6_178) (fun _ h9 => h9) rfl d_Text_element_158 ?_
            refine lv_iload hx hb d_Text_element_161 (lv_at hl 0 rfl) ?_
            have h163 : vp_in (nI (pp + 2)) 2048 := vp_in_nI (by omega) (by omega)
            refine va_iald hx hb hK hP 1 0 rfl rfl h163 d_Text_element_163 ?_
            rw [show tI u (nI (pp + 2)).toNatClampNeg = nI (u (pp + 2)) from tI_at (by omega)]
            have hu163 := hu (pp + 2)
            refine lv_bipush (v := 8) hx hb d_Text_element_164 (by decide) ?_
            refine lv_ishl hx hb d_Text_element_166 ?_
            refine lv_aload_n hx hb d_Text_element_167 rfl (lv_at hl 2 rfl) ?_
            refine va_get (v := .ref d0) hx hb htb i_Text hown hK hP 0 rfl rfl 0 (by decide) (htb _ q6_178) (fun _ h9 => h9) rfl d_Text_element_168 ?_
            refine lv_iload hx hb d_Text_element_171 (lv_at hl 0 rfl) ?_
            refine lv_iconst (v := 1) hx hb d_Text_element_173 (by decide) ?_
            refine lv_iadd hx hb d_Text_element_174 ?_
            rw [show ((nI (pp + 2)) + 1 : Int32) = nI ((pp + 2) + 1) from nI_add (pp + 2) 1]
            have h175 : vp_in (nI ((pp + 2) + 1)) 2048 := vp_in_nI (by omega) (by omega)
            refine va_iald hx hb hK hP 1 0 rfl rfl h175 d_Text_element_175 ?_
            rw [show tI u (nI ((pp + 2) + 1)).toNatClampNeg = nI (u ((pp + 2) + 1)) from tI_at (by omega)]
            have hu175 := hu ((pp + 2) + 1)
            refine lv_ior hx hb d_Text_element_176 ?_
            rw [show (((nI (u (pp + 2))) <<< (8 &&& 31)) ||| (nI (u ((pp + 2) + 1))) : Int32) = nI ((u (pp + 2)) * 256 + (u ((pp + 2) + 1))) from sh8 (by omega) (by omega)]
            refine lv_istore_n (lv' := [(3, .int (nI ((u (pp + 2)) * 256 + (u ((pp + 2) + 1))))), (4, .int (nI (pp + 2))), (0, .ref q), (1, .int (nI tg)), (2, .int (nI en))]) hx hb d_Text_element_177 rfl hl (by decide) rfl (fun ls hl => ?_)
            refine lv_iinc (v := nI (pp + 2 + 2)) (lv' := [(4, .int (nI (pp + 2 + 2))), (3, .int (nI ((u (pp + 2)) * 256 + (u ((pp + 2) + 1))))), (0, .ref q), (1, .int (nI tg)), (2, .int (nI en))]) hx hb d_Text_element_178 hl (k := 1) rfl (nI_add _ 2) (by decide) rfl (fun ls hl => ?_)
            refine lv_goto (tgt := 199) hx hb d_Text_element_181 (by decide) ?_
            refine lv_iload hx hb d_Text_element_199 (lv_at hl 0 rfl) ?_
            refine lv_iload_n hx hb d_Text_element_201 rfl (lv_at hl 1 rfl) ?_
            refine lv_iadd hx hb d_Text_element_202 ?_
            rw [show ((nI (pp + 2 + 2)) + (nI ((u (pp + 2)) * 256 + (u ((pp + 2) + 1)))) : Int32) = nI ((pp + 2 + 2) + ((u (pp + 2)) * 256 + (u ((pp + 2) + 1)))) from nI_add (pp + 2 + 2) ((u (pp + 2)) * 256 + (u ((pp + 2) + 1)))]
            refine lv_iload_n hx hb d_Text_element_203 rfl (lv_at hl 4 rfl) ?_
            refine lv_icmp_le (tgt := 216) hx hb d_Text_element_204 (by decide) (fun c204 => ?_) (fun c204 => ?_)
            · have p204 : ((pp + 2 + 2) + ((u (pp + 2)) * 256 + (u ((pp + 2) + 1)))) ≤ en := ((nI_leI (a := ((pp + 2 + 2) + ((u (pp + 2)) * 256 + (u ((pp + 2) + 1))))) (b := en) (by omega) (by omega)).mp c204)
              refine lv_aload_n hx hb d_Text_element_216 rfl (lv_at hl 2 rfl) ?_
              refine lv_iload hx hb d_Text_element_217 (lv_at hl 0 rfl) ?_
              refine va_put (v := .int (nI (pp + 2 + 2))) (ty := .int) hx hb htb i_Text t_Text t_Text_ok n_Text hown hK hP hD hS 0 rfl rfl 4 (by decide) (htb _ q6_185) (fun _ h9 => h9) rfl (by decide +kernel) rfl rfl (Nat.le_of_ble_eq_true rfl) d_Text_element_219 (fun H219 locs hP hD hS => ?_)
              have hP : va_P (dC, dI) classes [(q, .inr (13, (.ref d0 :: .int (nI n) :: .int (nI pp) :: .int (-1) :: .int (nI (pp + 2 + 2)) :: .int f_to :: .int (nI pp) :: .long f_time0 :: .long f_time1 :: .long f_latest :: .int f_serial :: .int f_serialEnd :: .int f_issuer :: .int f_issuerEnd :: .int f_subject :: .int f_subjectEnd :: .int f_subjectParts :: .int f_parts :: .int f_modulus :: .int f_modulusEnd :: .int f_exponent :: .int f_tbs :: .int f_tbsEnd :: .int f_signature :: .int f_signatureEnd :: .int f_length :: .int f_usage :: .int f_dns :: .int f_dirs :: .int f_extensions :: .int f_matters :: .int f_ownKey :: .int f_ownKeyEnd :: .int f_issuerKey :: .int f_issuerKeyEnd :: .int f_trees :: .int f_entries :: .int f_oids :: .int f_nameAt :: .int f_nameEnd :: .int f_ca :: .int f_basic :: .int f_trusted :: .ref r_dnsAt :: .ref r_dnsEnd :: .ref r_dirAt :: .ref r_dirEnd :: .ref r_treeAt :: .ref r_treeEnd :: .ref r_treeKind :: .ref r_entryAt :: .ref r_entryEnd :: .ref r_oidAt :: .ref r_oidEnd :: []))), (d0, .inl (cI, 2048, .inl (tI u)))] H219 := hP
              have hD : va_D A [(q, .inr (13, (.ref d0 :: .int (nI n) :: .int (nI pp) :: .int (-1) :: .int (nI (pp + 2 + 2)) :: .int f_to :: .int (nI pp) :: .long f_time0 :: .long f_time1 :: .long f_latest :: .int f_serial :: .int f_serialEnd :: .int f_issuer :: .int f_issuerEnd :: .int f_subject :: .int f_subjectEnd :: .int f_subjectParts :: .int f_parts :: .int f_modulus :: .int f_modulusEnd :: .int f_exponent :: .int f_tbs :: .int f_tbsEnd :: .int f_signature :: .int f_signatureEnd :: .int f_length :: .int f_usage :: .int f_dns :: .int f_dirs :: .int f_extensions :: .int f_matters :: .int f_ownKey :: .int f_ownKeyEnd :: .int f_issuerKey :: .int f_issuerKeyEnd :: .int f_trees :: .int f_entries :: .int f_oids :: .int f_nameAt :: .int f_nameEnd :: .int f_ca :: .int f_basic :: .int f_trusted :: .ref r_dnsAt :: .ref r_dnsEnd :: .ref r_dirAt :: .ref r_dirEnd :: .ref r_treeAt :: .ref r_treeEnd :: .ref r_treeKind :: .ref r_entryAt :: .ref r_entryEnd :: .ref r_oidAt :: .ref r_oidEnd :: []))), (d0, .inl (cI, 2048, .inl (tI u)))] := hD
              refine lv_aload_n hx hb d_Text_element_222 rfl (lv_at hl 2 rfl) ?_
              refine lv_iload hx hb d_Text_element_223 (lv_at hl 0 rfl) ?_
              refine lv_iload_n hx hb d_Text_element_225 rfl (lv_at hl 1 rfl) ?_
              refine lv_iadd hx hb d_Text_element_226 ?_
              rw [show ((nI (pp + 2 + 2)) + (nI ((u (pp + 2)) * 256 + (u ((pp + 2) + 1)))) : Int32) = nI ((pp + 2 + 2) + ((u (pp + 2)) * 256 + (u ((pp + 2) + 1)))) from nI_add (pp + 2 + 2) ((u (pp + 2)) * 256 + (u ((pp + 2) + 1)))]
              refine va_put (v := .int (nI ((pp + 2 + 2) + ((u (pp + 2)) * 256 + (u ((pp + 2) + 1)))))) (ty := .int) hx hb htb i_Text t_Text t_Text_ok n_Text hown hK hP hD hS 0 rfl rfl 5 (by decide) (htb _ q6_186) (fun _ h9 => h9) rfl (by decide +kernel) rfl rfl (Nat.le_of_ble_eq_true rfl) d_Text_element_227 (fun H227 locs hP hD hS => ?_)
              have hP : va_P (dC, dI) classes [(q, .inr (13, (.ref d0 :: .int (nI n) :: .int (nI pp) :: .int (-1) :: .int (nI (pp + 2 + 2)) :: .int (nI ((pp + 2 + 2) + ((u (pp + 2)) * 256 + (u ((pp + 2) + 1))))) :: .int (nI pp) :: .long f_time0 :: .long f_time1 :: .long f_latest :: .int f_serial :: .int f_serialEnd :: .int f_issuer :: .int f_issuerEnd :: .int f_subject :: .int f_subjectEnd :: .int f_subjectParts :: .int f_parts :: .int f_modulus :: .int f_modulusEnd :: .int f_exponent :: .int f_tbs :: .int f_tbsEnd :: .int f_signature :: .int f_signatureEnd :: .int f_length :: .int f_usage :: .int f_dns :: .int f_dirs :: .int f_extensions :: .int f_matters :: .int f_ownKey :: .int f_ownKeyEnd :: .int f_issuerKey :: .int f_issuerKeyEnd :: .int f_trees :: .int f_entries :: .int f_oids :: .int f_nameAt :: .int f_nameEnd :: .int f_ca :: .int f_basic :: .int f_trusted :: .ref r_dnsAt :: .ref r_dnsEnd :: .ref r_dirAt :: .ref r_dirEnd :: .ref r_treeAt :: .ref r_treeEnd :: .ref r_treeKind :: .ref r_entryAt :: .ref r_entryEnd :: .ref r_oidAt :: .ref r_oidEnd :: []))), (d0, .inl (cI, 2048, .inl (tI u)))] H227 := hP
              have hD : va_D A [(q, .inr (13, (.ref d0 :: .int (nI n) :: .int (nI pp) :: .int (-1) :: .int (nI (pp + 2 + 2)) :: .int (nI ((pp + 2 + 2) + ((u (pp + 2)) * 256 + (u ((pp + 2) + 1))))) :: .int (nI pp) :: .long f_time0 :: .long f_time1 :: .long f_latest :: .int f_serial :: .int f_serialEnd :: .int f_issuer :: .int f_issuerEnd :: .int f_subject :: .int f_subjectEnd :: .int f_subjectParts :: .int f_parts :: .int f_modulus :: .int f_modulusEnd :: .int f_exponent :: .int f_tbs :: .int f_tbsEnd :: .int f_signature :: .int f_signatureEnd :: .int f_length :: .int f_usage :: .int f_dns :: .int f_dirs :: .int f_extensions :: .int f_matters :: .int f_ownKey :: .int f_ownKeyEnd :: .int f_issuerKey :: .int f_issuerKeyEnd :: .int f_trees :: .int f_entries :: .int f_oids :: .int f_nameAt :: .int f_nameEnd :: .int f_ca :: .int f_basic :: .int f_trusted :: .ref r_dnsAt :: .ref r_dnsEnd :: .ref r_dirAt :: .ref r_dirEnd :: .ref r_treeAt :: .ref r_treeEnd :: .ref r_treeKind :: .ref r_entryAt :: .ref r_entryEnd :: .ref r_oidAt :: .ref r_oidEnd :: []))), (d0, .inl (cI, 2048, .inl (tI u)))] := hD
              refine lv_iconst (v := 1) hx hb d_Text_element_230 (by decide) ?_
              have e9 : tx_element u pp tg en = .inr ((pp + 2 + 2), ((pp + 2 + 2) + ((u (pp + 2)) * 256 + (u ((pp + 2) + 1))))) := by
                exact ((if_pos p5).trans ((if_neg hc22).trans ((if_neg p78).trans ((if_pos p127).trans ((if_neg hc130).trans ((if_pos p204).trans rfl))))))
              exact W.zret (v := 1) hx hb hr (bz_n (bz_t trivial)) (fun t ht hW => ⟨⟨_, (-1, nI (pp + 2 + 2), nI ((pp + 2 + 2) + ((u (pp + 2)) * 256 + (u ((pp + 2) + 1)))), nI pp), rfl, Or.inl ⟨((pp + 2 + 2), ((pp + 2 + 2) + ((u (pp + 2)) * 256 + (u ((pp + 2) + 1))))), e9, rfl, rfl, rfl, rfl, rfl, by show pp + 2 ≤ (pp + 2 + 2); omega, by show (pp + 2 + 2) ≤ ((pp + 2 + 2) + ((u (pp + 2)) * 256 + (u ((pp + 2) + 1)))); omega, by show ((pp + 2 + 2) + ((u (pp + 2)) * 256 + (u ((pp + 2) + 1)))) ≤ en; omega⟩, by rw [ht]; exact hP, va_K.moved hW.alike hK, hD⟩, hS.F ht⟩) hS.2.2 d_Text_element_231
            · have p204 : ¬ (((pp + 2 + 2) + ((u (pp + 2)) * 256 + (u ((pp + 2) + 1)))) ≤ en) := (fun q9 => c204 ((nI_leI (a := ((pp + 2 + 2) + ((u (pp + 2)) * 256 + (u ((pp + 2) + 1))))) (b := en) (by omega) (by omega)).mpr q9))
              refine lv_aload_n hx hb d_Text_element_207 rfl (lv_at hl 2 rfl) ?_
              refine lv_aload_n hx hb d_Text_element_208 rfl (lv_at hl 2 rfl) ?_
              refine va_get (v := .int (nI pp)) hx hb htb i_Text hown hK hP 0 rfl rfl 2 (by decide) (htb _ q6_182) (fun _ h9 => h9) rfl d_Text_element_209 ?_
              have hFc := va_free (wc := [(q, .inr (13, (.ref d0 :: .int (nI n) :: .int (nI pp) :: .int (-1) :: .int f_from :: .int f_to :: .int (nI pp) :: .long f_time0 :: .long f_time1 :: .long f_latest :: .int f_serial :: .int f_serialEnd :: .int f_issuer :: .int f_issuerEnd :: .int f_subject :: .int f_subjectEnd :: .int f_subjectParts :: .int f_parts :: .int f_modulus :: .int f_modulusEnd :: .int f_exponent :: .int f_tbs :: .int f_tbsEnd :: .int f_signature :: .int f_signatureEnd :: .int f_length :: .int f_usage :: .int f_dns :: .int f_dirs :: .int f_extensions :: .int f_matters :: .int f_ownKey :: .int f_ownKeyEnd :: .int f_issuerKey :: .int f_issuerKeyEnd :: .int f_trees :: .int f_entries :: .int f_oids :: .int f_nameAt :: .int f_nameEnd :: .int f_ca :: .int f_basic :: .int f_trusted :: .ref r_dnsAt :: .ref r_dnsEnd :: .ref r_dirAt :: .ref r_dirEnd :: .ref r_treeAt :: .ref r_treeEnd :: .ref r_treeKind :: .ref r_entryAt :: .ref r_entryEnd :: .ref r_oidAt :: .ref r_oidEnd :: [])))]) hD hS hA [0] rfl
              refine va_calli (mu_runV (As := [.int (nI pp)]) (rest := []) ⟨hx, hb, hml, hown, hts⟩ tbin (t_bad l dC dI sb q d0 r_dnsAt r_dnsEnd r_dirAt r_dirEnd r_treeAt r_treeEnd r_treeKind r_entryAt r_entryEnd r_oidAt r_oidEnd (nI n) (nI pp) f_from f_to (nI pp) f_serial f_serialEnd f_issuer f_issuerEnd f_subject f_subjectEnd f_subjectParts f_parts f_modulus f_modulusEnd f_exponent f_tbs f_tbsEnd f_signature f_signatureEnd f_length f_usage f_dns f_dirs f_extensions f_matters f_ownKey f_ownKeyEnd f_issuerKey f_issuerKeyEnd f_trees f_entries f_oids f_nameAt f_nameEnd f_ca f_basic f_trusted f_time0 f_time1 f_latest cI u pp H19.size) q8_99 q8_100 q8_101 q1_10 q8_102 (n := 1) (by decide +kernel) rfl ⟨rfl, rfl⟩ ⟨Nat.le_of_ble_eq_true rfl, Nat.le_of_ble_eq_true rfl⟩ ⟨Nat.le_of_ble_eq_true rfl, Nat.le_of_ble_eq_true rfl⟩ hN (hT0.keep hS hAs) hAs (Nat.le_trans hB0 hS.1) hK hP hD [0] (by decide) rfl [] rfl 0 13 rfl rfl rfl hl.1 rfl (Nat.le_of_ble_eq_true rfl) d_Text_element_212) hS (fun q _ h => hFc q h) hFc (fun r212 u212 tS H212 locs ht hvm hw212 hB hz1 hk1 hS => ?_)
              skip
              obtain ⟨hP1, hK1, hD1⟩ := hB
              rw [ht] at hP1
              obtain ⟨hP, hD⟩ := va_join (wr := [(d0, .inl (cI, 2048, .inl (tI u)))]) (w1 := [(q, .inr (13, (.ref d0 :: .int (nI n) :: .int (nI pp) :: .int (nI pp) :: .int f_from :: .int f_to :: .int (nI pp) :: .long f_time0 :: .long f_time1 :: .long f_latest :: .int f_serial :: .int f_serialEnd :: .int f_issuer :: .int f_issuerEnd :: .int f_subject :: .int f_subjectEnd :: .int f_subjectParts :: .int f_parts :: .int f_modulus :: .int f_modulusEnd :: .int f_exponent :: .int f_tbs :: .int f_tbsEnd :: .int f_signature :: .int f_signatureEnd :: .int f_length :: .int f_usage :: .int f_dns :: .int f_dirs :: .int f_extensions :: .int f_matters :: .int f_ownKey :: .int f_ownKeyEnd :: .int f_issuerKey :: .int f_issuerKeyEnd :: .int f_trees :: .int f_entries :: .int f_oids :: .int f_nameAt :: .int f_nameEnd :: .int f_ca :: .int f_basic :: .int f_trusted :: .ref r_dnsAt :: .ref r_dnsEnd :: .ref r_dirAt :: .ref r_dirEnd :: .ref r_treeAt :: .ref r_treeEnd :: .ref r_treeKind :: .ref r_entryAt :: .ref r_entryEnd :: .ref r_oidAt :: .ref r_oidEnd :: [])))]) hP hD [0] [1] rfl rfl (by decide) (by decide) hk1 hFc hP1 hD1
              have hP : va_P (dC, dI) classes [(d0, .inl (cI, 2048, .inl (tI u))), (q, .inr (13, (.ref d0 :: .int (nI n) :: .int (nI pp) :: .int (nI pp) :: .int f_from :: .int f_to :: .int (nI pp) :: .long f_time0 :: .long f_time1 :: .long f_latest :: .int f_serial :: .int f_serialEnd :: .int f_issuer :: .int f_issuerEnd :: .int f_subject :: .int f_subjectEnd :: .int f_subjectParts :: .int f_parts :: .int f_modulus :: .int f_modulusEnd :: .int f_exponent :: .int f_tbs :: .int f_tbsEnd :: .int f_signature :: .int f_signatureEnd :: .int f_length :: .int f_usage :: .int f_dns :: .int f_dirs :: .int f_extensions :: .int f_matters :: .int f_ownKey :: .int f_ownKeyEnd :: .int f_issuerKey :: .int f_issuerKeyEnd :: .int f_trees :: .int f_entries :: .int f_oids :: .int f_nameAt :: .int f_nameEnd :: .int f_ca :: .int f_basic :: .int f_trusted :: .ref r_dnsAt :: .ref r_dnsEnd :: .ref r_dirAt :: .ref r_dirEnd :: .ref r_treeAt :: .ref r_treeEnd :: .ref r_treeKind :: .ref r_entryAt :: .ref r_entryEnd :: .ref r_oidAt :: .ref r_oidEnd :: [])))] H212 := hP
              have hD : va_D A [(d0, .inl (cI, 2048, .inl (tI u))), (q, .inr (13, (.ref d0 :: .int (nI n) :: .int (nI pp) :: .int (nI pp) :: .int f_from :: .int f_to :: .int (nI pp) :: .long f_time0 :: .long f_time1 :: .long f_latest :: .int f_serial :: .int f_serialEnd :: .int f_issuer :: .int f_issuerEnd :: .int f_subject :: .int f_subjectEnd :: .int f_subjectParts :: .int f_parts :: .int f_modulus :: .int f_modulusEnd :: .int f_exponent :: .int f_tbs :: .int f_tbsEnd :: .int f_signature :: .int f_signatureEnd :: .int f_length :: .int f_usage :: .int f_dns :: .int f_dirs :: .int f_extensions :: .int f_matters :: .int f_ownKey :: .int f_ownKeyEnd :: .int f_issuerKey :: .int f_issuerKeyEnd :: .int f_trees :: .int f_entries :: .int f_oids :: .int f_nameAt :: .int f_nameEnd :: .int f_ca :: .int f_basic :: .int f_trusted :: .ref r_dnsAt :: .ref r_dnsEnd :: .ref r_dirAt :: .ref r_dirEnd :: .ref r_treeAt :: .ref r_treeEnd :: .ref r_treeKind :: .ref r_entryAt :: .ref r_entryEnd :: .ref r_oidAt :: .ref r_oidEnd :: [])))] := hD
              subst hw212
              have e9 : tx_element u pp tg en = .inl pp := by
                exact ((if_pos p5).trans ((if_neg hc22).trans ((if_neg p78).trans ((if_pos p127).trans ((if_neg hc130).trans ((if_neg p204).trans rfl))))))
              exact W.zret (v := 0) hx hb hr (bz_n (bz_f not_false)) (fun t ht hW => ⟨⟨_, (nI pp, f_from, f_to, nI pp), rfl, Or.inr ⟨_, e9, rfl, rfl⟩, by rw [ht]; exact hP.sub [1, 0] rfl, va_K.moved hW.alike hK, hD.sub [1, 0] (by decide) rfl⟩, hS.F ht⟩) hS.2.2 d_Text_element_215
          refine w_cutJ (J := (en ≤ ((pp + 2) + 1)) ∨ ((u (pp + 2)) = 0)) (nL := 5) (lv := [(4, .int (nI (pp + 2))), (3, .int (nI (u (pp + 1)))), (0, .ref q), (1, .int (nI tg)), (2, .int (nI en))]) (pcJ := 148) (st := []) (fun ls hc130 hl => ?_) (fun k148_130 => ?_)
          · skip
            refine lv_aload_n hx hb d_Text_element_148 rfl (lv_at hl 2 rfl) ?_
            refine lv_aload_n hx hb d_Text_element_149 rfl (lv_at hl 2 rfl) ?_
            refine va_get (v := .int (nI pp)) hx hb htb i_Text hown hK hP 0 rfl rfl 2 (by decide) (htb _ q6_182) (fun _ h9 => h9) rfl d_Text_element_150 ?_
            have hFc := va_free (wc := [(q, .inr (13, (.ref d0 :: .int (nI n) :: .int (nI pp) :: .int (-1) :: .int f_from :: .int f_to :: .int (nI pp) :: .long f_time0 :: .long f_time1 :: .long f_latest :: .int f_serial :: .int f_serialEnd :: .int f_issuer :: .int f_issuerEnd :: .int f_subject :: .int f_subjectEnd :: .int f_subjectParts :: .int f_parts :: .int f_modulus :: .int f_modulusEnd :: .int f_exponent :: .int f_tbs :: .int f_tbsEnd :: .int f_signature :: .int f_signatureEnd :: .int f_length :: .int f_usage :: .int f_dns :: .int f_dirs :: .int f_extensions :: .int f_matters :: .int f_ownKey :: .int f_ownKeyEnd :: .int f_issuerKey :: .int f_issuerKeyEnd :: .int f_trees :: .int f_entries :: .int f_oids :: .int f_nameAt :: .int f_nameEnd :: .int f_ca :: .int f_basic :: .int f_trusted :: .ref r_dnsAt :: .ref r_dnsEnd :: .ref r_dirAt :: .ref r_dirEnd :: .ref r_treeAt :: .ref r_treeEnd :: .ref r_treeKind :: .ref r_entryAt :: .ref r_entryEnd :: .ref r_oidAt :: .ref r_oidEnd :: [])))]) hD hS hA [0] rfl
            refine va_calli (mu_runV (As := [.int (nI pp)]) (rest := []) ⟨hx, hb, hml, hown, hts⟩ tbin (t_bad l dC dI sb q d0 r_dnsAt r_dnsEnd r_dirAt r_dirEnd r_treeAt r_treeEnd r_treeKind r_entryAt r_entryEnd r_oidAt r_oidEnd (nI n) (nI pp) f_from f_to (nI pp) f_serial f_serialEnd f_issuer f_issuerEnd f_subject f_subjectEnd f_subjectParts f_parts f_modulus f_modulusEnd f_exponent f_tbs f_tbsEnd f_signature f_signatureEnd f_length f_usage f_dns f_dirs f_extensions f_matters f_ownKey f_ownKeyEnd f_issuerKey f_issuerKeyEnd f_trees f_entries f_oids f_nameAt f_nameEnd f_ca f_basic f_trusted f_time0 f_time1 f_latest cI u pp H19.size) q8_99 q8_100 q8_101 q1_10 q8_102 (n := 1) (by decide +kernel) rfl ⟨rfl, rfl⟩ ⟨Nat.le_of_ble_eq_true rfl, Nat.le_of_ble_eq_true rfl⟩ ⟨Nat.le_of_ble_eq_true rfl, Nat.le_of_ble_eq_true rfl⟩ hN (hT0.keep hS hAs) hAs (Nat.le_trans hB0 hS.1) hK hP hD [0] (by decide) rfl [] rfl 0 13 rfl rfl rfl hl.1 rfl (Nat.le_of_ble_eq_true rfl) d_Text_element_153) hS (fun q _ h => hFc q h) hFc (fun r153 u153 tS H153 locs ht hvm hw153 hB hz1 hk1 hS => ?_)
            skip
            obtain ⟨hP1, hK1, hD1⟩ := hB
            rw [ht] at hP1
            obtain ⟨hP, hD⟩ := va_join (wr := [(d0, .inl (cI, 2048, .inl (tI u)))]) (w1 := [(q, .inr (13, (.ref d0 :: .int (nI n) :: .int (nI pp) :: .int (nI pp) :: .int f_from :: .int f_to :: .int (nI pp) :: .long f_time0 :: .long f_time1 :: .long f_latest :: .int f_serial :: .int f_serialEnd :: .int f_issuer :: .int f_issuerEnd :: .int f_subject :: .int f_subjectEnd :: .int f_subjectParts :: .int f_parts :: .int f_modulus :: .int f_modulusEnd :: .int f_exponent :: .int f_tbs :: .int f_tbsEnd :: .int f_signature :: .int f_signatureEnd :: .int f_length :: .int f_usage :: .int f_dns :: .int f_dirs :: .int f_extensions :: .int f_matters :: .int f_ownKey :: .int f_ownKeyEnd :: .int f_issuerKey :: .int f_issuerKeyEnd :: .int f_trees :: .int f_entries :: .int f_oids :: .int f_nameAt :: .int f_nameEnd :: .int f_ca :: .int f_basic :: .int f_trusted :: .ref r_dnsAt :: .ref r_dnsEnd :: .ref r_dirAt :: .ref r_dirEnd :: .ref r_treeAt :: .ref r_treeEnd :: .ref r_treeKind :: .ref r_entryAt :: .ref r_entryEnd :: .ref r_oidAt :: .ref r_oidEnd :: [])))]) hP hD [0] [1] rfl rfl (by decide) (by decide) hk1 hFc hP1 hD1
            have hP : va_P (dC, dI) classes [(d0, .inl (cI, 2048, .inl (tI u))), (q, .inr (13, (.ref d0 :: .int (nI n) :: .int (nI pp) :: .int (nI pp) :: .int f_from :: .int f_to :: .int (nI pp) :: .long f_time0 :: .long f_time1 :: .long f_latest :: .int f_serial :: .int f_serialEnd :: .int f_issuer :: .int f_issuerEnd :: .int f_subject :: .int f_subjectEnd :: .int f_subjectParts :: .int f_parts :: .int f_modulus :: .int f_modulusEnd :: .int f_exponent :: .int f_tbs :: .int f_tbsEnd :: .int f_signature :: .int f_signatureEnd :: .int f_length :: .int f_usage :: .int f_dns :: .int f_dirs :: .int f_extensions :: .int f_matters :: .int f_ownKey :: .int f_ownKeyEnd :: .int f_issuerKey :: .int f_issuerKeyEnd :: .int f_trees :: .int f_entries :: .int f_oids :: .int f_nameAt :: .int f_nameEnd :: .int f_ca :: .int f_basic :: .int f_trusted :: .ref r_dnsAt :: .ref r_dnsEnd :: .ref r_dirAt :: .ref r_dirEnd :: .ref r_treeAt :: .ref r_treeEnd :: .ref r_treeKind :: .ref r_entryAt :: .ref r_entryEnd :: .ref r_oidAt :: .ref r_oidEnd :: [])))] H153 := hP
            have hD : va_D A [(d0, .inl (cI, 2048, .inl (tI u))), (q, .inr (13, (.ref d0 :: .int (nI n) :: .int (nI pp) :: .int (nI pp) :: .int f_from :: .int f_to :: .int (nI pp) :: .long f_time0 :: .long f_time1 :: .long f_latest :: .int f_serial :: .int f_serialEnd :: .int f_issuer :: .int f_issuerEnd :: .int f_subject :: .int f_subjectEnd :: .int f_subjectParts :: .int f_parts :: .int f_modulus :: .int f_modulusEnd :: .int f_exponent :: .int f_tbs :: .int f_tbsEnd :: .int f_signature :: .int f_signatureEnd :: .int f_length :: .int f_usage :: .int f_dns :: .int f_dirs :: .int f_extensions :: .int f_matters :: .int f_ownKey :: .int f_ownKeyEnd :: .int f_issuerKey :: .int f_issuerKeyEnd :: .int f_trees :: .int f_entries :: .int f_oids :: .int f_nameAt :: .int f_nameEnd :: .int f_ca :: .int f_basic :: .int f_trusted :: .ref r_dnsAt :: .ref r_dnsEnd :: .ref r_dirAt :: .ref r_dirEnd :: .ref r_treeAt :: .ref r_treeEnd :: .ref r_treeKind :: .ref r_entryAt :: .ref r_entryEnd :: .ref r_oidAt :: .ref r_oidEnd :: [])))] := hD
            subst hw153
            have e9 : tx_element u pp tg en = .inl pp := by
              exact ((if_pos p5).trans ((if_neg hc22).trans ((if_neg p78).trans ((if_pos p127).trans ((if_pos hc130).trans rfl)))))
            exact W.zret (v := 0) hx hb hr (bz_n (bz_f not_false)) (fun t ht hW => ⟨⟨_, (nI pp, f_from, f_to, nI pp), rfl, Or.inr ⟨_, e9, rfl, rfl⟩, by rw [ht]; exact hP.sub [1, 0] rfl, va_K.moved hW.alike hK, hD.sub [1, 0] (by decide) rfl⟩, hS.F ht⟩) hS.2.2 d_Text_element_156
          refine lv_iload hx hb d_Text_element_130 (lv_at hl 0 rfl) ?_
          refine lv_iconst (v := 1) hx hb d_Text_element_132 (by decide) ?_
          refine lv_iadd hx hb d_Text_element_133 ?_
          rw [show ((nI (pp + 2)) + 1 : Int32) = nI ((pp + 2) + 1) from nI_add (pp + 2) 1]
          refine lv_iload_n hx hb d_Text_element_134 rfl (lv_at hl 4 rfl) ?_
          refine lv_icmp_ge (tgt := 148) hx hb d_Text_element_135 (by decide) (fun c135 => ?_) (fun c135 => ?_)
          · have p135 : en ≤ ((pp + 2) + 1) := ((nI_leI (a := en) (b := ((pp + 2) + 1)) (by omega) (by omega)).mp c135)
            exact k148_130 ls (Or.inl p135) (lv_sub hl [0, 1, 2, 3, 4] rfl)
          · have p135 : ¬ (en ≤ ((pp + 2) + 1)) := (fun q9 => c135 ((nI_leI (a := en) (b := ((pp + 2) + 1)) (by omega) (by omega)).mpr q9))
            refine lv_aload_n hx hb d_Text_element_138 rfl (lv_at hl 2 rfl) ?_
            refine va_get (v := .ref d0) hx hb htb i_Text hown hK hP 0 rfl rfl 0 (by decide) (htb _ q6_178) (fun _ h9 => h9) rfl d_Text_element_139 ?_
            refine lv_iload hx hb d_Text_element_142 (lv_at hl 0 rfl) ?_
            have h144 : vp_in (nI (pp + 2)) 2048 := vp_in_nI (by omega) (by omega)
            refine va_iald hx hb hK hP 1 0 rfl rfl h144 d_Text_element_144 ?_
            rw [show tI u (nI (pp + 2)).toNatClampNeg = nI (u (pp + 2)) from tI_at (by omega)]
            have hu144 := hu (pp + 2)
            refine lv_if_ne (tgt := 157) hx hb d_Text_element_145 (by decide) (fun c145 => ?_) (fun c145 => ?_)
            · have p145 : ¬ ((u (pp + 2)) = 0) := (fun q9 => c145 ((nI_eq (a := (u (pp + 2))) (b := 0) (by omega) (by omega)).mpr q9))
              exact k157_130 ls (fun z => z.elim p135 p145) (lv_sub hl [0, 1, 2, 3, 4] rfl)
            · have p145 : (u (pp + 2)) = 0 := ((nI_eq (a := (u (pp + 2))) (b := 0) (by omega) (by omega)).mp c145)
              exact k148_130 ls (Or.inr p145) (lv_sub hl [0, 1, 2, 3, 4] rfl)
      · have p78 : (u (pp + 1)) = 129 := ((nI_eq (a := (u (pp + 1))) (b := 129) (by omega) (by omega)).mp c78)
        refine w_cutJ (J := ¬ ((en ≤ (pp + 2)) ∨ (¬ (128 ≤ (u (pp + 2)))))) (nL := 5) (lv := [(4, .int (nI (pp + 2))), (3, .int (nI (u (pp + 1)))), (0, .ref q), (1, .int (nI tg)), (2, .int (nI en))]) (pcJ := 109) (st := []) (fun ls hc81 hl => ?_) (fun k109_81 => ?_)
        · skip
          refine lv_aload_n hx hb d_Text_element_109 rfl (lv_at hl 2 rfl) ?_
          refine va_get (v := .ref d0) hx hb htb i_Text hown hK hP 0 rfl rfl 0 (by decide) (htb _ q6_178) (fun _ h9 => h9) rfl d_Text_element_110 ?_
          refine lv_iload hx hb d_Text_element_113 (lv_at hl 0 rfl) ?_
          refine lv_iinc (v := nI (pp + 2 + 1)) (lv' := [(4, .int (nI (pp + 2 + 1))), (3, .int (nI (u (pp + 1)))), (0, .ref q), (1, .int (nI tg)), (2, .int (nI en))]) hx hb d_Text_element_115 hl (k := 0) rfl (nI_1 _) (by decide) rfl (fun ls hl => ?_)
          have h118 : vp_in (nI (pp + 2)) 2048 := vp_in_nI (by omega) (by omega)
          refine va_iald hx hb hK hP 1 0 rfl rfl h118 d_Text_element_118 ?_
          rw [show tI u (nI (pp + 2)).toNatClampNeg = nI (u (pp + 2)) from tI_at (by omega)]
          have hu118 := hu (pp + 2)
          refine lv_istore_n (lv' := [(3, .int (nI (u (pp + 2)))), (4, .int (nI (pp + 2 + 1))), (0, .ref q), (1, .int (nI tg)), (2, .int (nI en))]) hx hb d_Text_element_119 rfl hl (by decide) rfl (fun ls hl => ?_)
          refine lv_goto (tgt := 199) hx hb d_Text_element_120 (by decide) ?_
          refine lv_iload hx hb d_Text_element_199 (lv_at hl 1 rfl) ?_
          refine lv_iload_n hx hb d_Text_element_201 rfl (lv_at hl 0 rfl) ?_
          refine lv_iadd hx hb d_Text_element_202 ?_
          rw [show ((nI (pp + 2 + 1)) + (nI (u (pp + 2))) : Int32) = nI ((pp + 2 + 1) + (u (pp + 2))) from nI_add (pp + 2 + 1) (u (pp + 2))]
          refine lv_iload_n hx hb d_Text_element_203 rfl (lv_at hl 4 rfl) ?_
          refine lv_icmp_le (tgt := 216) hx hb d_Text_element_204 (by decide) (fun c204 => ?_) (fun c204 => ?_)
          · have p204 : ((pp + 2 + 1) + (u (pp + 2))) ≤ en := ((nI_leI (a := ((pp + 2 + 1) + (u (pp + 2)))) (b := en) (by omega) (by omega)).mp c204)
            refine lv_aload_n hx hb d_Text_element_216 rfl (lv_at hl 2 rfl) ?_
            refine lv_iload hx hb d_Text_element_217 (lv_at hl 1 rfl) ?_
            refine va_put (v := .int (nI (pp + 2 + 1))) (ty := .int) hx hb htb i_Text t_Text t_Text_ok n_Text hown hK hP hD hS 0 rfl rfl 4 (by decide) (htb _ q6_185) (fun _ h9 => h9) rfl (by decide +kernel) rfl rfl (Nat.le_of_ble_eq_true rfl) d_Text_element_219 (fun H219 locs hP hD hS => ?_)
            have hP : va_P (dC, dI) classes [(q, .inr (13, (.ref d0 :: .int (nI n) :: .int (nI pp) :: .int (-1) :: .int (nI (pp + 2 + 1)) :: .int f_to :: .int (nI pp) :: .long f_time0 :: .long f_time1 :: .long f_latest :: .int f_serial :: .int f_serialEnd :: .int f_issuer :: .int f_issuerEnd :: .int f_subject :: .int f_subjectEnd :: .int f_subjectParts :: .int f_parts :: .int f_modulus :: .int f_modulusEnd :: .int f_exponent :: .int f_tbs :: .int f_tbsEnd :: .int f_signature :: .int f_signatureEnd :: .int f_length :: .int f_usage :: .int f_dns :: .int f_dirs :: .int f_extensions :: .int f_matters :: .int f_ownKey :: .int f_ownKeyEnd :: .int f_issuerKey :: .int f_issuerKeyEnd :: .int f_trees :: .int f_entries :: .int f_oids :: .int f_nameAt :: .int f_nameEnd :: .int f_ca :: .int f_basic :: .int f_trusted :: .ref r_dnsAt :: .ref r_dnsEnd :: .ref r_dirAt :: .ref r_dirEnd :: .ref r_treeAt :: .ref r_treeEnd :: .ref r_treeKind :: .ref r_entryAt :: .ref r_entryEnd :: .ref r_oidAt :: .ref r_oidEnd :: []))), (d0, .inl (cI, 2048, .inl (tI u)))] H219 := hP
            have hD : va_D A [(q, .inr (13, (.ref d0 :: .int (nI n) :: .int (nI pp) :: .int (-1) :: .int (nI (pp + 2 + 1)) :: .int f_to :: .int (nI pp) :: .long f_time0 :: .long f_time1 :: .long f_latest :: .int f_serial :: .int f_serialEnd :: .int f_issuer :: .int f_issuerEnd :: .int f_subject :: .int f_subjectEnd :: .int f_subjectParts :: .int f_parts :: .int f_modulus :: .int f_modulusEnd :: .int f_exponent :: .int f_tbs :: .int f_tbsEnd :: .int f_signature :: .int f_signatureEnd :: .int f_length :: .int f_usage :: .int f_dns :: .int f_dirs :: .int f_extensions :: .int f_matters :: .int f_ownKey :: .int f_ownKeyEnd :: .int f_issuerKey :: .int f_issuerKeyEnd :: .int f_trees :: .int f_entries :: .int f_oids :: .int f_nameAt :: .int f_nameEnd :: .int f_ca :: .int f_basic :: .int f_trusted :: .ref r_dnsAt :: .ref r_dnsEnd :: .ref r_dirAt :: .ref r_dirEnd :: .ref r_treeAt :: .ref r_treeEnd :: .ref r_treeKind :: .ref r_entryAt :: .ref r_entryEnd :: .ref r_oidAt :: .ref r_oidEnd :: []))), (d0, .inl (cI, 2048, .inl (tI u)))] := hD
            refine lv_aload_n hx hb d_Text_element_222 rfl (lv_at hl 2 rfl) ?_
            refine lv_iload hx hb d_Text_element_223 (lv_at hl 1 rfl) ?_
            refine lv_iload_n hx hb d_Text_element_225 rfl (lv_at hl 0 rfl) ?_
            refine lv_iadd hx hb d_Text_element_226 ?_
            rw [show ((nI (pp + 2 + 1)) + (nI (u (pp + 2))) : Int32) = nI ((pp + 2 + 1) + (u (pp + 2))) from nI_add (pp + 2 + 1) (u (pp + 2))]
            refine va_put (v := .int (nI ((pp + 2 + 1) + (u (pp + 2))))) (ty := .int) hx hb htb i_Text t_Text t_Text_ok n_Text hown hK hP hD hS 0 rfl rfl 5 (by decide) (htb _ q6_186) (fun _ h9 => h9) rfl (by decide +kernel) rfl rfl (Nat.le_of_ble_eq_true rfl) d_Text_element_227 (fun H227 locs hP hD hS => ?_)
            have hP : va_P (dC, dI) classes [(q, .inr (13, (.ref d0 :: .int (nI n) :: .int (nI pp) :: .int (-1) :: .int (nI (pp + 2 + 1)) :: .int (nI ((pp + 2 + 1) + (u (pp + 2)))) :: .int (nI pp) :: .long f_time0 :: .long f_time1 :: .long f_latest :: .int f_serial :: .int f_serialEnd :: .int f_issuer :: .int f_issuerEnd :: .int f_subject :: .int f_subjectEnd :: .int f_subjectParts :: .int f_parts :: .int f_modulus :: .int f_modulusEnd :: .int f_exponent :: .int f_tbs :: .int f_tbsEnd :: .int f_signature :: .int f_signatureEnd :: .int f_length :: .int f_usage :: .int f_dns :: .int f_dirs :: .int f_extensions :: .int f_matters :: .int f_ownKey :: .int f_ownKeyEnd :: .int f_issuerKey :: .int f_issuerKeyEnd :: .int f_trees :: .int f_entries :: .int f_oids :: .int f_nameAt :: .int f_nameEnd :: .int f_ca :: .int f_basic :: .int f_trusted :: .ref r_dnsAt :: .ref r_dnsEnd :: .ref r_dirAt :: .ref r_dirEnd :: .ref r_treeAt :: .ref r_treeEnd :: .ref r_treeKind :: .ref r_entryAt :: .ref r_entryEnd :: .ref r_oidAt :: .ref r_oidEnd :: []))), (d0, .inl (cI, 2048, .inl (tI u)))] H227 := hP
            have hD : va_D A [(q, .inr (13, (.ref d0 :: .int (nI n) :: .int (nI pp) :: .int (-1) :: .int (nI (pp + 2 + 1)) :: .int (nI ((pp + 2 + 1) + (u (pp + 2)))) :: .int (nI pp) :: .long f_time0 :: .long f_time1 :: .long f_latest :: .int f_serial :: .int f_serialEnd :: .int f_issuer :: .int f_issuerEnd :: .int f_subject :: .int f_subjectEnd :: .int f_subjectParts :: .int f_parts :: .int f_modulus :: .int f_modulusEnd :: .int f_exponent :: .int f_tbs :: .int f_tbsEnd :: .int f_signature :: .int f_signatureEnd :: .int f_length :: .int f_usage :: .int f_dns :: .int f_dirs :: .int f_extensions :: .int f_matters :: .int f_ownKey :: .int f_ownKeyEnd :: .int f_issuerKey :: .int f_issuerKeyEnd :: .int f_trees :: .int f_entries :: .int f_oids :: .int f_nameAt :: .int f_nameEnd :: .int f_ca :: .int f_basic :: .int f_trusted :: .ref r_dnsAt :: .ref r_dnsEnd :: .ref r_dirAt :: .ref r_dirEnd :: .ref r_treeAt :: .ref r_treeEnd :: .ref r_treeKind :: .ref r_entryAt :: .ref r_entryEnd :: .ref r_oidAt :: .ref r_oidEnd :: []))), (d0, .inl (cI, 2048, .inl (tI u)))] := hD
            refine lv_iconst (v := 1) hx hb d_Text_element_230 (by decide) ?_
            have e9 : tx_element u pp tg en = .inr ((pp + 2 + 1), ((pp + 2 + 1) + (u (pp + 2)))) := by
              exact ((if_pos p5).trans ((if_neg hc22).trans ((if_pos p78).trans ((if_neg hc81).trans ((if_pos p204).trans rfl)))))
            exact W.zret (v := 1) hx hb hr (bz_n (bz_t trivial)) (fun t ht hW => ⟨⟨_, (-1, nI (pp + 2 + 1), nI ((pp + 2 + 1) + (u (pp + 2))), nI pp), rfl, Or.inl ⟨((pp + 2 + 1), ((pp + 2 + 1) + (u (pp + 2)))), e9, rfl, rfl, rfl, rfl, rfl, by show pp + 2 ≤ (pp + 2 + 1); omega, by show (pp + 2 + 1) ≤ ((pp + 2 + 1) + (u (pp + 2))); omega, by show ((pp + 2 + 1) + (u (pp + 2))) ≤ en; omega⟩, by rw [ht]; exact hP, va_K.moved hW.alike hK, hD⟩, hS.F ht⟩) hS.2.2 d_Text_element_231
          · have p204 : ¬ (((pp + 2 + 1) + (u (pp + 2))) ≤ en) := (fun q9 => c204 ((nI_leI (a := ((pp + 2 + 1) + (u (pp + 2)))) (b := en) (by omega) (by omega)).mpr q9))
            refine lv_aload_n hx hb d_Text_element_207 rfl (lv_at hl 2 rfl) ?_
            refine lv_aload_n hx hb d_Text_element_208 rfl (lv_at hl 2 rfl) ?_
            refine va_get (v := .int (nI pp)) hx hb htb i_Text hown hK hP 0 rfl rfl 2 (by decide) (htb _ q6_182) (fun _ h9 => h9) rfl d_Text_element_209 ?_
            have hFc := va_free (wc := [(q, .inr (13, (.ref d0 :: .int (nI n) :: .int (nI pp) :: .int (-1) :: .int f_from :: .int f_to :: .int (nI pp) :: .long f_time0 :: .long f_time1 :: .long f_latest :: .int f_serial :: .int f_serialEnd :: .int f_issuer :: .int f_issuerEnd :: .int f_subject :: .int f_subjectEnd :: .int f_subjectParts :: .int f_parts :: .int f_modulus :: .int f_modulusEnd :: .int f_exponent :: .int f_tbs :: .int f_tbsEnd :: .int f_signature :: .int f_signatureEnd :: .int f_length :: .int f_usage :: .int f_dns :: .int f_dirs :: .int f_extensions :: .int f_matters :: .int f_ownKey :: .int f_ownKeyEnd :: .int f_issuerKey :: .int f_issuerKeyEnd :: .int f_trees :: .int f_entries :: .int f_oids :: .int f_nameAt :: .int f_nameEnd :: .int f_ca :: .int f_basic :: .int f_trusted :: .ref r_dnsAt :: .ref r_dnsEnd :: .ref r_dirAt :: .ref r_dirEnd :: .ref r_treeAt :: .ref r_treeEnd :: .ref r_treeKind :: .ref r_entryAt :: .ref r_entryEnd :: .ref r_oidAt :: .ref r_oidEnd :: [])))]) hD hS hA [0] rfl
            refine va_calli (mu_runV (As := [.int (nI pp)]) (rest := []) ⟨hx, hb, hml, hown, hts⟩ tbin (t_bad l dC dI sb q d0 r_dnsAt r_dnsEnd r_dirAt r_dirEnd r_treeAt r_treeEnd r_treeKind r_entryAt r_entryEnd r_oidAt r_oidEnd (nI n) (nI pp) f_from f_to (nI pp) f_serial f_serialEnd f_issuer f_issuerEnd f_subject f_subjectEnd f_subjectParts f_parts f_modulus f_modulusEnd f_exponent f_tbs f_tbsEnd f_signature f_signatureEnd f_length f_usage f_dns f_dirs f_extensions f_matters f_ownKey f_ownKeyEnd f_issuerKey f_issuerKeyEnd f_trees f_entries f_oids f_nameAt f_nameEnd f_ca f_basic f_trusted f_time0 f_time1 f_latest cI u pp H19.size) q8_99 q8_100 q8_101 q1_10 q8_102 (n := 1) (by decide +kernel) rfl ⟨rfl, rfl⟩ ⟨Nat.le_of_ble_eq_true rfl, Nat.le_of_ble_eq_true rfl⟩ ⟨Nat.le_of_ble_eq_true rfl, Nat.le_of_ble_eq_true rfl⟩ hN (hT0.keep hS hAs) hAs (Nat.le_trans hB0 hS.1) hK hP hD [0] (by decide) rfl [] rfl 0 13 rfl rfl rfl hl.1 rfl (Nat.le_of_ble_eq_true rfl) d_Text_element_212) hS (fun q _ h => hFc q h) hFc (fun r212 u212 tS H212 locs ht hvm hw212 hB hz1 hk1 hS => ?_)
            skip
            obtain ⟨hP1, hK1, hD1⟩ := hB
            rw [ht] at hP1
            obtain ⟨hP, hD⟩ := va_join (wr := [(d0, .inl (cI, 2048, .inl (tI u)))]) (w1 := [(q, .inr (13, (.ref d0 :: .int (nI n) :: .int (nI pp) :: .int (nI pp) :: .int f_from :: .int f_to :: .int (nI pp) :: .long f_time0 :: .long f_time1 :: .long f_latest :: .int f_serial :: .int f_serialEnd :: .int f_issuer :: .int f_issuerEnd :: .int f_subject :: .int f_subjectEnd :: .int f_subjectParts :: .int f_parts :: .int f_modulus :: .int f_modulusEnd :: .int f_exponent :: .int f_tbs :: .int f_tbsEnd :: .int f_signature :: .int f_signatureEnd :: .int f_length :: .int f_usage :: .int f_dns :: .int f_dirs :: .int f_extensions :: .int f_matters :: .int f_ownKey :: .int f_ownKeyEnd :: .int f_issuerKey :: .int f_issuerKeyEnd :: .int f_trees :: .int f_entries :: .int f_oids :: .int f_nameAt :: .int f_nameEnd :: .int f_ca :: .int f_basic :: .int f_trusted :: .ref r_dnsAt :: .ref r_dnsEnd :: .ref r_dirAt :: .ref r_dirEnd :: .ref r_treeAt :: .ref r_treeEnd :: .ref r_treeKind :: .ref r_entryAt :: .ref r_entryEnd :: .ref r_oidAt :: .ref r_oidEnd :: [])))]) hP hD [0] [1] rfl rfl (by decide) (by decide) hk1 hFc hP1 hD1
            have hP : va_P (dC, dI) classes [(d0, .inl (cI, 2048, .inl (tI u))), (q, .inr (13, (.ref d0 :: .int (nI n) :: .int (nI pp) :: .int (nI pp) :: .int f_from :: .int f_to :: .int (nI pp) :: .long f_time0 :: .long f_time1 :: .long f_latest :: .int f_serial :: .int f_serialEnd :: .int f_issuer :: .int f_issuerEnd :: .int f_subject :: .int f_subjectEnd :: .int f_subjectParts :: .int f_parts :: .int f_modulus :: .int f_modulusEnd :: .int f_exponent :: .int f_tbs :: .int f_tbsEnd :: .int f_signature :: .int f_signatureEnd :: .int f_length :: .int f_usage :: .int f_dns :: .int f_dirs :: .int f_extensions :: .int f_matters :: .int f_ownKey :: .int f_ownKeyEnd :: .int f_issuerKey :: .int f_issuerKeyEnd :: .int f_trees :: .int f_entries :: .int f_oids :: .int f_nameAt :: .int f_nameEnd :: .int f_ca :: .int f_basic :: .int f_trusted :: .ref r_dnsAt :: .ref r_dnsEnd :: .ref r_dirAt :: .ref r_dirEnd :: .ref r_treeAt :: .ref r_treeEnd :: .ref r_treeKind :: .ref r_entryAt :: .ref r_entryEnd :: .ref r_oidAt :: .ref r_oidEnd :: [])))] H212 := hP
            have hD : va_D A [(d0, .inl (cI, 2048, .inl (tI u))), (q, .inr (13, (.ref d0 :: .int (nI n) :: .int (nI pp) :: .int (nI pp) :: .int f_from :: .int f_to :: .int (nI pp) :: .long f_time0 :: .long f_time1 :: .long f_latest :: .int f_serial :: .int f_serialEnd :: .int f_issuer :: .int f_issuerEnd :: .int f_subject :: .int f_subjectEnd :: .int f_subjectParts :: .int f_parts :: .int f_modulus :: .int f_modulusEnd :: .int f_exponent :: .int f_tbs :: .int f_tbsEnd :: .int f_signature :: .int f_signatureEnd :: .int f_length :: .int f_usage :: .int f_dns :: .int f_dirs :: .int f_extensions :: .int f_matters :: .int f_ownKey :: .int f_ownKeyEnd :: .int f_issuerKey :: .int f_issuerKeyEnd :: .int f_trees :: .int f_entries :: .int f_oids :: .int f_nameAt :: .int f_nameEnd :: .int f_ca :: .int f_basic :: .int f_trusted :: .ref r_dnsAt :: .ref r_dnsEnd :: .ref r_dirAt :: .ref r_dirEnd :: .ref r_treeAt :: .ref r_treeEnd :: .ref r_treeKind :: .ref r_entryAt :: .ref r_entryEnd :: .ref r_oidAt :: .ref r_oidEnd :: [])))] := hD
            subst hw212
            have e9 : tx_element u pp tg en = .inl pp := by
              exact ((if_pos p5).trans ((if_neg hc22).trans ((if_pos p78).trans ((if_neg hc81).trans ((if_neg p204).trans rfl)))))
            exact W.zret (v := 0) hx hb hr (bz_n (bz_f not_false)) (fun t ht hW => ⟨⟨_, (nI pp, f_from, f_to, nI pp), rfl, Or.inr ⟨_, e9, rfl, rfl⟩, by rw [ht]; exact hP.sub [1, 0] rfl, va_K.moved hW.alike hK, hD.sub [1, 0] (by decide) rfl⟩, hS.F ht⟩) hS.2.2 d_Text_element_215
        refine w_cutJ (J := (en ≤ (pp + 2)) ∨ (¬ (128 ≤ (u (pp + 2))))) (nL := 5) (lv := [(4, .int (nI (pp + 2))), (3, .int (nI (u (pp + 1)))), (0, .ref q), (1, .int (nI tg)), (2, .int (nI en))]) (pcJ := 100) (st := []) (fun ls hc81 hl => ?_) (fun k100_81 => ?_)
        · skip
          refine lv_aload_n hx hb d_Text_element_100 rfl (lv_at hl 2 rfl) ?_
          refine lv_aload_n hx hb d_Text_element_101 rfl (lv_at hl 2 rfl) ?_
          refine va_get (v := .int (nI pp)) hx hb htb i_Text hown hK hP 0 rfl rfl 2 (by decide) (htb _ q6_182) (fun _ h9 => h9) rfl d_Text_element_102 ?_
          have hFc := va_free (wc := [(q, .inr (13, (.ref d0 :: .int (nI n) :: .int (nI pp) :: .int (-1) :: .int f_from :: .int f_to :: .int (nI pp) :: .long f_time0 :: .long f_time1 :: .long f_latest :: .int f_serial :: .int f_serialEnd :: .int f_issuer :: .int f_issuerEnd :: .int f_subject :: .int f_subjectEnd :: .int f_subjectParts :: .int f_parts :: .int f_modulus :: .int f_modulusEnd :: .int f_exponent :: .int f_tbs :: .int f_tbsEnd :: .int f_signature :: .int f_signatureEnd :: .int f_length :: .int f_usage :: .int f_dns :: .int f_dirs :: .int f_extensions :: .int f_matters :: .int f_ownKey :: .int f_ownKeyEnd :: .int f_issuerKey :: .int f_issuerKeyEnd :: .int f_trees :: .int f_entries :: .int f_oids :: .int f_nameAt :: .int f_nameEnd :: .int f_ca :: .int f_basic :: .int f_trusted :: .ref r_dnsAt :: .ref r_dnsEnd :: .ref r_dirAt :: .ref r_dirEnd :: .ref r_treeAt :: .ref r_treeEnd :: .ref r_treeKind :: .ref r_entryAt :: .ref r_entryEnd :: .ref r_oidAt :: .ref r_oidEnd :: [])))]) hD hS hA [0] rfl
          refine va_calli (mu_runV (As := [.int (nI pp)]) (rest := []) ⟨hx, hb, hml, hown, hts⟩ tbin (t_bad l dC dI sb q d0 r_dnsAt r_dnsEnd r_dirAt r_dirEnd r_treeAt r_treeEnd r_treeKind r_entryAt r_entryEnd r_oidAt r_oidEnd (nI n) (nI pp) f_from f_to (nI pp) f_serial f_serialEnd f_issuer f_issuerEnd f_subject f_subjectEnd f_subjectParts f_parts f_modulus f_modulusEnd f_exponent f_tbs f_tbsEnd f_signature f_signatureEnd f_length f_usage f_dns f_dirs f_extensions f_matters f_ownKey f_ownKeyEnd f_issuerKey f_issuerKeyEnd f_trees f_entries f_oids f_nameAt f_nameEnd f_ca f_basic f_trusted f_time0 f_time1 f_latest cI u pp H19.size) q8_99 q8_100 q8_101 q1_10 q8_102 (n := 1) (by decide +kernel) rfl ⟨rfl, rfl⟩ ⟨Nat.le_of_ble_eq_true rfl, Nat.le_of_ble_eq_true rfl⟩ ⟨Nat.le_of_ble_eq_true rfl, Nat.le_of_ble_eq_true rfl⟩ hN (hT0.keep hS hAs) hAs (Nat.le_trans hB0 hS.1) hK hP hD [0] (by decide) rfl [] rfl 0 13 rfl rfl rfl hl.1 rfl (Nat.le_of_ble_eq_true rfl) d_Text_element_105) hS (fun q _ h => hFc q h) hFc (fun r105 u105 tS H105 locs ht hvm hw105 hB hz1 hk1 hS => ?_)
          skip
          obtain ⟨hP1, hK1, hD1⟩ := hB
          rw [ht] at hP1
          obtain ⟨hP, hD⟩ := va_join (wr := [(d0, .inl (cI, 2048, .inl (tI u)))]) (w1 := [(q, .inr (13, (.ref d0 :: .int (nI n) :: .int (nI pp) :: .int (nI pp) :: .int f_from :: .int f_to :: .int (nI pp) :: .long f_time0 :: .long f_time1 :: .long f_latest :: .int f_serial :: .int f_serialEnd :: .int f_issuer :: .int f_issuerEnd :: .int f_subject :: .int f_subjectEnd :: .int f_subjectParts :: .int f_parts :: .int f_modulus :: .int f_modulusEnd :: .int f_exponent :: .int f_tbs :: .int f_tbsEnd :: .int f_signature :: .int f_signatureEnd :: .int f_length :: .int f_usage :: .int f_dns :: .int f_dirs :: .int f_extensions :: .int f_matters :: .int f_ownKey :: .int f_ownKeyEnd :: .int f_issuerKey :: .int f_issuerKeyEnd :: .int f_trees :: .int f_entries :: .int f_oids :: .int f_nameAt :: .int f_nameEnd :: .int f_ca :: .int f_basic :: .int f_trusted :: .ref r_dnsAt :: .ref r_dnsEnd :: .ref r_dirAt :: .ref r_dirEnd :: .ref r_treeAt :: .ref r_treeEnd :: .ref r_treeKind :: .ref r_entryAt :: .ref r_entryEnd :: .ref r_oidAt :: .ref r_oidEnd :: [])))]) hP hD [0] [1] rfl rfl (by decide) (by decide) hk1 hFc hP1 hD1
          have hP : va_P (dC, dI) classes [(d0, .inl (cI, 2048, .inl (tI u))), (q, .inr (13, (.ref d0 :: .int (nI n) :: .int (nI pp) :: .int (nI pp) :: .int f_from :: .int f_to :: .int (nI pp) :: .long f_time0 :: .long f_time1 :: .long f_latest :: .int f_serial :: .int f_serialEnd :: .int f_issuer :: .int f_issuerEnd :: .int f_subject :: .int f_subjectEnd :: .int f_subjectParts :: .int f_parts :: .int f_modulus :: .int f_modulusEnd :: .int f_exponent :: .int f_tbs :: .int f_tbsEnd :: .int f_signature :: .int f_signatureEnd :: .int f_length :: .int f_usage :: .int f_dns :: .int f_dirs :: .int f_extensions :: .int f_matters :: .int f_ownKey :: .int f_ownKeyEnd :: .int f_issuerKey :: .int f_issuerKeyEnd :: .int f_trees :: .int f_entries :: .int f_oids :: .int f_nameAt :: .int f_nameEnd :: .int f_ca :: .int f_basic :: .int f_trusted :: .ref r_dnsAt :: .ref r_dnsEnd :: .ref r_dirAt :: .ref r_dirEnd :: .ref r_treeAt :: .ref r_treeEnd :: .ref r_treeKind :: .ref r_entryAt :: .ref r_entryEnd :: .ref r_oidAt :: .ref r_oidEnd :: [])))] H105 := hP
          have hD : va_D A [(d0, .inl (cI, 2048, .inl (tI u))), (q, .inr (13, (.ref d0 :: .int (nI n) :: .int (nI pp) :: .int (nI pp) :: .int f_from :: .int f_to :: .int (nI pp) :: .long f_time0 :: .long f_time1 :: .long f_latest :: .int f_serial :: .int f_serialEnd :: .int f_issuer :: .int f_issuerEnd :: .int f_subject :: .int f_subjectEnd :: .int f_subjectParts :: .int f_parts :: .int f_modulus :: .int f_modulusEnd :: .int f_exponent :: .int f_tbs :: .int f_tbsEnd :: .int f_signature :: .int f_signatureEnd :: .int f_length :: .int f_usage :: .int f_dns :: .int f_dirs :: .int f_extensions :: .int f_matters :: .int f_ownKey :: .int f_ownKeyEnd :: .int f_issuerKey :: .int f_issuerKeyEnd :: .int f_trees :: .int f_entries :: .int f_oids :: .int f_nameAt :: .int f_nameEnd :: .int f_ca :: .int f_basic :: .int f_trusted :: .ref r_dnsAt :: .ref r_dnsEnd :: .ref r_dirAt :: .ref r_dirEnd :: .ref r_treeAt :: .ref r_treeEnd :: .ref r_treeKind :: .ref r_entryAt :: .ref r_entryEnd :: .ref r_oidAt :: .ref r_oidEnd :: [])))] := hD
          subst hw105
          have e9 : tx_element u pp tg en = .inl pp := by
            exact ((if_pos p5).trans ((if_neg hc22).trans ((if_pos p78).trans ((if_pos hc81).trans rfl))))
          exact W.zret (v := 0) hx hb hr (bz_n (bz_f not_false)) (fun t ht hW => ⟨⟨_, (nI pp, f_from, f_to, nI pp), rfl, Or.inr ⟨_, e9, rfl, rfl⟩, by rw [ht]; exact hP.sub [1, 0] rfl, va_K.moved hW.alike hK, hD.sub [1, 0] (by decide) rfl⟩, hS.F ht⟩) hS.2.2 d_Text_element_108
        refine lv_iload hx hb d_Text_element_81 (lv_at hl 0 rfl) ?_
        refine lv_iload_n hx hb d_Text_element_83 rfl (lv_at hl 4 rfl) ?_
        refine lv_icmp_ge (tgt := 100) hx hb d_Text_element_84 (by decide) (fun c84 => ?_) (fun c84 => ?_)
        · have p84 : en ≤ (pp + 2) := ((nI_leI (a := en) (b := (pp + 2)) (by omega) (by omega)).mp c84)
          exact k100_81 ls (Or.inl p84) (lv_sub hl [0, 1, 2, 3, 4] rfl)
        · have p84 : ¬ (en ≤ (pp + 2)) := (fun q9 => c84 ((nI_leI (a := en) (b := (pp + 2)) (by omega) (by omega)).mpr q9))
          refine lv_aload_n hx hb d_Text_element_87 rfl (lv_at hl 2 rfl) ?_
          refine va_get (v := .ref d0) hx hb htb i_Text hown hK hP 0 rfl rfl 0 (by decide) (htb _ q6_178) (fun _ h9 => h9) rfl d_Text_element_88 ?_
          refine lv_iload hx hb d_Text_element_91 (lv_at hl 0 rfl) ?_
          have h93 : vp_in (nI (pp + 2)) 2048 := vp_in_nI (by omega) (by omega)
          refine va_iald hx hb hK hP 1 0 rfl rfl h93 d_Text_element_93 ?_
          rw [show tI u (nI (pp + 2)).toNatClampNeg = nI (u (pp + 2)) from tI_at (by omega)]
          have hu93 := hu (pp + 2)
          refine lv_sipush (v := 128) hx hb d_Text_element_94 (by decide) ?_
          refine lv_icmp_ge (tgt := 109) hx hb d_Text_element_97 (by decide) (fun c97 => ?_) (fun c97 => ?_)
          · have p97 : 128 ≤ (u (pp + 2)) := ((nI_leI (a := 128) (b := (u (pp + 2))) (by omega) (by omega)).mp c97)
            exact k109_81 ls (fun z => z.elim p84 (fun z => z p97)) (lv_sub hl [0, 1, 2, 3, 4] rfl)
          · have p97 : ¬ (128 ≤ (u (pp + 2))) := (fun q9 => c97 ((nI_leI (a := 128) (b := (u (pp + 2))) (by omega) (by omega)).mpr q9))
            exact k100_81 ls (Or.inr p97) (lv_sub hl [0, 1, 2, 3, 4] rfl)
    refine w_cutJ (J := ¬ ((u pp) = tg) ∨ (¬ ((pp + 1) < en))) (nL := 5) (lv := [(0, .ref q), (1, .int (nI tg)), (2, .int (nI en))]) (pcJ := 45) (st := []) (fun ls hc22 hl => ?_) (fun k45_22 => ?_)
    · skip
      refine lv_aload_n hx hb d_Text_element_45 rfl (lv_at hl 0 rfl) ?_
      refine lv_aload_n hx hb d_Text_element_46 rfl (lv_at hl 0 rfl) ?_
      refine va_get (v := .int (nI pp)) hx hb htb i_Text hown hK hP 0 rfl rfl 2 (by decide) (htb _ q6_182) (fun _ h9 => h9) rfl d_Text_element_47 ?_
      have hFc := va_free (wc := [(q, .inr (13, (.ref d0 :: .int (nI n) :: .int (nI pp) :: .int (-1) :: .int f_from :: .int f_to :: .int (nI pp) :: .long f_time0 :: .long f_time1 :: .long f_latest :: .int f_serial :: .int f_serialEnd :: .int f_issuer :: .int f_issuerEnd :: .int f_subject :: .int f_subjectEnd :: .int f_subjectParts :: .int f_parts :: .int f_modulus :: .int f_modulusEnd :: .int f_exponent :: .int f_tbs :: .int f_tbsEnd :: .int f_signature :: .int f_signatureEnd :: .int f_length :: .int f_usage :: .int f_dns :: .int f_dirs :: .int f_extensions :: .int f_matters :: .int f_ownKey :: .int f_ownKeyEnd :: .int f_issuerKey :: .int f_issuerKeyEnd :: .int f_trees :: .int f_entries :: .int f_oids :: .int f_nameAt :: .int f_nameEnd :: .int f_ca :: .int f_basic :: .int f_trusted :: .ref r_dnsAt :: .ref r_dnsEnd :: .ref r_dirAt :: .ref r_dirEnd :: .ref r_treeAt :: .ref r_treeEnd :: .ref r_treeKind :: .ref r_entryAt :: .ref r_entryEnd :: .ref r_oidAt :: .ref r_oidEnd :: [])))]) hD hS hA [0] rfl
      refine va_calli (mu_runV (As := [.int (nI pp)]) (rest := []) ⟨hx, hb, hml, hown, hts⟩ tbin (t_bad l dC dI sb q d0 r_dnsAt r_dnsEnd r_dirAt r_dirEnd r_treeAt r_treeEnd r_treeKind r_entryAt r_entryEnd r_oidAt r_oidEnd (nI n) (nI pp) f_from f_to (nI pp) f_serial f_serialEnd f_issuer f_issuerEnd f_subject f_subjectEnd f_subjectParts f_parts f_modulus f_modulusEnd f_exponent f_tbs f_tbsEnd f_signature f_signatureEnd f_length f_usage f_dns f_dirs f_extensions f_matters f_ownKey f_ownKeyEnd f_issuerKey f_issuerKeyEnd f_trees f_entries f_oids f_nameAt f_nameEnd f_ca f_basic f_trusted f_time0 f_time1 f_latest cI u pp H19.size) q8_99 q8_100 q8_101 q1_10 q8_102 (n := 1) (by decide +kernel) rfl ⟨rfl, rfl⟩ ⟨Nat.le_of_ble_eq_true rfl, Nat.le_of_ble_eq_true rfl⟩ ⟨Nat.le_of_ble_eq_true rfl, Nat.le_of_ble_eq_true rfl⟩ hN (hT0.keep hS hAs) hAs (Nat.le_trans hB0 hS.1) hK hP hD [0] (by decide) rfl [] rfl 0 13 rfl rfl rfl hl.1 rfl (Nat.le_of_ble_eq_true rfl) d_Text_element_50) hS (fun q _ h => hFc q h) hFc (fun r50 u50 tS H50 locs ht hvm hw50 hB hz1 hk1 hS => ?_)
      skip
      obtain ⟨hP1, hK1, hD1⟩ := hB
      rw [ht] at hP1
      obtain ⟨hP, hD⟩ := va_join (wr := [(d0, .inl (cI, 2048, .inl (tI u)))]) (w1 := [(q, .inr (13, (.ref d0 :: .int (nI n) :: .int (nI pp) :: .int (nI pp) :: .int f_from :: .int f_to :: .int (nI pp) :: .long f_time0 :: .long f_time1 :: .long f_latest :: .int f_serial :: .int f_serialEnd :: .int f_issuer :: .int f_issuerEnd :: .int f_subject :: .int f_subjectEnd :: .int f_subjectParts :: .int f_parts :: .int f_modulus :: .int f_modulusEnd :: .int f_exponent :: .int f_tbs :: .int f_tbsEnd :: .int f_signature :: .int f_signatureEnd :: .int f_length :: .int f_usage :: .int f_dns :: .int f_dirs :: .int f_extensions :: .int f_matters :: .int f_ownKey :: .int f_ownKeyEnd :: .int f_issuerKey :: .int f_issuerKeyEnd :: .int f_trees :: .int f_entries :: .int f_oids :: .int f_nameAt :: .int f_nameEnd :: .int f_ca :: .int f_basic :: .int f_trusted :: .ref r_dnsAt :: .ref r_dnsEnd :: .ref r_dirAt :: .ref r_dirEnd :: .ref r_treeAt :: .ref r_treeEnd :: .ref r_treeKind :: .ref r_entryAt :: .ref r_entryEnd :: .ref r_oidAt :: .ref r_oidEnd :: [])))]) hP hD [0] [1] rfl rfl (by decide) (by decide) hk1 hFc hP1 hD1
      have hP : va_P (dC, dI) classes [(d0, .inl (cI, 2048, .inl (tI u))), (q, .inr (13, (.ref d0 :: .int (nI n) :: .int (nI pp) :: .int (nI pp) :: .int f_from :: .int f_to :: .int (nI pp) :: .long f_time0 :: .long f_time1 :: .long f_latest :: .int f_serial :: .int f_serialEnd :: .int f_issuer :: .int f_issuerEnd :: .int f_subject :: .int f_subjectEnd :: .int f_subjectParts :: .int f_parts :: .int f_modulus :: .int f_modulusEnd :: .int f_exponent :: .int f_tbs :: .int f_tbsEnd :: .int f_signature :: .int f_signatureEnd :: .int f_length :: .int f_usage :: .int f_dns :: .int f_dirs :: .int f_extensions :: .int f_matters :: .int f_ownKey :: .int f_ownKeyEnd :: .int f_issuerKey :: .int f_issuerKeyEnd :: .int f_trees :: .int f_entries :: .int f_oids :: .int f_nameAt :: .int f_nameEnd :: .int f_ca :: .int f_basic :: .int f_trusted :: .ref r_dnsAt :: .ref r_dnsEnd :: .ref r_dirAt :: .ref r_dirEnd :: .ref r_treeAt :: .ref r_treeEnd :: .ref r_treeKind :: .ref r_entryAt :: .ref r_entryEnd :: .ref r_oidAt :: .ref r_oidEnd :: [])))] H50 := hP
      have hD : va_D A [(d0, .inl (cI, 2048, .inl (tI u))), (q, .inr (13, (.ref d0 :: .int (nI n) :: .int (nI pp) :: .int (nI pp) :: .int f_from :: .int f_to :: .int (nI pp) :: .long f_time0 :: .long f_time1 :: .long f_latest :: .int f_serial :: .int f_serialEnd :: .int f_issuer :: .int f_issuerEnd :: .int f_subject :: .int f_subjectEnd :: .int f_subjectParts :: .int f_parts :: .int f_modulus :: .int f_modulusEnd :: .int f_exponent :: .int f_tbs :: .int f_tbsEnd :: .int f_signature :: .int f_signatureEnd :: .int f_length :: .int f_usage :: .int f_dns :: .int f_dirs :: .int f_extensions :: .int f_matters :: .int f_ownKey :: .int f_ownKeyEnd :: .int f_issuerKey :: .int f_issuerKeyEnd :: .int f_trees :: .int f_entries :: .int f_oids :: .int f_nameAt :: .int f_nameEnd :: .int f_ca :: .int f_basic :: .int f_trusted :: .ref r_dnsAt :: .ref r_dnsEnd :: .ref r_dirAt :: .ref r_dirEnd :: .ref r_treeAt :: .ref r_treeEnd :: .ref r_treeKind :: .ref r_entryAt :: .ref r_entryEnd :: .ref r_oidAt :: .ref r_oidEnd :: [])))] := hD
      subst hw50
      have e9 : tx_element u pp tg en = .inl pp := by
        exact ((if_pos p5).trans ((if_pos hc22).trans rfl))
      exact W.zret (v := 0) hx hb hr (bz_n (bz_f not_false)) (fun t ht hW => ⟨⟨_, (nI pp, f_from, f_to, nI pp), rfl, Or.inr ⟨_, e9, rfl, rfl⟩, by rw [ht]; exact hP.sub [1, 0] rfl, va_K.moved hW.alike hK, hD.sub [1, 0] (by decide) rfl⟩, hS.F ht⟩) hS.2.2 d_Text_element_53
    refine lv_aload_n hx hb d_Text_element_22 rfl (lv_at hl 0 rfl) ?_
    refine va_get (v := .ref d0) hx hb htb i_Text hown hK hP 0 rfl rfl 0 (by decide) (htb _ q6_178) (fun _ h9 => h9) rfl d_Text_element_23 ?_
    refine lv_aload_n hx hb d_Text_element_26 rfl (lv_at hl 0 rfl) ?_
    refine va_get (v := .int (nI pp)) hx hb htb i_Text hown hK hP 0 rfl rfl 2 (by decide) (htb _ q6_182) (fun _ h9 => h9) rfl d_Text_element_27 ?_
    have h30 : vp_in (nI pp) 2048 := vp_in_nI (by omega) (by omega)
    refine va_iald hx hb hK hP 1 0 rfl rfl h30 d_Text_element_30 ?_
    rw [show tI u (nI pp).toNatClampNeg = nI (u pp) from tI_at (by omega)]
    have hu30 := hu pp
    refine lv_iload_n hx hb d_Text_element_31 rfl (lv_at hl 1 rfl) ?_
    refine lv_icmp_ne (tgt := 45) hx hb d_Text_element_32 (by decide) (fun c32 => ?_) (fun c32 => ?_)
    · have p32 : ¬ ((u pp) = tg) := (fun q9 => c32 ((nI_eq (a := (u pp)) (b := tg) (by omega) (by omega)).mpr q9))
      exact k45_22 ls (Or.inl p32) (lv_sub hl [0, 1, 2] rfl)
    · have p32 : (u pp) = tg := ((nI_eq (a := (u pp)) (b := tg) (by omega) (by omega)).mp c32)
      refine lv_aload_n hx hb d_Text_element_35 rfl (lv_at hl 0 rfl) ?_
      refine va_get (v := .int (nI pp)) hx hb htb i_Text hown hK hP 0 rfl rfl 2 (by decide) (htb _ q6_182) (fun _ h9 => h9) rfl d_Text_element_36 ?_
      refine lv_iconst (v := 1) hx hb d_Text_element_39 (by decide) ?_
      refine lv_iadd hx hb d_Text_element_40 ?_
      rw [show ((nI pp) + 1 : Int32) = nI (pp + 1) from nI_add pp 1]
      refine lv_iload_n hx hb d_Text_element_41 rfl (lv_at hl 2 rfl) ?_
      refine lv_icmp_lt (tgt := 54) hx hb d_Text_element_42 (by decide) (fun c42 => ?_) (fun c42 => ?_)
      · have p42 : (pp + 1) < en := ((nI_ltI (a := (pp + 1)) (b := en) (by omega) (by omega)).mp c42)
        exact k54_22 ls (fun z => z.elim (fun q => q p32) (fun z => z p42)) (lv_sub hl [0, 1, 2] rfl)
      · have p42 : ¬ ((pp + 1) < en) := (fun q9 => c42 ((nI_ltI (a := (pp + 1)) (b := en) (by omega) (by omega)).mpr q9))
        exact k45_22 ls (Or.inr p42) (lv_sub hl [0, 1, 2] rfl)
  · have p5 : ¬ (pp < en) := (fun q9 => c5 ((nI_ltI (a := pp) (b := en) (by omega) (by omega)).mpr q9))
    refine lv_aload_n hx hb d_Text_element_8 rfl (lv_at hl 0 rfl) ?_
    refine lv_iload_n hx hb d_Text_element_9 rfl (lv_at hl 2 rfl) ?_
    have hFc := va_free (wc := [(q, .inr (13, (.ref d0 :: .int (nI n) :: .int (nI pp) :: .int (-1) :: .int f_from :: .int f_to :: .int f_place :: .long f_time0 :: .long f_time1 :: .long f_latest :: .int f_serial :: .int f_serialEnd :: .int f_issuer :: .int f_issuerEnd :: .int f_subject :: .int f_subjectEnd :: .int f_subjectParts :: .int f_parts :: .int f_modulus :: .int f_modulusEnd :: .int f_exponent :: .int f_tbs :: .int f_tbsEnd :: .int f_signature :: .int f_signatureEnd :: .int f_length :: .int f_usage :: .int f_dns :: .int f_dirs :: .int f_extensions :: .int f_matters :: .int f_ownKey :: .int f_ownKeyEnd :: .int f_issuerKey :: .int f_issuerKeyEnd :: .int f_trees :: .int f_entries :: .int f_oids :: .int f_nameAt :: .int f_nameEnd :: .int f_ca :: .int f_basic :: .int f_trusted :: .ref r_dnsAt :: .ref r_dnsEnd :: .ref r_dirAt :: .ref r_dirEnd :: .ref r_treeAt :: .ref r_treeEnd :: .ref r_treeKind :: .ref r_entryAt :: .ref r_entryEnd :: .ref r_oidAt :: .ref r_oidEnd :: [])))]) hD hS hA [0] rfl
    refine va_calli (mu_runV (As := [.int (nI en)]) (rest := []) ⟨hx, hb, hml, hown, hts⟩ tbin (t_bad l dC dI sb q d0 r_dnsAt r_dnsEnd r_dirAt r_dirEnd r_treeAt r_treeEnd r_treeKind r_entryAt r_entryEnd r_oidAt r_oidEnd (nI n) (nI pp) f_from f_to f_place f_serial f_serialEnd f_issuer f_issuerEnd f_subject f_subjectEnd f_subjectParts f_parts f_modulus f_modulusEnd f_exponent f_tbs f_tbsEnd f_signature f_signatureEnd f_length f_usage f_dns f_dirs f_extensions f_matters f_ownKey f_ownKeyEnd f_issuerKey f_issuerKeyEnd f_trees f_entries f_oids f_nameAt f_nameEnd f_ca f_basic f_trusted f_time0 f_time1 f_latest cI u en s.heap.size) q8_99 q8_100 q8_101 q1_10 q8_102 (n := 1) (by decide +kernel) rfl ⟨rfl, rfl⟩ ⟨Nat.le_of_ble_eq_true rfl, Nat.le_of_ble_eq_true rfl⟩ ⟨Nat.le_of_ble_eq_true rfl, Nat.le_of_ble_eq_true rfl⟩ hN (hT0.keep hS hAs) hAs (Nat.le_trans hB0 hS.1) hK hP hD [0] (by decide) rfl [] rfl 0 13 rfl rfl rfl hl.1 rfl (Nat.le_of_ble_eq_true rfl) d_Text_element_10) hS (fun q _ h => hFc q h) hFc (fun r10 u10 tS H10 locs ht hvm hw10 hB hz1 hk1 hS => ?_)
    skip
    obtain ⟨hP1, hK1, hD1⟩ := hB
    rw [ht] at hP1
    obtain ⟨hP, hD⟩ := va_join (wr := [(d0, .inl (cI, 2048, .inl (tI u)))]) (w1 := [(q, .inr (13, (.ref d0 :: .int (nI n) :: .int (nI pp) :: .int (nI en) :: .int f_from :: .int f_to :: .int f_place :: .long f_time0 :: .long f_time1 :: .long f_latest :: .int f_serial :: .int f_serialEnd :: .int f_issuer :: .int f_issuerEnd :: .int f_subject :: .int f_subjectEnd :: .int f_subjectParts :: .int f_parts :: .int f_modulus :: .int f_modulusEnd :: .int f_exponent :: .int f_tbs :: .int f_tbsEnd :: .int f_signature :: .int f_signatureEnd :: .int f_length :: .int f_usage :: .int f_dns :: .int f_dirs :: .int f_extensions :: .int f_matters :: .int f_ownKey :: .int f_ownKeyEnd :: .int f_issuerKey :: .int f_issuerKeyEnd :: .int f_trees :: .int f_entries :: .int f_oids :: .int f_nameAt :: .int f_nameEnd :: .int f_ca :: .int f_basic :: .int f_trusted :: .ref r_dnsAt :: .ref r_dnsEnd :: .ref r_dirAt :: .ref r_dirEnd :: .ref r_treeAt :: .ref r_treeEnd :: .ref r_treeKind :: .ref r_entryAt :: .ref r_entryEnd :: .ref r_oidAt :: .ref r_oidEnd :: [])))]) hP hD [0] [1] rfl rfl (by decide) (by decide) hk1 hFc hP1 hD1
    have hP : va_P (dC, dI) classes [(d0, .inl (cI, 2048, .inl (tI u))), (q, .inr (13, (.ref d0 :: .int (nI n) :: .int (nI pp) :: .int (nI en) :: .int f_from :: .int f_to :: .int f_place :: .long f_time0 :: .long f_time1 :: .long f_latest :: .int f_serial :: .int f_serialEnd :: .int f_issuer :: .int f_issuerEnd :: .int f_subject :: .int f_subjectEnd :: .int f_subjectParts :: .int f_parts :: .int f_modulus :: .int f_modulusEnd :: .int f_exponent :: .int f_tbs :: .int f_tbsEnd :: .int f_signature :: .int f_signatureEnd :: .int f_length :: .int f_usage :: .int f_dns :: .int f_dirs :: .int f_extensions :: .int f_matters :: .int f_ownKey :: .int f_ownKeyEnd :: .int f_issuerKey :: .int f_issuerKeyEnd :: .int f_trees :: .int f_entries :: .int f_oids :: .int f_nameAt :: .int f_nameEnd :: .int f_ca :: .int f_basic :: .int f_trusted :: .ref r_dnsAt :: .ref r_dnsEnd :: .ref r_dirAt :: .ref r_dirEnd :: .ref r_treeAt :: .ref r_treeEnd :: .ref r_treeKind :: .ref r_entryAt :: .ref r_entryEnd :: .ref r_oidAt :: .ref r_oidEnd :: [])))] H10 := hP
    have hD : va_D A [(d0, .inl (cI, 2048, .inl (tI u))), (q, .inr (13, (.ref d0 :: .int (nI n) :: .int (nI pp) :: .int (nI en) :: .int f_from :: .int f_to :: .int f_place :: .long f_time0 :: .long f_time1 :: .long f_latest :: .int f_serial :: .int f_serialEnd :: .int f_issuer :: .int f_issuerEnd :: .int f_subject :: .int f_subjectEnd :: .int f_subjectParts :: .int f_parts :: .int f_modulus :: .int f_modulusEnd :: .int f_exponent :: .int f_tbs :: .int f_tbsEnd :: .int f_signature :: .int f_signatureEnd :: .int f_length :: .int f_usage :: .int f_dns :: .int f_dirs :: .int f_extensions :: .int f_matters :: .int f_ownKey :: .int f_ownKeyEnd :: .int f_issuerKey :: .int f_issuerKeyEnd :: .int f_trees :: .int f_entries :: .int f_oids :: .int f_nameAt :: .int f_nameEnd :: .int f_ca :: .int f_basic :: .int f_trusted :: .ref r_dnsAt :: .ref r_dnsEnd :: .ref r_dirAt :: .ref r_dirEnd :: .ref r_treeAt :: .ref r_treeEnd :: .ref r_treeKind :: .ref r_entryAt :: .ref r_entryEnd :: .ref r_oidAt :: .ref r_oidEnd :: [])))] := hD
    subst hw10
    have e9 : tx_element u pp tg en = .inl en := by
      exact ((if_neg p5).trans rfl)
    exact W.zret (v := 0) hx hb hr (bz_n (bz_f not_false)) (fun t ht hW => ⟨⟨_, (nI en, f_from, f_to, f_place), rfl, Or.inr ⟨_, e9, rfl, rfl⟩, by rw [ht]; exact hP.sub [1, 0] rfl, va_K.moved hW.alike hK, hD.sub [1, 0] (by decide) rfl⟩, hS.F ht⟩) hS.2.2 d_Text_element_13
