/-! Contracts whose outcome is told of the world behind it alone; calls with the first of two lists. -/
theorem mf_imp {l : Launch} {x : MethodName} {S : Spec} {P P' : Array Value → State → Prop} {K : Program → Env → List Frame → State → Array Value → Prop} {Q Q' : Array Value → State → Outcome → State → Prop} (h : MetFree l x S P K Q) (g : ∀ a s, P' a s → P a s) (g' : ∀ a s o t, P' a s → Q a s o t → Q' a s o t) : MetFree l x S P' K Q' := by
  intro p e h1 h2 h3 s m args below h4 h5 h6 h7
  obtain ⟨n, o, a, b, c, d⟩ := h p e h1 h2 h3 s m args below h4 h5 (g _ _ h6) h7
  exact ⟨n, o, a, b, c, g' _ _ _ _ h6 d⟩
/-- the world behind a call -/
def wB (D : va_G) (A : Nat → Prop) (G : va_W) (t : State) : Prop := va_P D classes G t.heap ∧ va_D A G
def RCi (l : Launch) (y : MethodName) (ws : List Cond) (rm : Room) (As : List Value) (D : va_G) (sb : sB) (tys : List (ClassId × FieldType)) (G : va_W) (sz : Nat) (post : Int32 → va_W → Prop) : Prop :=
  Met l y ws rm (mu_P As D sb G tys sz) (va_Qi post (wB D (va_A G sz)) (va_A G sz)) rm.cells rm.slots (va_A G sz)
def RCl (l : Launch) (y : MethodName) (ws : List Cond) (rm : Room) (As : List Value) (D : va_G) (sb : sB) (tys : List (ClassId × FieldType)) (G : va_W) (sz : Nat) (post : Int64 → va_W → Prop) : Prop :=
  Met l y ws rm (mu_P As D sb G tys sz) (va_Ql post (wB D (va_A G sz)) (va_A G sz)) rm.cells rm.slots (va_A G sz)
def CCi (l : Launch) (y : MethodName) (ws : List Cond) (rm : Room) (As : List Value) (D : va_G) (sb : sB) (tys : List (ClassId × FieldType)) (G : va_W) (sz : Nat) (post : Int32 → va_W → Prop) : Prop :=
  vx_Met l y ws rm (mx_P As D sb G tys sz) (va_Qi post (wB D (va_A G sz)) (va_A G sz)) (mx_X (fun (_ : String) (_ : Unit) => False) D tys (va_A G sz) (fun _ => [])) rm.cells rm.slots (va_A G sz)
section RCS
variable {l : Launch} {y : MethodName} {w : List Cond} {rm : Room} {As : List Value} {D : va_G} {sb : sB} {tys tysB : List (ClassId × FieldType)} {G : va_W} {sz mc ms : Nat} {S SX : Type} {F : S → va_W} {FX : SX → va_W} {ws R9 : va_W}
theorem rci_of {post : Int32 → S → Prop} {post' : Int32 → va_W → Prop} (h : Met l y w rm (mu_P As D sb G tys sz) (va_Qi post (mu_B D tys (va_A G sz) F) (va_A G sz)) mc ms (va_A G sz)) (hc : mc = rm.cells) (hs : ms = rm.slots) (g : ∀ r u, va_D (va_A G sz) (F u) → post r u → post' r (F u)) : RCi l y w rm As D sb tys G sz post' := by
  subst hc
  subst hs
  show MetFree _ _ _ _ _ (fun a st o t => va_Qi post' (wB D (va_A G sz)) (va_A G sz) a st o t ∧ ∃ L, FrameEnd st o t L rm.cells rm.slots ∧ ∀ q ∈ L, (va_A G sz) q.base)
  refine mf_imp h (fun _ _ q => q) (fun a s o t _ q => ?_)
  obtain ⟨⟨⟨r, u, h1, h2, h3⟩, h4⟩, h5⟩ := q
  exact ⟨⟨⟨r, F u, h1, g r u h3.2.2 h2, h3.1, h3.2.2⟩, h4⟩, h5⟩
theorem rcl_of {post : Int64 → S → Prop} {post' : Int64 → va_W → Prop} (h : Met l y w rm (mu_P As D sb G tys sz) (va_Ql post (mu_B D tys (va_A G sz) F) (va_A G sz)) mc ms (va_A G sz)) (hc : mc = rm.cells) (hs : ms = rm.slots) (g : ∀ r u, va_D (va_A G sz) (F u) → post r u → post' r (F u)) : RCl l y w rm As D sb tys G sz post' := by
  subst hc
  subst hs
  show MetFree _ _ _ _ _ (fun a st o t => va_Ql post' (wB D (va_A G sz)) (va_A G sz) a st o t ∧ ∃ L, FrameEnd st o t L rm.cells rm.slots ∧ ∀ q ∈ L, (va_A G sz) q.base)
  refine mf_imp h (fun _ _ q => q) (fun a s o t _ q => ?_)
  obtain ⟨⟨⟨r, u, h1, h2, h3⟩, h4⟩, h5⟩ := q
  exact ⟨⟨⟨r, F u, h1, g r u h3.2.2 h2, h3.1, h3.2.2⟩, h4⟩, h5⟩
theorem cci_of {post : Int32 → S → Prop} {post' : Int32 → va_W → Prop} (h : vx_Met l y w rm (mx_P As D sb G tys sz) (va_Qi post (mu_B D tys (va_A G sz) F) (va_A G sz)) (mx_X (fun (_ : String) (_ : SX) => False) D tys (va_A G sz) FX) mc ms (va_A G sz)) (hc : mc = rm.cells) (hs : ms = rm.slots) (g : ∀ r u, va_D (va_A G sz) (F u) → post r u → post' r (F u)) : CCi l y w rm As D sb tys G sz post' := by
  subst hc
  subst hs
  refine mf_imp h (fun _ _ q => q) (fun a s o t _ q => ?_)
  rcases q with ⟨⟨⟨r, u, h1, h2, h3⟩, h4⟩, h5⟩ | ⟨q, -, E, ce, L, ⟨u, -, hb, -⟩, -⟩
  · exact Or.inl ⟨⟨⟨r, F u, h1, g r u h3.2.2 h2, h3.1, h3.2.2⟩, h4⟩, h5⟩
  · exact hb.1.elim
theorem vA_sub (hp : G.Perm (ws ++ R9)) : ∀ q, va_A ws sz q → va_A G sz q := fun q h => by
  rcases h with ⟨k, e, h⟩ | h
  · obtain ⟨j, hj⟩ := List.getElem?_of_mem (hp.symm.subset (List.mem_append_left _ (List.mem_of_getElem? h)))
    exact Or.inl ⟨j, e, hj⟩
  · exact Or.inr h
theorem vA_D {A : Nat → Prop} (hp : G.Perm (ws ++ R9)) (h : va_D A G) : va_D (va_A G sz) (ws ++ R9) := (va_D.perm hp h).weaken (fun k q hk _ => by
  obtain ⟨j, hj⟩ := List.getElem?_of_mem (hp.symm.subset (List.mem_of_getElem? hk))
  exact Or.inl ⟨j, q.2, hj⟩)
/-- a contract over some cells of a world -/
theorem rci_sub {post : Int32 → S → Prop} {post' : Int32 → va_W → Prop} (h : Met l y w rm (mu_P As D sb ws tys sz) (va_Qi post (mu_B D tys (va_A ws sz) F) (va_A ws sz)) mc ms (va_A ws sz)) (hc : mc = rm.cells) (hs : ms = rm.slots) (hp : G.Perm (ws ++ R9)) (ts : List Nat) (ht : ts.filterMap (fun i => tysB[i]?) = tys) (g : ∀ r u, va_D (va_A G sz) (F u ++ R9) → post r u → post' r (F u ++ R9)) : RCi l y w rm As D sb tysB G sz post' := by
  subst hc
  subst hs
  show MetFree _ _ _ (mu_P As D sb G tysB sz) _ (fun a st o t => va_Qi post' (wB D (va_A G sz)) (va_A G sz) a st o t ∧ ∃ L, FrameEnd st o t L rm.cells rm.slots ∧ ∀ q ∈ L, (va_A G sz) q.base)
  refine mf_imp h (fun a s q => ?_) (fun a s o t q0 q => ?_)
  · obtain ⟨q0, q1, q2, qP, qK, qD, qN, qT⟩ := q
    have qP2 := va_P.perm hp qP
    exact ⟨q0, q1, q2, fun k x hx => qP2 k x (by rw [List.getElem?_append_left (List.getElem?_eq_some_iff.mp hx).1]; exact hx), qK.sub ts ht, (va_D.perm hp qD).sub (List.range ws.length) (rg_nd _) (rg_l ws R9), qN, qT⟩
  · obtain ⟨p0, rfl, p2, qP, qK, qD, qN, qT⟩ := q0
    obtain ⟨⟨⟨r, u, h1, h2, h3⟩, h4⟩, L, h5, h6⟩ := q
    obtain ⟨j1, j2⟩ := join_l (va_P.perm hp qP) (vA_D hp qD) h4.2 (vA_sub hp) h3.1 h3.2.2
    exact ⟨⟨⟨r, F u ++ R9, h1, g r u j2 h2, j1, j2⟩, h4.1, fun x hx hn => h4.2 x hx (fun hq => hn (vA_sub hp x hq))⟩, L, h5, fun x hx => vA_sub hp _ (h6 x hx)⟩
/-- the same of one of the law's own methods -/
theorem cci_sub {post : Int32 → S → Prop} {post' : Int32 → va_W → Prop} (h : vx_Met l y w rm (mx_P As D sb ws tys sz) (va_Qi post (mu_B D tys (va_A ws sz) F) (va_A ws sz)) (mx_X (fun (_ : String) (_ : SX) => False) D tys (va_A ws sz) FX) mc ms (va_A ws sz)) (hc : mc = rm.cells) (hs : ms = rm.slots) (hp : G.Perm (ws ++ R9)) (ts : List Nat) (ht : ts.filterMap (fun i => tysB[i]?) = tys) (g : ∀ r u, va_D (va_A G sz) (F u ++ R9) → post r u → post' r (F u ++ R9)) : CCi l y w rm As D sb tysB G sz post' := by
  subst hc
  subst hs
  show MetFree _ _ _ (mx_P As D sb G tysB sz) _ (vx_Q (va_Qi post' (wB D (va_A G sz)) (va_A G sz)) (mx_X (fun (_ : String) (_ : Unit) => False) D tysB (va_A G sz) (fun _ => [])) rm.cells rm.slots (va_A G sz))
  refine mf_imp h (fun a s q => ?_) (fun a s o t q0 q => ?_)
  · obtain ⟨q0, q1, q2, qP, qK, qD, qN, qT, qX⟩ := q
    have qP2 := va_P.perm hp qP
    exact ⟨q0, q1, q2, fun k x hx => qP2 k x (by rw [List.getElem?_append_left (List.getElem?_eq_some_iff.mp hx).1]; exact hx), qK.sub ts ht, (va_D.perm hp qD).sub (List.range ws.length) (rg_nd _) (rg_l ws R9), qN, qT, qX⟩
  · obtain ⟨p0, rfl, p2, qP, qK, qD, qN, qT, qX⟩ := q0
    rcases q with ⟨⟨⟨r, u, h1, h2, h3⟩, h4⟩, L, h5, h6⟩ | ⟨q, -, E, ce, L, ⟨u, -, hb, -⟩, -⟩
    · obtain ⟨j1, j2⟩ := join_l (va_P.perm hp qP) (vA_D hp qD) h4.2 (vA_sub hp) h3.1 h3.2.2
      exact Or.inl ⟨⟨⟨r, F u ++ R9, h1, g r u j2 h2, j1, j2⟩, h4.1, fun x hx hn => h4.2 x hx (fun hq => hn (vA_sub hp x hq))⟩, L, h5, fun x hx => vA_sub hp _ (h6 x hx)⟩
    · exact hb.1.elim
/-- what a world's cells being apart says may be used before the call -/
theorem cci_D {post : Int32 → va_W → Prop} (h : ∀ A : Nat → Prop, va_D A G → CCi l y w rm As D sb tys G sz post) : CCi l y w rm As D sb tys G sz post := by
  intro p e h1 h2 h3 s m args below h4 h5 h6 h7
  exact h _ h6.2.2.2.2.2.1 p e h1 h2 h3 s m args below h4 h5 h6 h7
end RCS
section RCC
variable {p : Program} {l : Launch} {e : Env} {R : Room} {s : State} {m : MethodId} {args : Array Value} {below : List Frame} {meth : Method} {c : Code} {H : Heap} {locs : List Loc} {cells slots : Nat} {Q : State → Prop}
variable {pc : Nat} {ls : Array Slot} {rest st0 : List Value} {cc bytes : ByteArray} {nL maxL index : Nat} {Ts : List Cond} {own C : String} {y : MethodName} {ret : Option FieldType} {rm : Room} {D : va_G} {G R9 : va_W} {tys tysB : List (ClassId × FieldType)} {As : List Value} {n b ci : Nat} {fs : List Value} {q : vw_C} {A : Nat → Prop} {sb : sB}
/-- a call of one of the law's own methods, with the class' cells alone -/
theorem lc_call {hh : List (Nat × Nat × Nat × Nat)} {post : Int32 → va_W → Prop} (S : CallFix p m c cc nL s args Ts own) (hin : ∀ w ∈ tb, w ∈ Ts) (hM : CCi l y (Cond.codeWith y bytes maxL ret hh :: tb) rm As D sb tys G H.size post)
    (h1 : Cond.methodLink own index y ∈ tb) (h2 : Cond.static y ∈ tb) (h4 : Cond.initialized y.cls ∈ tb) (h5 : Cond.codeWith y bytes maxL ret hh ∈ tb)
    (hd : y.cls ≠ "java/lang/invoke/MethodHandle" ∧ y.cls ≠ "java/lang/invoke/VarHandle" ∧ (parseMethodDescriptor y.desc).map (fun d => d.parameters.length) = some n) (hn : As.length = n)
    (hR : rm.frames + 1 ≤ R.frames ∧ 8 + (maxL + 11) + rm.locals ≤ R.locals) (hf : cells + rm.cells ≤ R.cells ∧ slots + rm.slots ≤ R.slots)
    (hTh : thOK sb s s.heap) (hN : nwOK sb s) (hT : stOK sb s s.heap) (hAs : ∀ q, A q → sb.1 ≤ q) (hbH : sb.1 ≤ s.heap.size) (hK : va_K D classes tysB s) (hA : ∀ q : Nat, s.heap.size ≤ q → A q) (hP : va_P D classes (G ++ R9) H) (hD : va_D A (G ++ R9)) (hS : va_S A s.heap H locs) (ts : List Nat) (ht : ts.filterMap (fun i => tysB[i]?) = tys)
    (hsize : ls.size = nL) (hstack : st0 = As.reverse ++ rest) (hW : (rest.map fun v => v.category).sum ≤ 8) (hdg : decode cc pc = .ok (.invokestatic index, 3))
    (kk : ∀ (r : Int32) (G' : va_W) (H1 : Heap) (locs1 : List Loc), post r G' → va_P D classes (G' ++ R9) H1 → va_D A (G' ++ R9) → va_S A s.heap H1 locs1 → W p l e R s m args below meth c H1 locs1 (cells + rm.cells) (slots + rm.slots) Q (F0 m (pc + 3) ls (.int r :: rest))) :
    W p l e R s m args below meth c H locs cells slots Q (F0 m pc ls st0) := by
  have hFc := va_free (wc := G) hD hS hA (List.range G.length) (rg_l G R9)
  refine vx_calli (mx_runSX (rest := rest) S hin hM h1 h2 h4 h5 hd hn ⟨rfl, rfl⟩ hR hf (hTh.keep hS hAs) hN (hT.keep hS hAs) hAs (Nat.le_trans hbH hS.1) hK hP hD (List.range G.length) (rg_nd _) (rg_l G R9) ts ht hsize hstack hW hdg) hS (fun q _ h => hFc q h) hFc (fun q _ h => hFc q h) (fun E cx9 q9 uX tX HX locs9 ht9 hvm hpx hBX hz1 hk1 hS9 hce hcv hcl => hBX.1.elim) (fun r G' tS H1 locs1 ht9 hvm hw hB hz1 hk1 hS1 => ?_)
  obtain ⟨hP1, hD1⟩ := hB
  rw [ht9] at hP1
  obtain ⟨j1, j2⟩ := join_l hP hD hk1 hFc hP1 hD1
  exact kk r G' H1 locs1 hw j1 j2 hS1
/-- a call of the reference, with its cells alone -/
theorem rc_calli {post : Int32 → va_W → Prop} (S : CallFix p m c cc nL s args Ts own) (hin : ∀ w ∈ tb, w ∈ Ts) (hM : RCi l y (Cond.code y bytes maxL ret :: tb) rm (.ref b :: As) D sb tys G H.size post)
    (h1 : Cond.methodLink own index y ∈ tb) (h2 : Cond.instanceMethod y ∈ tb) (h3 : Cond.selects C y y ∈ tb) (h4 : Cond.initialized C ∈ tb) (h5 : Cond.code y bytes maxL ret ∈ tb)
    (hd : y.cls = C ∧ y.cls ≠ "java/lang/invoke/MethodHandle" ∧ y.cls ≠ "java/lang/invoke/VarHandle" ∧ (parseMethodDescriptor y.desc).map (fun d => d.parameters.length) = some n) (hn : As.length = n)
    (hR : rm.frames + 1 ≤ R.frames ∧ 8 + (maxL + 11) + rm.locals ≤ R.locals) (hf : cells + rm.cells ≤ R.cells ∧ slots + rm.slots ≤ R.slots)
    (hN : nwOK sb s) (hT : stOK sb s s.heap) (hAs : ∀ q, A q → sb.1 ≤ q) (hbH : sb.1 ≤ s.heap.size) (hK : va_K D classes tysB s) (hA : ∀ q : Nat, s.heap.size ≤ q → A q) (hP : va_P D classes (G ++ R9) H) (hD : va_D A (G ++ R9)) (hS : va_S A s.heap H locs) (ts : List Nat) (ht : ts.filterMap (fun i => tysB[i]?) = tys)
    (hm : (b, .inr (ci, fs)) ∈ G) (hc : classes[ci]? = some q) (hq : q.1 = C)
    (hsize : ls.size = nL) (hstack : st0 = As.reverse ++ .ref b :: rest) (hW : (rest.map fun v => v.category).sum ≤ 8) (hdg : decode cc pc = .ok (.invokevirtual index, 3))
    (kk : ∀ (r : Int32) (G' : va_W) (H1 : Heap) (locs1 : List Loc), post r G' → va_P D classes (G' ++ R9) H1 → va_D A (G' ++ R9) → va_S A s.heap H1 locs1 → W p l e R s m args below meth c H1 locs1 (cells + rm.cells) (slots + rm.slots) Q (F0 m (pc + 3) ls (.int r :: rest))) :
    W p l e R s m args below meth c H locs cells slots Q (F0 m pc ls st0) := by
  have hFc := va_free (wc := G) hD hS hA (List.range G.length) (rg_l G R9)
  obtain ⟨i0, hi0⟩ := List.getElem?_of_mem (List.mem_append_left R9 hm)
  refine va_calli (mu_runV (rest := rest) S hin hM h1 h2 h3 h4 h5 hd hn ⟨rfl, rfl⟩ hR hf hN (hT.keep hS hAs) hAs (Nat.le_trans hbH hS.1) hK hP hD (List.range G.length) (rg_nd _) (rg_l G R9) ts ht i0 ci hi0 hc hq hsize hstack hW hdg) hS (fun q _ h => hFc q h) hFc (fun r G' tS H1 locs1 ht9 hvm hw hB hz1 hk1 hS1 => ?_)
  obtain ⟨hP1, hD1⟩ := hB
  rw [ht9] at hP1
  obtain ⟨j1, j2⟩ := join_l hP hD hk1 hFc hP1 hD1
  exact kk r G' H1 locs1 hw j1 j2 hS1
theorem rc_calll {post : Int64 → va_W → Prop} (S : CallFix p m c cc nL s args Ts own) (hin : ∀ w ∈ tb, w ∈ Ts) (hM : RCl l y (Cond.code y bytes maxL ret :: tb) rm (.ref b :: As) D sb tys G H.size post)
    (h1 : Cond.methodLink own index y ∈ tb) (h2 : Cond.instanceMethod y ∈ tb) (h3 : Cond.selects C y y ∈ tb) (h4 : Cond.initialized C ∈ tb) (h5 : Cond.code y bytes maxL ret ∈ tb)
    (hd : y.cls = C ∧ y.cls ≠ "java/lang/invoke/MethodHandle" ∧ y.cls ≠ "java/lang/invoke/VarHandle" ∧ (parseMethodDescriptor y.desc).map (fun d => d.parameters.length) = some n) (hn : As.length = n)
    (hR : rm.frames + 1 ≤ R.frames ∧ 8 + (maxL + 11) + rm.locals ≤ R.locals) (hf : cells + rm.cells ≤ R.cells ∧ slots + rm.slots ≤ R.slots)
    (hN : nwOK sb s) (hT : stOK sb s s.heap) (hAs : ∀ q, A q → sb.1 ≤ q) (hbH : sb.1 ≤ s.heap.size) (hK : va_K D classes tysB s) (hA : ∀ q : Nat, s.heap.size ≤ q → A q) (hP : va_P D classes (G ++ R9) H) (hD : va_D A (G ++ R9)) (hS : va_S A s.heap H locs) (ts : List Nat) (ht : ts.filterMap (fun i => tysB[i]?) = tys)
    (hm : (b, .inr (ci, fs)) ∈ G) (hc : classes[ci]? = some q) (hq : q.1 = C)
    (hsize : ls.size = nL) (hstack : st0 = As.reverse ++ .ref b :: rest) (hW : (rest.map fun v => v.category).sum ≤ 8) (hdg : decode cc pc = .ok (.invokevirtual index, 3))
    (kk : ∀ (r : Int64) (G' : va_W) (H1 : Heap) (locs1 : List Loc), post r G' → va_P D classes (G' ++ R9) H1 → va_D A (G' ++ R9) → va_S A s.heap H1 locs1 → W p l e R s m args below meth c H1 locs1 (cells + rm.cells) (slots + rm.slots) Q (F0 m (pc + 3) ls (.long r :: rest))) :
    W p l e R s m args below meth c H locs cells slots Q (F0 m pc ls st0) := by
  have hFc := va_free (wc := G) hD hS hA (List.range G.length) (rg_l G R9)
  obtain ⟨i0, hi0⟩ := List.getElem?_of_mem (List.mem_append_left R9 hm)
  refine va_calll (mu_runV (rest := rest) S hin hM h1 h2 h3 h4 h5 hd hn ⟨rfl, rfl⟩ hR hf hN (hT.keep hS hAs) hAs (Nat.le_trans hbH hS.1) hK hP hD (List.range G.length) (rg_nd _) (rg_l G R9) ts ht i0 ci hi0 hc hq hsize hstack hW hdg) hS (fun q _ h => hFc q h) hFc (fun r G' tS H1 locs1 ht9 hvm hw hB hz1 hk1 hS1 => ?_)
  obtain ⟨hP1, hD1⟩ := hB
  rw [ht9] at hP1
  obtain ⟨j1, j2⟩ := join_l hP hD hk1 hFc hP1 hD1
  exact kk r G' H1 locs1 hw j1 j2 hS1
end RCC
