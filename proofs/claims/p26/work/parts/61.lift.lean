/-! contracts over a greater world; a method without handlers that wants the strings -/
section LF
variable {l : Launch} {y : MethodName} {wl : List Cond} {rm : Room} {Y : GY} {av : List Value}
theorem lf_P {ws wc : va_W} {H : Heap} (hP : va_P Y.1 vwCl ws H) {isC : List Nat} (hC : isC.map (fun i => ws[i]?) = wc.map some) : va_P Y.1 vwCl wc H := by
  intro j q hq
  have h1 : (isC.map (fun i => ws[i]?))[j]? = some (some q) := by rw [hC, List.getElem?_map, hq]; rfl
  rw [List.getElem?_map] at h1
  cases hi : isC[j]? with
  | none => rw [hi] at h1; cases h1
  | some i => rw [hi] at h1; exact hP i q (Option.some.inj h1)
theorem lf_A {ws wc : va_W} {sz : Nat} {isC : List Nat} (hC : isC.map (fun i => ws[i]?) = wc.map some) : ∀ q, va_A wc sz q → va_A ws sz q := by
  intro q h
  rcases h with ⟨k, e, h⟩ | h
  · have h1 : (isC.map (fun i => ws[i]?))[k]? = some (some (q, e)) := by rw [hC, List.getElem?_map, h]; rfl
    rw [List.getElem?_map] at h1
    cases hi : isC[k]? with
    | none => rw [hi] at h1; cases h1
    | some i => rw [hi] at h1; exact Or.inl ⟨i, e, Option.some.inj h1⟩
  · exact Or.inr h
theorem lf_F {A B : Nat → Prop} {s t : State} (h : va_F A s t) (hAB : ∀ q, A q → B q) : va_F B s t := ⟨h.1, fun q h1 h2 => h.2 q h1 (fun z => h2 (hAB q z))⟩
/-- the other cells, and what comes back, in the order wanted -/
theorem lf_B {ws wc wr w1 w2 : va_W} {s t : State} {sz : Nat} (hsz : s.heap.size = sz) (hP : va_P Y.1 vwCl ws s.heap) (hD : va_D (fun _ => True) ws) {isC isR is : List Nat} (hC : isC.map (fun i => ws[i]?) = wc.map some) (hR : isR.map (fun i => ws[i]?) = wr.map some) (hnr : va_nd isR = true) (hdis : isR.all (fun i => !isC.contains i) = true) (hF : va_F (va_A wc sz) s t) (hB : BH Y (va_A wc sz) w1 t) (h2 : is.map (fun i => (wr ++ w1)[i]?) = w2.map some) (hn2 : va_nd is = true) : BH Y (va_A ws sz) w2 t := by
  obtain ⟨hP1, hK1, hD1⟩ := hB
  subst hsz
  have hDs : va_D (va_A ws s.heap.size) ws := ⟨hD.1, fun k q hk => va_A.in hk⟩
  obtain ⟨hP2, hD2⟩ := va_join hP hDs isC isR hC hR hnr (fun i hi hj => by have h9 := List.all_eq_true.mp hdis i hi; simp [hj] at h9) (fun q h1 hn => hF.2 q h1 hn) (lf_A hC) hP1 hD1
  exact ⟨lf_P hP2 h2, hK1, hD2.sub is hn2 h2⟩
theorem CH_liftI {wc ws wr : va_W} {S T : Type} {post : Int32 → S → Prop} {wf : S → va_W} {k n : Nat} (hM : CH l y wl rm Y av wc (QI Y post wf) k n) (isC isR : List Nat) (hC : isC.map (fun i => ws[i]?) = wc.map some) (hnd : va_nd isC = true) (hR : isR.map (fun i => ws[i]?) = wr.map some) (hnr : va_nd isR = true) (hdis : isR.all (fun i => !isC.contains i) = true) {post' : Int32 → T → Prop} {wf' : T → va_W} (g : ∀ r u, post r u → ∃ v : T, post' r v ∧ ∃ is : List Nat, is.map (fun i => (wr ++ wf u)[i]?) = (wf' v).map some ∧ va_nd is = true) : CH l y wl rm Y av ws (QI Y post' wf') k n := by
  intro sz
  refine MetFree.mono (hM sz) ?_ (fun _ _ _ _ _ h => h) ?_
  · intro a U h
    obtain ⟨⟨h1, h2, hP, hK, hD, hX⟩, hXS⟩ := h
    exact ⟨⟨h1, h2, lf_P hP hC, hK, (hD.sub isC hnd hC).weaken (fun _ _ _ _ => trivial), hX.narrow (lf_A hC)⟩, hXS⟩
  · intro a s o t h hQ
    obtain ⟨⟨h1, h2, hP, hK, hD, hX⟩, hXS⟩ := h
    obtain ⟨⟨⟨r, u, ho, hp, hB⟩, hFr⟩, L, hFE, hL⟩ := hQ
    obtain ⟨v, hp', is, his, hnis⟩ := g r u hp
    exact ⟨⟨⟨r, v, ho, hp', lf_B h2 hP hD hC hR hnr hdis hFr hB his hnis⟩, lf_F hFr (lf_A hC)⟩, L, hFE, fun q hq => lf_A hC _ (hL q hq)⟩
theorem CH_liftD {wc ws wr : va_W} {S T : Type} {post : UInt64 → S → Prop} {wf : S → va_W} {k n : Nat} (hM : CH l y wl rm Y av wc (QD Y post wf) k n) (isC isR : List Nat) (hC : isC.map (fun i => ws[i]?) = wc.map some) (hnd : va_nd isC = true) (hR : isR.map (fun i => ws[i]?) = wr.map some) (hnr : va_nd isR = true) (hdis : isR.all (fun i => !isC.contains i) = true) {post' : UInt64 → T → Prop} {wf' : T → va_W} (g : ∀ r u, post r u → ∃ v : T, post' r v ∧ ∃ is : List Nat, is.map (fun i => (wr ++ wf u)[i]?) = (wf' v).map some ∧ va_nd is = true) : CH l y wl rm Y av ws (QD Y post' wf') k n := by
  intro sz
  refine MetFree.mono (hM sz) ?_ (fun _ _ _ _ _ h => h) ?_
  · intro a U h
    obtain ⟨⟨h1, h2, hP, hK, hD, hX⟩, hXS⟩ := h
    exact ⟨⟨h1, h2, lf_P hP hC, hK, (hD.sub isC hnd hC).weaken (fun _ _ _ _ => trivial), hX.narrow (lf_A hC)⟩, hXS⟩
  · intro a s o t h hQ
    obtain ⟨⟨h1, h2, hP, hK, hD, hX⟩, hXS⟩ := h
    obtain ⟨⟨⟨r, u, ho, hp, hB⟩, hFr⟩, L, hFE, hL⟩ := hQ
    obtain ⟨v, hp', is, his, hnis⟩ := g r u hp
    exact ⟨⟨⟨r, v, ho, hp', lf_B h2 hP hD hC hR hnr hdis hFr hB his hnis⟩, lf_F hFr (lf_A hC)⟩, L, hFE, fun q hq => lf_A hC _ (hL q hq)⟩
theorem CH_liftL {wc ws wr : va_W} {S T : Type} {post : Int64 → S → Prop} {wf : S → va_W} {k n : Nat} (hM : CH l y wl rm Y av wc (QL Y post wf) k n) (isC isR : List Nat) (hC : isC.map (fun i => ws[i]?) = wc.map some) (hnd : va_nd isC = true) (hR : isR.map (fun i => ws[i]?) = wr.map some) (hnr : va_nd isR = true) (hdis : isR.all (fun i => !isC.contains i) = true) {post' : Int64 → T → Prop} {wf' : T → va_W} (g : ∀ r u, post r u → ∃ v : T, post' r v ∧ ∃ is : List Nat, is.map (fun i => (wr ++ wf u)[i]?) = (wf' v).map some ∧ va_nd is = true) : CH l y wl rm Y av ws (QL Y post' wf') k n := by
  intro sz
  refine MetFree.mono (hM sz) ?_ (fun _ _ _ _ _ h => h) ?_
  · intro a U h
    obtain ⟨⟨h1, h2, hP, hK, hD, hX⟩, hXS⟩ := h
    exact ⟨⟨h1, h2, lf_P hP hC, hK, (hD.sub isC hnd hC).weaken (fun _ _ _ _ => trivial), hX.narrow (lf_A hC)⟩, hXS⟩
  · intro a s o t h hQ
    obtain ⟨⟨h1, h2, hP, hK, hD, hX⟩, hXS⟩ := h
    obtain ⟨⟨⟨r, u, ho, hp, hB⟩, hFr⟩, L, hFE, hL⟩ := hQ
    obtain ⟨v, hp', is, his, hnis⟩ := g r u hp
    exact ⟨⟨⟨r, v, ho, hp', lf_B h2 hP hD hC hR hnr hdis hFr hB his hnis⟩, lf_F hFr (lf_A hC)⟩, L, hFE, fun q hq => lf_A hC _ (hL q hq)⟩
theorem CT_liftI {wc ws wr : va_W} {S T : Type} {post : Int32 → S → Prop} {wf : S → va_W} {k n : Nat} (hM : CT l y wl rm Y av wc (QI Y post wf) k n) (isC isR : List Nat) (hC : isC.map (fun i => ws[i]?) = wc.map some) (hnd : va_nd isC = true) (hR : isR.map (fun i => ws[i]?) = wr.map some) (hnr : va_nd isR = true) (hdis : isR.all (fun i => !isC.contains i) = true) {post' : Int32 → T → Prop} {wf' : T → va_W} (g : ∀ r u, post r u → ∃ v : T, post' r v ∧ ∃ is : List Nat, is.map (fun i => (wr ++ wf u)[i]?) = (wf' v).map some ∧ va_nd is = true) : CT l y wl rm Y av ws (QI Y post' wf') k n := by
  intro sz
  refine MetFree.mono (hM sz) ?_ (fun _ _ _ _ _ h => h) ?_
  · intro a U h
    obtain ⟨h1, h2, hP, hK, hD, hX⟩ := h
    exact ⟨h1, h2, lf_P hP hC, hK, (hD.sub isC hnd hC).weaken (fun _ _ _ _ => trivial), hX.narrow (lf_A hC)⟩
  · intro a s o t h hQ
    obtain ⟨h1, h2, hP, hK, hD, hX⟩ := h
    obtain ⟨⟨⟨r, u, ho, hp, hB⟩, hFr⟩, L, hFE, hL⟩ := hQ
    obtain ⟨v, hp', is, his, hnis⟩ := g r u hp
    exact ⟨⟨⟨r, v, ho, hp', lf_B h2 hP hD hC hR hnr hdis hFr hB his hnis⟩, lf_F hFr (lf_A hC)⟩, L, hFE, fun q hq => lf_A hC _ (hL q hq)⟩
theorem CT_liftD {wc ws wr : va_W} {S T : Type} {post : UInt64 → S → Prop} {wf : S → va_W} {k n : Nat} (hM : CT l y wl rm Y av wc (QD Y post wf) k n) (isC isR : List Nat) (hC : isC.map (fun i => ws[i]?) = wc.map some) (hnd : va_nd isC = true) (hR : isR.map (fun i => ws[i]?) = wr.map some) (hnr : va_nd isR = true) (hdis : isR.all (fun i => !isC.contains i) = true) {post' : UInt64 → T → Prop} {wf' : T → va_W} (g : ∀ r u, post r u → ∃ v : T, post' r v ∧ ∃ is : List Nat, is.map (fun i => (wr ++ wf u)[i]?) = (wf' v).map some ∧ va_nd is = true) : CT l y wl rm Y av ws (QD Y post' wf') k n := by
  intro sz
  refine MetFree.mono (hM sz) ?_ (fun _ _ _ _ _ h => h) ?_
  · intro a U h
    obtain ⟨h1, h2, hP, hK, hD, hX⟩ := h
    exact ⟨h1, h2, lf_P hP hC, hK, (hD.sub isC hnd hC).weaken (fun _ _ _ _ => trivial), hX.narrow (lf_A hC)⟩
  · intro a s o t h hQ
    obtain ⟨h1, h2, hP, hK, hD, hX⟩ := h
    obtain ⟨⟨⟨r, u, ho, hp, hB⟩, hFr⟩, L, hFE, hL⟩ := hQ
    obtain ⟨v, hp', is, his, hnis⟩ := g r u hp
    exact ⟨⟨⟨r, v, ho, hp', lf_B h2 hP hD hC hR hnr hdis hFr hB his hnis⟩, lf_F hFr (lf_A hC)⟩, L, hFE, fun q hq => lf_A hC _ (hL q hq)⟩
theorem CT_liftL {wc ws wr : va_W} {S T : Type} {post : Int64 → S → Prop} {wf : S → va_W} {k n : Nat} (hM : CT l y wl rm Y av wc (QL Y post wf) k n) (isC isR : List Nat) (hC : isC.map (fun i => ws[i]?) = wc.map some) (hnd : va_nd isC = true) (hR : isR.map (fun i => ws[i]?) = wr.map some) (hnr : va_nd isR = true) (hdis : isR.all (fun i => !isC.contains i) = true) {post' : Int64 → T → Prop} {wf' : T → va_W} (g : ∀ r u, post r u → ∃ v : T, post' r v ∧ ∃ is : List Nat, is.map (fun i => (wr ++ wf u)[i]?) = (wf' v).map some ∧ va_nd is = true) : CT l y wl rm Y av ws (QL Y post' wf') k n := by
  intro sz
  refine MetFree.mono (hM sz) ?_ (fun _ _ _ _ _ h => h) ?_
  · intro a U h
    obtain ⟨h1, h2, hP, hK, hD, hX⟩ := h
    exact ⟨h1, h2, lf_P hP hC, hK, (hD.sub isC hnd hC).weaken (fun _ _ _ _ => trivial), hX.narrow (lf_A hC)⟩
  · intro a s o t h hQ
    obtain ⟨h1, h2, hP, hK, hD, hX⟩ := h
    obtain ⟨⟨⟨r, u, ho, hp, hB⟩, hFr⟩, L, hFE, hL⟩ := hQ
    obtain ⟨v, hp', is, his, hnis⟩ := g r u hp
    exact ⟨⟨⟨r, v, ho, hp', lf_B h2 hP hD hC hR hnr hdis hFr hB his hnis⟩, lf_F hFr (lf_A hC)⟩, L, hFE, fun q hq => lf_A hC _ (hL q hq)⟩
end LF
section JL
variable {p : Program} {l : Launch} {e : Env} {R : Room} {s : State} {m : MethodId} {args : Array Value} {below : List Frame} {meth : Method} {c : Code} {k n : Nat} {Q : State → Prop}
variable {Y : GY} {A : Nat → Prop} {nL : Nat} {own : String} {cc : ByteArray} {Ts : List Cond}
variable {pc : Nat} {lv : List (Nat × Value)} {st : List Value} {ws : va_W}
/-- a contract of a method without handlers that wants the strings -/
theorem CP_of {y : MethodName} {wl wl' : List Cond} {rm : Room} {av : List Value} {w : va_W} {Qc : (Nat → Prop) → Array Value → State → Outcome → State → Prop} {mc ms : Nat} {cc : ByteArray} {maxL : Nat} {ret : Option FieldType} (hy : plainName y.cls = true) (hw : wl = Cond.code y cc maxL ret :: wl') (hl : (lg_sl av).length ≤ maxL)
    (body : ∀ (p : Program) (e : Env) (s : State) (m : MethodId) (below : List Frame) (meth : Method) (c : Code) (A : Nat → Prop), JC p s m av.toArray meth c Y A maxL y.cls cc wl → meth.sig.returnType = ret → XS s → J p l e rm s m av.toArray below meth c (MQ below (Qc A) av.toArray s mc ms A) Y A maxL 0 0 0 (lv_args 0 av) [] w) : CH l y wl rm Y av w Qc mc ms := by
  intro sz
  refine Met.ofW (cc := cc) (maxL := maxL) (ret := ret) hy hw ?_
  intro p e s m args below meth c s₁ B hml hv0
  obtain ⟨hv, hXS⟩ := hv0
  obtain ⟨rfl, hsz, hP, hK, hD0, hX⟩ := hv
  subst hsz
  have hD := hD0.self (sz := s.heap.size)
  have hA : ∀ q : Nat, s.heap.size ≤ q → va_A w s.heap.size q := fun q h => Or.inr h
  have hl2 := lv_entry av (n := maxL) hl
  rw [lg_entry_eq]
  exact body p e s m below meth c _ ⟨B.exec, B.bytes, hml, findClass_of_methodNamed B.named, atoms_spec (ws := wl) B.pre, hK, hA, B.notSynchronized, hX⟩ B.returns hXS s.heap [] _ hP hD va_S.rf hl2
/-- a static method without handlers is called, that wants the strings -/
theorem R_P (C : JC p s m args meth c Y A nL own cc Ts) (hXS : XS s) {y : MethodName} {bytes : ByteArray} {maxL k' n' ng index : Nat} {ret : Option FieldType} {wl : List Cond} {rm : Room} {wc : va_W} {Qc : (Nat → Prop) → Array Value → State → Outcome → State → Prop} {stk : List Value} {As : List Value} (hM : CH l y wl rm Y As wc Qc k' n') (cw : CallB R s args own index y bytes maxL ret wl rm k' n' ng ∧ (Cond.static y).before args s = true) (hng : As.length = ng) (isC : List Nat) (hC : isC.map (fun i => ws[i]?) = wc.map some) (hnd : va_nd isC = true) (hs : stk = As.reverse ++ st) (hcat : (st.map fun v => v.category).sum ≤ 8) (d : decode cc pc = .ok (.invokestatic index, 3)) (hf : k + k' ≤ R.cells ∧ n + n' ≤ R.slots) : ∀ (H : Heap) (locs : List Loc) (ls : Array Slot), va_P Y.1 vwCl ws H → va_D A ws → va_S A s.heap H locs → lv_has ls nL lv → va_Run p l e R s m args below meth c H locs k n k' n' (F0 m pc ls stk) st (Qc (va_A wc H.size) As.toArray) (va_A wc H.size) := by
  intro H locs ls hP hD hS hl
  have hF := va_free hD hS C.hA isC hC
  have hPc : va_P Y.1 vwCl wc H := lf_P hP hC
  have hDc : va_D (fun _ => True) wc := (hD.sub isC hnd hC).weaken (fun _ _ _ _ => trivial)
  have hXc : XT (va_A wc H.size) s H := (C.X.kept hS.2.1).narrow hF
  have hbl : FrameBlind (PX Y As wc H.size) := fun a U g mk q => by obtain ⟨⟨q0, q1, qP, qK, qD, qX⟩, q9⟩ := q; exact ⟨⟨q0, q1, qP, va_K.moved (u := U) (U := U.calling g mk a) (Vm.Alike.refl U.vm) qK, qD, XT.vm (u := U) (U := U.calling g mk a) rfl qX⟩, XS.vm (u := U) (U := U.calling g mk a) rfl q9⟩
  have hpr : ∀ U : State, U.heap = H → s.WarmedH U.vm → PX Y As wc H.size As.toArray U := fun U hU hW => ⟨⟨rfl, by rw [hU], by rw [hU]; exact hPc, va_K.moved hW.alike C.K, hDc, by rw [hU]; exact XT.warm hW hXc⟩, XS.warm hW hXS⟩
  exact va_runS ⟨C.x, C.b, C.ml, C.o, C.t⟩ (hM H.size) cw ⟨hbl, hpr⟩ rfl hng hl.1 hs (lv_room hcat) d hf
/-- a static method with handlers is called over a deep stack -/
theorem R_H16 (C : JC p s m args meth c Y A nL own cc Ts) (hXS : XS s) {y : MethodName} {bytes : ByteArray} {maxL k' n' ng index : Nat} {ret : Option FieldType} {hh : List (Nat × Nat × Nat × Nat)} {wl : List Cond} {rm : Room} {wc : va_W} {Qc : (Nat → Prop) → Array Value → State → Outcome → State → Prop} {stk : List Value} {As : List Value} (hM : CH l y wl rm Y As wc Qc k' n') (cw : vx_CSW R s args own index y bytes maxL ret hh wl rm k' n' ng) (h16 : 16 + (maxL + 11) + rm.locals ≤ R.locals) (hng : As.length = ng) (isC : List Nat) (hC : isC.map (fun i => ws[i]?) = wc.map some) (hnd : va_nd isC = true) (hs : stk = As.reverse ++ st) (hcat : (st.map fun v => v.category).sum ≤ 16) (d : decode cc pc = .ok (.invokestatic index, 3)) (hf : k + k' ≤ R.cells ∧ n + n' ≤ R.slots) : ∀ (H : Heap) (locs : List Loc) (ls : Array Slot), va_P Y.1 vwCl ws H → va_D A ws → va_S A s.heap H locs → lv_has ls nL lv → va_Run p l e R s m args below meth c H locs k n k' n' (F0 m pc ls stk) st (Qc (va_A wc H.size) As.toArray) (va_A wc H.size) := by
  intro H locs ls hP hD hS hl
  have hF := va_free hD hS C.hA isC hC
  have hPc : va_P Y.1 vwCl wc H := lf_P hP hC
  have hDc : va_D (fun _ => True) wc := (hD.sub isC hnd hC).weaken (fun _ _ _ _ => trivial)
  have hXc : XT (va_A wc H.size) s H := (C.X.kept hS.2.1).narrow hF
  have hbl : FrameBlind (PX Y As wc H.size) := fun a U g mk q => by obtain ⟨⟨q0, q1, qP, qK, qD, qX⟩, q9⟩ := q; exact ⟨⟨q0, q1, qP, va_K.moved (u := U) (U := U.calling g mk a) (Vm.Alike.refl U.vm) qK, qD, XT.vm (u := U) (U := U.calling g mk a) rfl qX⟩, XS.vm (u := U) (U := U.calling g mk a) rfl q9⟩
  have hpr : ∀ U : State, U.heap = H → s.WarmedH U.vm → PX Y As wc H.size As.toArray U := fun U hU hW => ⟨⟨rfl, by rw [hU], by rw [hU]; exact hPc, va_K.moved hW.alike C.K, hDc, by rw [hU]; exact XT.warm hW hXc⟩, XS.warm hW hXS⟩
  obtain ⟨⟨hrc, hrs, hfr, hlo, hws, hcw⟩, hcode, hini, hy, hlen, hli, hstt⟩ := cw
  have hK : Back l R p e below s args y 3 16 (PreOf R k' n' (PX Y As wc H.size)) (PostOf (Qc (va_A wc H.size)) k' n' (va_A wc H.size)) := va_backW (hh := hh) (bytes := bytes) (maxL := maxL) (ret := ret) (hM H.size) hbl hrc hrs hfr h16 hws hcw (fun a' U hW => word_at hW (Or.inl (by first | rfl | simp [Cond.onTables, Cond.keeps, Cond.steady])) hini)
  intro T hT X
  obtain ⟨v, vm₁, ⟨U', l2, c2, s2⟩, hW₁, X', ⟨g', mk, t, L, e1, e2, hq, h1, hL, h2, h3⟩, stp⟩ := vx_callSW X C.x (hh := hh) (bytes := bytes) (maxL := maxL) (ret := ret) C.o hli hstt hini hcode hy hK (g := F0 m pc ls stk) rfl (hl.1.trans C.ml.symm) (argsL := As) (rest := st) (fun sig h => hng.trans (hlen sig h)) hs (by show 2 * 0 + _ ≤ 16; omega) (by rw [C.b]; exact d)
    (fun vm₁ hW₁ => ⟨hf.1, hf.2, hpr (T.setVm vm₁) hT hW₁⟩)
  dsimp only [Pt.U, Pt.locs, Pt.cells, Pt.slots] at X' e1 e2 h1 h2 h3 stp
  subst h1; subst h2; subst h3
  exact ⟨v, (T.setVm vm₁).calling g' mk As.toArray, t, U', L, hT, X', hL, e1, e2, hq, stp⟩
/-- a loop whose rounds make cells -/
theorem J_loopK {σ : Type} (I : σ → Prop) (μ : σ → Nat) (kf nf : σ → Nat) (lvf : σ → List (Nat × Value)) (stf : σ → List Value) (wsf : σ → va_W) (hs : ∀ a : σ, I a → (∀ b : σ, I b → μ b < μ a → J p l e R s m args below meth c Q Y A nL (kf b) (nf b) pc (lvf b) (stf b) (wsf b)) → J p l e R s m args below meth c Q Y A nL (kf a) (nf a) pc (lvf a) (stf a) (wsf a)) (a0 : σ) (h0 : I a0) (hk : k ≤ kf a0) (hn : n ≤ nf a0) (hl : lv = lvf a0) (hst : st = stf a0) (hw : ws = wsf a0) : J p l e R s m args below meth c Q Y A nL k n pc lv st ws := by
  subst hl; subst hst; subst hw
  refine J_wd hk hn ?_
  have key : ∀ (z : Nat) (a : σ), I a → μ a < z → J p l e R s m args below meth c Q Y A nL (kf a) (nf a) pc (lvf a) (stf a) (wsf a) := by
    intro z
    induction z with
    | zero => intro a _ h; exact absurd h (Nat.not_lt_zero _)
    | succ z ih => intro a ha hz; exact hs a ha (fun b hb hlt => ih b hb (by omega))
  exact key (μ a0 + 1) a0 h0 (by omega)
end JL
