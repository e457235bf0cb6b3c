section JL
variable {p : Program} {l : Launch} {e : Env} {R : Room} {s : State} {m : MethodId} {args : Array Value} {below : List Frame} {meth : Method} {c : Code} {k n : Nat} {Q : State → Prop}
variable {Y : GY} {A : Nat → Prop} {nL : Nat} {own : String} {cc : ByteArray} {Ts : List Cond}
variable {pc : Nat} {lv : List (Nat × Value)} {st : List Value} {ws : va_W}
theorem J_mmax (C : JC p s m args meth c Y A nL own cc Ts) {ix : Nat} {x y : Int32} (hw : (Cond.methodLink own ix Lib.Math.max.name).before args s = true) (hst : (Cond.static Lib.Math.max.name).before args s = true) (hini : (Cond.initialized "java/lang/Math").before args s = true) (hcd : (Cond.code Lib.Math.max.name Lib.Math.max.code 2 (some .int)).before args s = true) (hR : 1 ≤ R.frames) (hR2 : (st.map fun v => v.category).sum + 13 ≤ R.locals) (hk : k ≤ R.cells) (hn : n ≤ R.slots) (d : decode cc pc = .ok (.invokestatic ix, 3)) (h : J p l e R s m args below meth c Q Y A nL k n (pc + 3) lv (.int (if x < y then y else x) :: st) ws) : J p l e R s m args below meth c Q Y A nL k n pc lv (.int y :: .int x :: st) ws := fun H locs ls hP hD hS hl => va_mmax C.x C.b (C.ml.trans hl.1.symm) C.o hw hst hini hcd hR hR2 hk hn d (h H locs ls hP hD hS hl)
theorem CT_of {y : MethodName} {wl wl' : List Cond} {rm : Room} {av : List Value} {w : va_W} {Qc : (Nat → Prop) → Array Value → State → Outcome → State → Prop} {mc ms : Nat} {cc : ByteArray} {maxL : Nat} {ret : Option FieldType} (hy : plainName y.cls = true) (hw : wl = Cond.code y cc maxL ret :: wl') (hl : (lg_sl av).length ≤ maxL)
    (body : ∀ (p : Program) (e : Env) (s : State) (m : MethodId) (below : List Frame) (meth : Method) (c : Code) (A : Nat → Prop), JC p s m av.toArray meth c Y A maxL y.cls cc wl → meth.sig.returnType = ret → meth.name = y.name → J p l e rm s m av.toArray below meth c (MQ below (Qc A) av.toArray s mc ms A) Y A maxL 0 0 0 (lv_args 0 av) [] w) : CT l y wl rm Y av w Qc mc ms := by
  intro sz
  refine Met.ofW (cc := cc) (maxL := maxL) (ret := ret) hy hw ?_
  intro p e s m args below meth c s₁ B hml hv
  obtain ⟨rfl, hsz, hP, hK, hD0, hX⟩ := hv
  subst hsz
  have hD := hD0.self (sz := s.heap.size)
  have hA : ∀ q : Nat, s.heap.size ≤ q → va_A w s.heap.size q := fun q h => Or.inr h
  have hl2 := lv_entry av (n := maxL) hl
  rw [lg_entry_eq]
  exact body p e s m below meth c _ ⟨B.exec, B.bytes, hml, findClass_of_methodNamed B.named, atoms_spec (ws := wl) B.pre, hK, hA, B.notSynchronized, hX⟩ B.returns (name_of_methodNamed B.named B.method).1 s.heap [] _ hP hD va_S.rf hl2
theorem R_V (C : JC p s m args meth c Y A nL own cc Ts) {y : MethodName} {bytes : ByteArray} {maxL k' n' ng index : Nat} {ret : Option FieldType} {wl : List Cond} {rm : Room} {wc : va_W} {Qc : (Nat → Prop) → Array Value → State → Outcome → State → Prop} {stk : List Value} {Cn : String} {b : Nat} {As : List Value} (hM : CT l y wl rm Y (.ref b :: As) wc Qc k' n') (cw : CallW R s args own Cn index y bytes maxL ret wl rm k' n' ng) (hng : As.length = ng) (isC : List Nat) (hC : isC.map (fun i => ws[i]?) = wc.map some) (hnd : va_nd isC = true) (hrv : ∃ (q0 ci : Nat) (r : vw_C) (fs : List Value), wc[q0]? = some (b, .inr (ci, fs)) ∧ vwCl[ci]? = some r ∧ r.1 = Cn) (hs : stk = As.reverse ++ .ref b :: st) (hcat : (st.map fun v => v.category).sum ≤ 8) (d : decode cc pc = .ok (.invokevirtual index, 3)) (hf : k + k' ≤ R.cells ∧ n + n' ≤ R.slots) : ∀ (H : Heap) (locs : List Loc) (ls : Array Slot), va_P Y.1 vwCl ws H → va_D A ws → va_S A s.heap H locs → lv_has ls nL lv → va_Run p l e R s m args below meth c H locs k n k' n' (F0 m pc ls stk) st (Qc (va_A wc H.size) (Value.ref b :: As).toArray) (va_A wc H.size) := by
  intro H locs ls hP hD hS hl
  have hF := va_free hD hS C.hA isC hC
  have hPc : va_P Y.1 vwCl wc H := by
    intro j q hq
    have h1 : (isC.map (fun i => ws[i]?))[j]? = some (some q) := by rw [hC, List.getElem?_map, hq]; rfl
    rw [List.getElem?_map] at h1
    cases hi : isC[j]? with
    | none => rw [hi] at h1; cases h1
    | some i => rw [hi] at h1; exact hP i q (Option.some.inj h1)
  have hDc : va_D (fun _ => True) wc := (hD.sub isC hnd hC).weaken (fun _ _ _ _ => trivial)
  have hXc : XT (va_A wc H.size) s H := (C.X.kept hS.2.1).narrow hF
  have hbl : FrameBlind (PR Y (.ref b :: As) wc H.size) := fun a U g mk q => by obtain ⟨q0, q1, qP, qK, qD, qX⟩ := q; exact ⟨q0, q1, qP, va_K.moved (u := U) (U := U.calling g mk a) (Vm.Alike.refl U.vm) qK, qD, XT.vm (u := U) (U := U.calling g mk a) rfl qX⟩
  have hpr : ∀ U : State, U.heap = H → s.WarmedH U.vm → PR Y (.ref b :: As) wc H.size (.ref b :: As : List Value).toArray U := fun U hU hW => ⟨rfl, by rw [hU], by rw [hU]; exact hPc, va_K.moved hW.alike C.K, hDc, by rw [hU]; exact XT.warm hW hXc⟩
  have hcell : ∃ cellB : Cell, H[b]? = some cellB ∧ cellB.vm.isStatics = false ∧ s.vm.findClass Cn = some cellB.cls := by
    obtain ⟨q0, ci, r, fs, r1, r2, r3⟩ := hrv
    rw [← r3]
    exact va_recv C.K hPc (ci := ci) (q0 := q0) r2 r1
  exact va_runV ⟨C.x, C.b, C.ml, C.o, C.t⟩ (hM H.size) cw ⟨hbl, hcell, hpr⟩ rfl hng hl.1 hs (lv_room hcat) d hf
theorem R_VN (C : JC p s m args meth c Y A nL own cc Ts) {y : MethodName} {bytes : ByteArray} {maxL k' n' ng index : Nat} {ret : Option FieldType} {wl : List Cond} {rm : Room} {wc : va_W} {Qc : (Nat → Prop) → Array Value → State → Outcome → State → Prop} {stk : List Value} {Cn host : String} {b : Nat} {As : List Value} (hM : CT l y wl rm Y (.ref b :: As) wc Qc k' n') (cw : va_CN R s args own index y host bytes maxL ret wl rm k' n' ng ∧ (Cond.instanceMethod y).before args s = true ∧ (Cond.selects Cn y y).before args s = true) (hng : As.length = ng) (isC : List Nat) (hC : isC.map (fun i => ws[i]?) = wc.map some) (hnd : va_nd isC = true) (hrv : ∃ (q0 ci : Nat) (r : vw_C) (fs : List Value), wc[q0]? = some (b, .inr (ci, fs)) ∧ vwCl[ci]? = some r ∧ r.1 = Cn) (hs : stk = As.reverse ++ .ref b :: st) (hcat : (st.map fun v => v.category).sum ≤ 8) (d : decode cc pc = .ok (.invokevirtual index, 3)) (hf : k + k' ≤ R.cells ∧ n + n' ≤ R.slots) : ∀ (H : Heap) (locs : List Loc) (ls : Array Slot), va_P Y.1 vwCl ws H → va_D A ws → va_S A s.heap H locs → lv_has ls nL lv → va_Run p l e R s m args below meth c H locs k n k' n' (F0 m pc ls stk) st (Qc (va_A wc H.size) (Value.ref b :: As).toArray) (va_A wc H.size) := by
  intro H locs ls hP hD hS hl
  have hF := va_free hD hS C.hA isC hC
  have hPc : va_P Y.1 vwCl wc H := by
    intro j q hq
    have h1 : (isC.map (fun i => ws[i]?))[j]? = some (some q) := by rw [hC, List.getElem?_map, hq]; rfl
    rw [List.getElem?_map] at h1
    cases hi : isC[j]? with
    | none => rw [hi] at h1; cases h1
    | some i => rw [hi] at h1; exact hP i q (Option.some.inj h1)
  have hDc : va_D (fun _ => True) wc := (hD.sub isC hnd hC).weaken (fun _ _ _ _ => trivial)
  have hXc : XT (va_A wc H.size) s H := (C.X.kept hS.2.1).narrow hF
  have hbl : FrameBlind (PR Y (.ref b :: As) wc H.size) := fun a U g mk q => by obtain ⟨q0, q1, qP, qK, qD, qX⟩ := q; exact ⟨q0, q1, qP, va_K.moved (u := U) (U := U.calling g mk a) (Vm.Alike.refl U.vm) qK, qD, XT.vm (u := U) (U := U.calling g mk a) rfl qX⟩
  have hpr : ∀ U : State, U.heap = H → s.WarmedH U.vm → PR Y (.ref b :: As) wc H.size (.ref b :: As : List Value).toArray U := fun U hU hW => ⟨rfl, by rw [hU], by rw [hU]; exact hPc, va_K.moved hW.alike C.K, hDc, by rw [hU]; exact XT.warm hW hXc⟩
  have hcell : ∃ cellB : Cell, H[b]? = some cellB ∧ cellB.vm.isStatics = false ∧ s.vm.findClass Cn = some cellB.cls := by
    obtain ⟨q0, ci, r, fs, r1, r2, r3⟩ := hrv
    rw [← r3]
    exact va_recv C.K hPc (ci := ci) (q0 := q0) r2 r1
  exact va_runVN ⟨C.x, C.b, C.ml, C.o, C.t⟩ (hM H.size) cw ⟨hbl, hcell, hpr⟩ rfl hng hl.1 hs (lv_room hcat) d hf
theorem R_S (C : JC p s m args meth c Y A nL own cc Ts) {y : MethodName} {bytes : ByteArray} {maxL k' n' ng index : Nat} {ret : Option FieldType} {wl : List Cond} {rm : Room} {wc : va_W} {Qc : (Nat → Prop) → Array Value → State → Outcome → State → Prop} {stk : List Value} {As : List Value} (hM : CT l y wl rm Y As wc Qc k' n') (cw : CallB R s args own index y bytes maxL ret wl rm k' n' ng ∧ (Cond.static y).before args s = true) (hng : As.length = ng) (isC : List Nat) (hC : isC.map (fun i => ws[i]?) = wc.map some) (hnd : va_nd isC = true) (hs : stk = As.reverse ++ st) (hcat : (st.map fun v => v.category).sum ≤ 8) (d : decode cc pc = .ok (.invokestatic index, 3)) (hf : k + k' ≤ R.cells ∧ n + n' ≤ R.slots) : ∀ (H : Heap) (locs : List Loc) (ls : Array Slot), va_P Y.1 vwCl ws H → va_D A ws → va_S A s.heap H locs → lv_has ls nL lv → va_Run p l e R s m args below meth c H locs k n k' n' (F0 m pc ls stk) st (Qc (va_A wc H.size) As.toArray) (va_A wc H.size) := by
  intro H locs ls hP hD hS hl
  have hF := va_free hD hS C.hA isC hC
  have hPc : va_P Y.1 vwCl wc H := by
    intro j q hq
    have h1 : (isC.map (fun i => ws[i]?))[j]? = some (some q) := by rw [hC, List.getElem?_map, hq]; rfl
    rw [List.getElem?_map] at h1
    cases hi : isC[j]? with
    | none => rw [hi] at h1; cases h1
    | some i => rw [hi] at h1; exact hP i q (Option.some.inj h1)
  have hDc : va_D (fun _ => True) wc := (hD.sub isC hnd hC).weaken (fun _ _ _ _ => trivial)
  have hXc : XT (va_A wc H.size) s H := (C.X.kept hS.2.1).narrow hF
  have hbl : FrameBlind (PR Y As wc H.size) := fun a U g mk q => by obtain ⟨q0, q1, qP, qK, qD, qX⟩ := q; exact ⟨q0, q1, qP, va_K.moved (u := U) (U := U.calling g mk a) (Vm.Alike.refl U.vm) qK, qD, XT.vm (u := U) (U := U.calling g mk a) rfl qX⟩
  have hpr : ∀ U : State, U.heap = H → s.WarmedH U.vm → PR Y As wc H.size As.toArray U := fun U hU hW => ⟨rfl, by rw [hU], by rw [hU]; exact hPc, va_K.moved hW.alike C.K, hDc, by rw [hU]; exact XT.warm hW hXc⟩
  exact va_runS ⟨C.x, C.b, C.ml, C.o, C.t⟩ (hM H.size) cw ⟨hbl, hpr⟩ rfl hng hl.1 hs (lv_room hcat) d hf
theorem R_SN (C : JC p s m args meth c Y A nL own cc Ts) {y : MethodName} {bytes : ByteArray} {maxL k' n' ng index : Nat} {ret : Option FieldType} {wl : List Cond} {rm : Room} {wc : va_W} {Qc : (Nat → Prop) → Array Value → State → Outcome → State → Prop} {stk : List Value} {host : String} {As : List Value} (hM : CT l y wl rm Y As wc Qc k' n') (cw : va_CN R s args own index y host bytes maxL ret wl rm k' n' ng ∧ (Cond.static y).before args s = true ∧ True) (hng : As.length = ng) (isC : List Nat) (hC : isC.map (fun i => ws[i]?) = wc.map some) (hnd : va_nd isC = true) (hs : stk = As.reverse ++ st) (hcat : (st.map fun v => v.category).sum ≤ 8) (d : decode cc pc = .ok (.invokestatic index, 3)) (hf : k + k' ≤ R.cells ∧ n + n' ≤ R.slots) : ∀ (H : Heap) (locs : List Loc) (ls : Array Slot), va_P Y.1 vwCl ws H → va_D A ws → va_S A s.heap H locs → lv_has ls nL lv → va_Run p l e R s m args below meth c H locs k n k' n' (F0 m pc ls stk) st (Qc (va_A wc H.size) As.toArray) (va_A wc H.size) := by
  intro H locs ls hP hD hS hl
  have hF := va_free hD hS C.hA isC hC
  have hPc : va_P Y.1 vwCl wc H := by
    intro j q hq
    have h1 : (isC.map (fun i => ws[i]?))[j]? = some (some q) := by rw [hC, List.getElem?_map, hq]; rfl
    rw [List.getElem?_map] at h1
    cases hi : isC[j]? with
    | none => rw [hi] at h1; cases h1
    | some i => rw [hi] at h1; exact hP i q (Option.some.inj h1)
  have hDc : va_D (fun _ => True) wc := (hD.sub isC hnd hC).weaken (fun _ _ _ _ => trivial)
  have hXc : XT (va_A wc H.size) s H := (C.X.kept hS.2.1).narrow hF
  have hbl : FrameBlind (PR Y As wc H.size) := fun a U g mk q => by obtain ⟨q0, q1, qP, qK, qD, qX⟩ := q; exact ⟨q0, q1, qP, va_K.moved (u := U) (U := U.calling g mk a) (Vm.Alike.refl U.vm) qK, qD, XT.vm (u := U) (U := U.calling g mk a) rfl qX⟩
  have hpr : ∀ U : State, U.heap = H → s.WarmedH U.vm → PR Y As wc H.size As.toArray U := fun U hU hW => ⟨rfl, by rw [hU], by rw [hU]; exact hPc, va_K.moved hW.alike C.K, hDc, by rw [hU]; exact XT.warm hW hXc⟩
  exact va_runSN ⟨C.x, C.b, C.ml, C.o, C.t⟩ (hM H.size) cw ⟨hbl, hpr⟩ rfl hng hl.1 hs (lv_room hcat) d hf
theorem R_I (C : JC p s m args meth c Y A nL own cc Ts) {y : MethodName} {bytes : ByteArray} {maxL k' n' ng index : Nat} {wl : List Cond} {rm : Room} {wc : va_W} {Qc : (Nat → Prop) → Array Value → State → Outcome → State → Prop} {stk : List Value} {b : Nat} {As : List Value} (hM : CT l y wl rm Y (.ref b :: As) wc Qc k' n') (cw : CallB R s args own index y bytes maxL none wl rm k' n' ng ∧ y.name = "<init>" ∧ (Cond.instanceMethod y).before args s = true) (hng : As.length = ng) (isC : List Nat) (hC : isC.map (fun i => ws[i]?) = wc.map some) (hnd : va_nd isC = true) (hs : stk = As.reverse ++ .ref b :: st) (hcat : (st.map fun v => v.category).sum ≤ 8) (d : decode cc pc = .ok (.invokespecial index, 3)) (hf : k + k' ≤ R.cells ∧ n + n' ≤ R.slots) : ∀ (H : Heap) (locs : List Loc) (ls : Array Slot), va_P Y.1 vwCl ws H → va_D A ws → va_S A s.heap H locs → lv_has ls nL lv → va_Run p l e R s m args below meth c H locs k n k' n' (F0 m pc ls stk) st (Qc (va_A wc H.size) (Value.ref b :: As).toArray) (va_A wc H.size) := by
  intro H locs ls hP hD hS hl
  have hF := va_free hD hS C.hA isC hC
  have hPc : va_P Y.1 vwCl wc H := by
    intro j q hq
    have h1 : (isC.map (fun i => ws[i]?))[j]? = some (some q) := by rw [hC, List.getElem?_map, hq]; rfl
    rw [List.getElem?_map] at h1
    cases hi : isC[j]? with
    | none => rw [hi] at h1; cases h1
    | some i => rw [hi] at h1; exact hP i q (Option.some.inj h1)
  have hDc : va_D (fun _ => True) wc := (hD.sub isC hnd hC).weaken (fun _ _ _ _ => trivial)
  have hXc : XT (va_A wc H.size) s H := (C.X.kept hS.2.1).narrow hF
  have hbl : FrameBlind (PR Y (.ref b :: As) wc H.size) := fun a U g mk q => by obtain ⟨q0, q1, qP, qK, qD, qX⟩ := q; exact ⟨q0, q1, qP, va_K.moved (u := U) (U := U.calling g mk a) (Vm.Alike.refl U.vm) qK, qD, XT.vm (u := U) (U := U.calling g mk a) rfl qX⟩
  have hpr : ∀ U : State, U.heap = H → s.WarmedH U.vm → PR Y (.ref b :: As) wc H.size (.ref b :: As : List Value).toArray U := fun U hU hW => ⟨rfl, by rw [hU], by rw [hU]; exact hPc, va_K.moved hW.alike C.K, hDc, by rw [hU]; exact XT.warm hW hXc⟩
  exact va_runI ⟨C.x, C.b, C.ml, C.o, C.t⟩ (hM H.size) cw ⟨hbl, hpr⟩ rfl hng hl.1 hs (lv_room hcat) d hf
theorem R_IN (C : JC p s m args meth c Y A nL own cc Ts) {y : MethodName} {bytes : ByteArray} {maxL k' n' ng index : Nat} {wl : List Cond} {rm : Room} {wc : va_W} {Qc : (Nat → Prop) → Array Value → State → Outcome → State → Prop} {stk : List Value} {host : String} {b : Nat} {As : List Value} (hM : CT l y wl rm Y (.ref b :: As) wc Qc k' n') (cw : va_CN R s args own index y host bytes maxL none wl rm k' n' ng ∧ y.name = "<init>" ∧ (Cond.instanceMethod y).before args s = true) (hng : As.length = ng) (isC : List Nat) (hC : isC.map (fun i => ws[i]?) = wc.map some) (hnd : va_nd isC = true) (hs : stk = As.reverse ++ .ref b :: st) (hcat : (st.map fun v => v.category).sum ≤ 8) (d : decode cc pc = .ok (.invokespecial index, 3)) (hf : k + k' ≤ R.cells ∧ n + n' ≤ R.slots) : ∀ (H : Heap) (locs : List Loc) (ls : Array Slot), va_P Y.1 vwCl ws H → va_D A ws → va_S A s.heap H locs → lv_has ls nL lv → va_Run p l e R s m args below meth c H locs k n k' n' (F0 m pc ls stk) st (Qc (va_A wc H.size) (Value.ref b :: As).toArray) (va_A wc H.size) := by
  intro H locs ls hP hD hS hl
  have hF := va_free hD hS C.hA isC hC
  have hPc : va_P Y.1 vwCl wc H := by
    intro j q hq
    have h1 : (isC.map (fun i => ws[i]?))[j]? = some (some q) := by rw [hC, List.getElem?_map, hq]; rfl
    rw [List.getElem?_map] at h1
    cases hi : isC[j]? with
    | none => rw [hi] at h1; cases h1
    | some i => rw [hi] at h1; exact hP i q (Option.some.inj h1)
  have hDc : va_D (fun _ => True) wc := (hD.sub isC hnd hC).weaken (fun _ _ _ _ => trivial)
  have hXc : XT (va_A wc H.size) s H := (C.X.kept hS.2.1).narrow hF
  have hbl : FrameBlind (PR Y (.ref b :: As) wc H.size) := fun a U g mk q => by obtain ⟨q0, q1, qP, qK, qD, qX⟩ := q; exact ⟨q0, q1, qP, va_K.moved (u := U) (U := U.calling g mk a) (Vm.Alike.refl U.vm) qK, qD, XT.vm (u := U) (U := U.calling g mk a) rfl qX⟩
  have hpr : ∀ U : State, U.heap = H → s.WarmedH U.vm → PR Y (.ref b :: As) wc H.size (.ref b :: As : List Value).toArray U := fun U hU hW => ⟨rfl, by rw [hU], by rw [hU]; exact hPc, va_K.moved hW.alike C.K, hDc, by rw [hU]; exact XT.warm hW hXc⟩
  exact va_runIN ⟨C.x, C.b, C.ml, C.o, C.t⟩ (hM H.size) cw ⟨hbl, hpr⟩ rfl hng hl.1 hs (lv_room hcat) d hf
theorem J_callI (C : JC p s m args meth c Y A nL own cc Ts) {S : Type} {post : Int32 → S → Prop} {wf : S → va_W} {k' n' : Nat} {wc wr : va_W} {stk : List Value} {a : Array Value} (hr : ∀ (H : Heap) (locs : List Loc) (ls : Array Slot), va_P Y.1 vwCl ws H → va_D A ws → va_S A s.heap H locs → lv_has ls nL lv → va_Run p l e R s m args below meth c H locs k n k' n' (F0 m pc ls stk) st (QI Y post wf (va_A wc H.size) a) (va_A wc H.size)) (isC isR : List Nat) (hC : isC.map (fun i => ws[i]?) = wc.map some) (hR : isR.map (fun i => ws[i]?) = wr.map some) (hnr : va_nd isR = true) (hdis : isR.all (fun i => !isC.contains i) = true) (kk : ∀ (r : Int32) (u : S), post r u → J p l e R s m args below meth c Q Y A nL (k + k') (n + n') (pc + 3) lv (.int r :: st) (wr ++ wf u)) : J p l e R s m args below meth c Q Y A nL k n pc lv stk ws := by
  intro H locs ls hP hD hS hl
  have hF := va_free hD hS C.hA isC hC
  refine va_calli (hr H locs ls hP hD hS hl) hS (fun q _ h => hF q h) hF (fun r u t H1 locs1 ht hvm hw hB hz hk1 hS1 => ?_)
  obtain ⟨hP1, hK1, hD1⟩ := hB
  rw [ht] at hP1
  obtain ⟨hP2, hD2⟩ := va_join hP hD isC isR hC hR hnr (fun i hi hj => by have h9 := List.all_eq_true.mp hdis i hi; simp [hj] at h9) hk1 hF hP1 hD1
  exact kk r u hw H1 locs1 ls hP2 hD2 hS1 hl
theorem J_callL (C : JC p s m args meth c Y A nL own cc Ts) {S : Type} {post : Int64 → S → Prop} {wf : S → va_W} {k' n' : Nat} {wc wr : va_W} {stk : List Value} {a : Array Value} (hr : ∀ (H : Heap) (locs : List Loc) (ls : Array Slot), va_P Y.1 vwCl ws H → va_D A ws → va_S A s.heap H locs → lv_has ls nL lv → va_Run p l e R s m args below meth c H locs k n k' n' (F0 m pc ls stk) st (QL Y post wf (va_A wc H.size) a) (va_A wc H.size)) (isC isR : List Nat) (hC : isC.map (fun i => ws[i]?) = wc.map some) (hR : isR.map (fun i => ws[i]?) = wr.map some) (hnr : va_nd isR = true) (hdis : isR.all (fun i => !isC.contains i) = true) (kk : ∀ (r : Int64) (u : S), post r u → J p l e R s m args below meth c Q Y A nL (k + k') (n + n') (pc + 3) lv (.long r :: st) (wr ++ wf u)) : J p l e R s m args below meth c Q Y A nL k n pc lv stk ws := by
  intro H locs ls hP hD hS hl
  have hF := va_free hD hS C.hA isC hC
  refine va_calll (hr H locs ls hP hD hS hl) hS (fun q _ h => hF q h) hF (fun r u t H1 locs1 ht hvm hw hB hz hk1 hS1 => ?_)
  obtain ⟨hP1, hK1, hD1⟩ := hB
  rw [ht] at hP1
  obtain ⟨hP2, hD2⟩ := va_join hP hD isC isR hC hR hnr (fun i hi hj => by have h9 := List.all_eq_true.mp hdis i hi; simp [hj] at h9) hk1 hF hP1 hD1
  exact kk r u hw H1 locs1 ls hP2 hD2 hS1 hl
theorem J_callD (C : JC p s m args meth c Y A nL own cc Ts) {S : Type} {post : UInt64 → S → Prop} {wf : S → va_W} {k' n' : Nat} {wc wr : va_W} {stk : List Value} {a : Array Value} (hr : ∀ (H : Heap) (locs : List Loc) (ls : Array Slot), va_P Y.1 vwCl ws H → va_D A ws → va_S A s.heap H locs → lv_has ls nL lv → va_Run p l e R s m args below meth c H locs k n k' n' (F0 m pc ls stk) st (QD Y post wf (va_A wc H.size) a) (va_A wc H.size)) (isC isR : List Nat) (hC : isC.map (fun i => ws[i]?) = wc.map some) (hR : isR.map (fun i => ws[i]?) = wr.map some) (hnr : va_nd isR = true) (hdis : isR.all (fun i => !isC.contains i) = true) (kk : ∀ (r : UInt64) (u : S), post r u → J p l e R s m args below meth c Q Y A nL (k + k') (n + n') (pc + 3) lv (.double r :: st) (wr ++ wf u)) : J p l e R s m args below meth c Q Y A nL k n pc lv stk ws := by
  intro H locs ls hP hD hS hl
  have hF := va_free hD hS C.hA isC hC
  refine va_calld (hr H locs ls hP hD hS hl) hS (fun q _ h => hF q h) hF (fun r u t H1 locs1 ht hvm hw hB hz hk1 hS1 => ?_)
  obtain ⟨hP1, hK1, hD1⟩ := hB
  rw [ht] at hP1
  obtain ⟨hP2, hD2⟩ := va_join hP hD isC isR hC hR hnr (fun i hi hj => by have h9 := List.all_eq_true.mp hdis i hi; simp [hj] at h9) hk1 hF hP1 hD1
  exact kk r u hw H1 locs1 ls hP2 hD2 hS1 hl
theorem J_callV (C : JC p s m args meth c Y A nL own cc Ts) {S : Type} {post : S → Prop} {wf : S → va_W} {k' n' : Nat} {wc wr : va_W} {stk : List Value} {a : Array Value} (hr : ∀ (H : Heap) (locs : List Loc) (ls : Array Slot), va_P Y.1 vwCl ws H → va_D A ws → va_S A s.heap H locs → lv_has ls nL lv → va_Run p l e R s m args below meth c H locs k n k' n' (F0 m pc ls stk) st (QV Y post wf (va_A wc H.size) a) (va_A wc H.size)) (isC isR : List Nat) (hC : isC.map (fun i => ws[i]?) = wc.map some) (hR : isR.map (fun i => ws[i]?) = wr.map some) (hnr : va_nd isR = true) (hdis : isR.all (fun i => !isC.contains i) = true) (kk : ∀ (u : S), post u → J p l e R s m args below meth c Q Y A nL (k + k') (n + n') (pc + 3) lv st (wr ++ wf u)) : J p l e R s m args below meth c Q Y A nL k n pc lv stk ws := by
  intro H locs ls hP hD hS hl
  have hF := va_free hD hS C.hA isC hC
  refine va_callv (hr H locs ls hP hD hS hl) hS (fun q _ h => hF q h) hF (fun u t H1 locs1 ht hvm hw hB hz hk1 hS1 => ?_)
  obtain ⟨hP1, hK1, hD1⟩ := hB
  rw [ht] at hP1
  obtain ⟨hP2, hD2⟩ := va_join hP hD isC isR hC hR hnr (fun i hi hj => by have h9 := List.all_eq_true.mp hdis i hi; simp [hj] at h9) hk1 hF hP1 hD1
  exact kk u hw H1 locs1 ls hP2 hD2 hS1 hl
theorem J_callR (C : JC p s m args meth c Y A nL own cc Ts) {S : Type} {post : S → Prop} {wf : S → Nat → va_W} {k' n' : Nat} {wc wr : va_W} {stk : List Value} {a : Array Value} (hr : ∀ (H : Heap) (locs : List Loc) (ls : Array Slot), va_P Y.1 vwCl ws H → va_D A ws → va_S A s.heap H locs → lv_has ls nL lv → va_Run p l e R s m args below meth c H locs k n k' n' (F0 m pc ls stk) st (QR Y post wf (va_A wc H.size) a) (va_A wc H.size)) (isC isR : List Nat) (hC : isC.map (fun i => ws[i]?) = wc.map some) (hR : isR.map (fun i => ws[i]?) = wr.map some) (hnr : va_nd isR = true) (hdis : isR.all (fun i => !isC.contains i) = true) (kk : ∀ (u : S) (ra : Nat), post u → J p l e R s m args below meth c Q Y A nL (k + k') (n + n') (pc + 3) lv (.ref ra :: st) (wr ++ wf u ra)) : J p l e R s m args below meth c Q Y A nL k n pc lv stk ws := by
  intro H locs ls hP hD hS hl
  have hF := va_free hD hS C.hA isC hC
  refine va_callr (hr H locs ls hP hD hS hl) hS (fun q _ h => hF q h) hF (fun u ra t H1 locs1 ht hvm hw hB hz hk1 hS1 => ?_)
  obtain ⟨hP1, hK1, hD1⟩ := hB
  rw [ht] at hP1
  obtain ⟨hP2, hD2⟩ := va_join hP hD isC isR hC hR hnr (fun i hi hj => by have h9 := List.all_eq_true.mp hdis i hi; simp [hj] at h9) hk1 hF hP1 hD1
  exact kk u ra hw H1 locs1 ls hP2 hD2 hS1 hl
theorem J_loop {σ : Type} (I : σ → Prop) (μ : σ → Nat) (lvf : σ → List (Nat × Value)) (stf : σ → List Value) (wsf : σ → va_W) (hs : ∀ a : σ, I a → (∀ b : σ, I b → μ b < μ a → J p l e R s m args below meth c Q Y A nL k n pc (lvf b) (stf b) (wsf b)) → J p l e R s m args below meth c Q Y A nL k n pc (lvf a) (stf a) (wsf a)) (a0 : σ) (h0 : I a0) (hl : lv = lvf a0) (hst : st = stf a0) (hw : ws = wsf a0) : J p l e R s m args below meth c Q Y A nL k n pc lv st ws := by
  subst hl; subst hst; subst hw
  have key : ∀ (z : Nat) (a : σ), I a → μ a < z → J p l e R s m args below meth c Q Y A nL k n pc (lvf a) (stf a) (wsf a) := by
    intro z
    induction z with
    | zero => intro a _ h; exact absurd h (Nat.not_lt_zero _)
    | succ z ih => intro a ha hz; exact hs a ha (fun b hb hlt => ih b hb (by omega))
  exact key (μ a0 + 1) a0 h0 (by omega)
theorem J_iaddN (C : JC p s m args meth c Y A nL own cc Ts) {x y : Nat} (d : decode cc pc = .ok (.iadd, 1)) (h : J p l e R s m args below meth c Q Y A nL k n (pc + 1) lv (.int (nI (x + y)) :: st) ws) : J p l e R s m args below meth c Q Y A nL k n pc lv (.int (nI y) :: .int (nI x) :: st) ws := J_iadd C d (by rw [nI_add]; exact h)
theorem J_imulN (C : JC p s m args meth c Y A nL own cc Ts) {x y : Nat} (d : decode cc pc = .ok (.imul, 1)) (h : J p l e R s m args below meth c Q Y A nL k n (pc + 1) lv (.int (nI (x * y)) :: st) ws) : J p l e R s m args below meth c Q Y A nL k n pc lv (.int (nI y) :: .int (nI x) :: st) ws := J_imul C d (by rw [pk_mul]; exact h)
theorem J_iandN (C : JC p s m args meth c Y A nL own cc Ts) {x y : Nat} (d : decode cc pc = .ok (.iand, 1)) (h : J p l e R s m args below meth c Q Y A nL k n (pc + 1) lv (.int (nI (x &&& y)) :: st) ws) : J p l e R s m args below meth c Q Y A nL k n pc lv (.int (nI y) :: .int (nI x) :: st) ws := J_iand C d (by rw [fa_and]; exact h)
theorem J_iorN (C : JC p s m args meth c Y A nL own cc Ts) {x y : Nat} (d : decode cc pc = .ok (.ior, 1)) (h : J p l e R s m args below meth c Q Y A nL k n (pc + 1) lv (.int (nI (x ||| y)) :: st) ws) : J p l e R s m args below meth c Q Y A nL k n pc lv (.int (nI y) :: .int (nI x) :: st) ws := J_ior C d (by rw [fa_or]; exact h)
theorem J_isubN (C : JC p s m args meth c Y A nL own cc Ts) {x y : Nat} (d : decode cc pc = .ok (.isub, 1)) (hle : y ≤ x) (h : J p l e R s m args below meth c Q Y A nL k n (pc + 1) lv (.int (nI (x - y)) :: st) ws) : J p l e R s m args below meth c Q Y A nL k n pc lv (.int (nI y) :: .int (nI x) :: st) ws := J_isub C d (by rw [pk_sub hle]; exact h)
theorem J_idivN (C : JC p s m args meth c Y A nL own cc Ts) {x y : Nat} (d : decode cc pc = .ok (.idiv, 1)) (hx : x < 2 ^ 31) (h0 : 0 < y) (hy : y < 2 ^ 31) (h : J p l e R s m args below meth c Q Y A nL k n (pc + 1) lv (.int (nI (x / y)) :: st) ws) : J p l e R s m args below meth c Q Y A nL k n pc lv (.int (nI y) :: .int (nI x) :: st) ws := J_idiv C d (nI_ne0 h0 hy) (by rw [pk_div hx h0 hy]; exact h)
theorem J_iremN (C : JC p s m args meth c Y A nL own cc Ts) {x y : Nat} (d : decode cc pc = .ok (.irem, 1)) (hx : x < 2 ^ 31) (h0 : 0 < y) (hy : y < 2 ^ 31) (h : J p l e R s m args below meth c Q Y A nL k n (pc + 1) lv (.int (nI (x % y)) :: st) ws) : J p l e R s m args below meth c Q Y A nL k n pc lv (.int (nI y) :: .int (nI x) :: st) ws := J_irem C d (nI_ne0 h0 hy) (by rw [pk_rem hx h0 hy]; exact h)
theorem J_ishlN (C : JC p s m args meth c Y A nL own cc Ts) {x y : Nat} (d : decode cc pc = .ok (.ishl, 1)) (hy : y < 32) (hx : x * 2 ^ y < 2 ^ 32) (h : J p l e R s m args below meth c Q Y A nL k n (pc + 1) lv (.int (nI (x * 2 ^ y)) :: st) ws) : J p l e R s m args below meth c Q Y A nL k n pc lv (.int (nI y) :: .int (nI x) :: st) ws := J_ishl C d (by rw [pk_shlN _ y (s_l y hy) hx]; exact h)
theorem J_ishrN (C : JC p s m args meth c Y A nL own cc Ts) {x y : Nat} (d : decode cc pc = .ok (.ishr, 1)) (hy : y < 32) (hx : x < 2 ^ 31) (h : J p l e R s m args below meth c Q Y A nL k n (pc + 1) lv (.int (nI (x / 2 ^ y)) :: st) ws) : J p l e R s m args below meth c Q Y A nL k n pc lv (.int (nI y) :: .int (nI x) :: st) ws := J_ishr C d (by rw [pk_shrN hx _ y (s_l y hy)]; exact h)
theorem J_landN (C : JC p s m args meth c Y A nL own cc Ts) {x y : Nat} (d : decode cc pc = .ok (.land, 1)) (h : J p l e R s m args below meth c Q Y A nL k n (pc + 1) lv (.long (lN (x &&& y)) :: st) ws) : J p l e R s m args below meth c Q Y A nL k n pc lv (.long (lN y) :: .long (lN x) :: st) ws := J_land C d (by rw [fb_andL]; exact h)
theorem J_lorN (C : JC p s m args meth c Y A nL own cc Ts) {x y : Nat} (d : decode cc pc = .ok (.lor, 1)) (h : J p l e R s m args below meth c Q Y A nL k n (pc + 1) lv (.long (lN (x ||| y)) :: st) ws) : J p l e R s m args below meth c Q Y A nL k n pc lv (.long (lN y) :: .long (lN x) :: st) ws := J_lor C d (by rw [fb_orL]; exact h)
theorem J_lshlN (C : JC p s m args meth c Y A nL own cc Ts) {x y : Nat} (d : decode cc pc = .ok (.lshl, 1)) (hy : y < 64) (h : J p l e R s m args below meth c Q Y A nL k n (pc + 1) lv (.long (lN (x * 2 ^ y)) :: st) ws) : J p l e R s m args below meth c Q Y A nL k n pc lv (.int (nI y) :: .long (lN x) :: st) ws := J_lshl C d (by rw [wb_shl x hy]; exact h)
theorem J_lushrN (C : JC p s m args meth c Y A nL own cc Ts) {x y : Nat} (d : decode cc pc = .ok (.lushr, 1)) (hx : x < 2 ^ 64) (hy : y < 64) (h : J p l e R s m args below meth c Q Y A nL k n (pc + 1) lv (.long (lN (x / 2 ^ y)) :: st) ws) : J p l e R s m args below meth c Q Y A nL k n pc lv (.int (nI y) :: .long (lN x) :: st) ws := J_lushr C d (by rw [wb_shr hx hy]; exact h)
theorem J_i2lN (C : JC p s m args meth c Y A nL own cc Ts) {x : Nat} (d : decode cc pc = .ok (.i2l, 1)) (hx : x < 2 ^ 31) (h : J p l e R s m args below meth c Q Y A nL k n (pc + 1) lv (.long (lN x) :: st) ws) : J p l e R s m args below meth c Q Y A nL k n pc lv (.int (nI x) :: st) ws := J_i2l C d (by rw [nI_l hx]; exact h)
theorem J_l2iN (C : JC p s m args meth c Y A nL own cc Ts) {x : Nat} (d : decode cc pc = .ok (.l2i, 1)) (h : J p l e R s m args below meth c Q Y A nL k n (pc + 1) lv (.int (nI x) :: st) ws) : J p l e R s m args below meth c Q Y A nL k n pc lv (.long (lN x) :: st) ws := J_l2i C d (by rw [lN_i]; exact h)
theorem J_icmp_ltN (C : JC p s m args meth c Y A nL own cc Ts) {x y : Nat} {off : Int} {tgt : Nat} (d : decode cc pc = .ok (.if_icmp .lt off, 3)) (ht : (pc : Int) + off = (tgt : Int)) (hx : x < 2 ^ 31) (hy : y < 2 ^ 31) (kt : x < y → J p l e R s m args below meth c Q Y A nL k n tgt lv st ws) (kf : y ≤ x → J p l e R s m args below meth c Q Y A nL k n (pc + 3) lv st ws) : J p l e R s m args below meth c Q Y A nL k n pc lv (.int (nI y) :: .int (nI x) :: st) ws := J_icmp_lt C d ht (fun q => kt ((nI_ltI hx hy).mp q)) (fun q => kf (Nat.not_lt.mp (fun z => q ((nI_ltI hx hy).mpr z))))
theorem J_icmp_geN (C : JC p s m args meth c Y A nL own cc Ts) {x y : Nat} {off : Int} {tgt : Nat} (d : decode cc pc = .ok (.if_icmp .ge off, 3)) (ht : (pc : Int) + off = (tgt : Int)) (hx : x < 2 ^ 31) (hy : y < 2 ^ 31) (kt : y ≤ x → J p l e R s m args below meth c Q Y A nL k n tgt lv st ws) (kf : x < y → J p l e R s m args below meth c Q Y A nL k n (pc + 3) lv st ws) : J p l e R s m args below meth c Q Y A nL k n pc lv (.int (nI y) :: .int (nI x) :: st) ws := J_icmp_ge C d ht (fun q => kt ((nI_leI hy hx).mp q)) (fun q => kf (Nat.not_le.mp (fun z => q ((nI_leI hy hx).mpr z))))
theorem J_icmp_gtN (C : JC p s m args meth c Y A nL own cc Ts) {x y : Nat} {off : Int} {tgt : Nat} (d : decode cc pc = .ok (.if_icmp .gt off, 3)) (ht : (pc : Int) + off = (tgt : Int)) (hx : x < 2 ^ 31) (hy : y < 2 ^ 31) (kt : y < x → J p l e R s m args below meth c Q Y A nL k n tgt lv st ws) (kf : x ≤ y → J p l e R s m args below meth c Q Y A nL k n (pc + 3) lv st ws) : J p l e R s m args below meth c Q Y A nL k n pc lv (.int (nI y) :: .int (nI x) :: st) ws := J_icmp_gt C d ht (fun q => kt ((nI_ltI hy hx).mp q)) (fun q => kf (Nat.not_lt.mp (fun z => q ((nI_ltI hy hx).mpr z))))
theorem J_icmp_leN (C : JC p s m args meth c Y A nL own cc Ts) {x y : Nat} {off : Int} {tgt : Nat} (d : decode cc pc = .ok (.if_icmp .le off, 3)) (ht : (pc : Int) + off = (tgt : Int)) (hx : x < 2 ^ 31) (hy : y < 2 ^ 31) (kt : x ≤ y → J p l e R s m args below meth c Q Y A nL k n tgt lv st ws) (kf : y < x → J p l e R s m args below meth c Q Y A nL k n (pc + 3) lv st ws) : J p l e R s m args below meth c Q Y A nL k n pc lv (.int (nI y) :: .int (nI x) :: st) ws := J_icmp_le C d ht (fun q => kt ((nI_leI hx hy).mp q)) (fun q => kf (Nat.not_le.mp (fun z => q ((nI_leI hx hy).mpr z))))
theorem J_icmp_eqN (C : JC p s m args meth c Y A nL own cc Ts) {x y : Nat} {off : Int} {tgt : Nat} (d : decode cc pc = .ok (.if_icmp .eq off, 3)) (ht : (pc : Int) + off = (tgt : Int)) (hx : x < 2 ^ 31) (hy : y < 2 ^ 31) (kt : x = y → J p l e R s m args below meth c Q Y A nL k n tgt lv st ws) (kf : ¬ x = y → J p l e R s m args below meth c Q Y A nL k n (pc + 3) lv st ws) : J p l e R s m args below meth c Q Y A nL k n pc lv (.int (nI y) :: .int (nI x) :: st) ws := J_icmp_eq C d ht (fun q => kt ((nI_eq hx hy).mp q)) (fun q => kf (fun z => q ((nI_eq hx hy).mpr z)))
theorem J_icmp_neN (C : JC p s m args meth c Y A nL own cc Ts) {x y : Nat} {off : Int} {tgt : Nat} (d : decode cc pc = .ok (.if_icmp .ne off, 3)) (ht : (pc : Int) + off = (tgt : Int)) (hx : x < 2 ^ 31) (hy : y < 2 ^ 31) (kt : ¬ x = y → J p l e R s m args below meth c Q Y A nL k n tgt lv st ws) (kf : x = y → J p l e R s m args below meth c Q Y A nL k n (pc + 3) lv st ws) : J p l e R s m args below meth c Q Y A nL k n pc lv (.int (nI y) :: .int (nI x) :: st) ws := J_icmp_ne C d ht (fun q => kt (fun z => q ((nI_eq hx hy).mpr z))) (fun q => kf ((nI_eq hx hy).mp q))
theorem J_if_eqN (C : JC p s m args meth c Y A nL own cc Ts) {x : Nat} {off : Int} {tgt : Nat} (d : decode cc pc = .ok (.ifCond .eq off, 3)) (ht : (pc : Int) + off = (tgt : Int)) (hx : x < 2 ^ 31) (kt : x = 0 → J p l e R s m args below meth c Q Y A nL k n tgt lv st ws) (kf : ¬ x = 0 → J p l e R s m args below meth c Q Y A nL k n (pc + 3) lv st ws) : J p l e R s m args below meth c Q Y A nL k n pc lv (.int (nI x) :: st) ws := J_if_eq C d ht (fun q => kt ((nI_eq hx (by decide : (0:Nat) < 2 ^ 31)).mp q)) (fun q => kf (fun z => q ((nI_eq hx (by decide : (0:Nat) < 2 ^ 31)).mpr z)))
theorem J_if_neN (C : JC p s m args meth c Y A nL own cc Ts) {x : Nat} {off : Int} {tgt : Nat} (d : decode cc pc = .ok (.ifCond .ne off, 3)) (ht : (pc : Int) + off = (tgt : Int)) (hx : x < 2 ^ 31) (kt : ¬ x = 0 → J p l e R s m args below meth c Q Y A nL k n tgt lv st ws) (kf : x = 0 → J p l e R s m args below meth c Q Y A nL k n (pc + 3) lv st ws) : J p l e R s m args below meth c Q Y A nL k n pc lv (.int (nI x) :: st) ws := J_if_ne C d ht (fun q => kt (fun z => q ((nI_eq hx (by decide : (0:Nat) < 2 ^ 31)).mpr z))) (fun q => kf ((nI_eq hx (by decide : (0:Nat) < 2 ^ 31)).mp q))
theorem J_if_gtN (C : JC p s m args meth c Y A nL own cc Ts) {x : Nat} {off : Int} {tgt : Nat} (d : decode cc pc = .ok (.ifCond .gt off, 3)) (ht : (pc : Int) + off = (tgt : Int)) (hx : x < 2 ^ 31) (kt : 0 < x → J p l e R s m args below meth c Q Y A nL k n tgt lv st ws) (kf : x = 0 → J p l e R s m args below meth c Q Y A nL k n (pc + 3) lv st ws) : J p l e R s m args below meth c Q Y A nL k n pc lv (.int (nI x) :: st) ws := J_if_gt C d ht (fun q => kt ((nI_ltI (by decide : (0:Nat) < 2 ^ 31) hx).mp q)) (fun q => kf (by rcases Nat.eq_zero_or_pos x with z | z; exact z; exact absurd ((nI_ltI (by decide : (0:Nat) < 2 ^ 31) hx).mpr z) q))
theorem J_if_leN (C : JC p s m args meth c Y A nL own cc Ts) {x : Nat} {off : Int} {tgt : Nat} (d : decode cc pc = .ok (.ifCond .le off, 3)) (ht : (pc : Int) + off = (tgt : Int)) (hx : x < 2 ^ 31) (kt : x = 0 → J p l e R s m args below meth c Q Y A nL k n tgt lv st ws) (kf : 0 < x → J p l e R s m args below meth c Q Y A nL k n (pc + 3) lv st ws) : J p l e R s m args below meth c Q Y A nL k n pc lv (.int (nI x) :: st) ws := J_if_le C d ht (fun q => kt (Nat.le_zero.mp ((nI_leI hx (by decide : (0:Nat) < 2 ^ 31)).mp q))) (fun q => kf (by rcases Nat.eq_zero_or_pos x with z | z; exact absurd ((nI_leI hx (by decide : (0:Nat) < 2 ^ 31)).mpr (Nat.le_of_eq z)) q; exact z))
theorem J_if_ltN (C : JC p s m args meth c Y A nL own cc Ts) {x : Nat} {off : Int} {tgt : Nat} (d : decode cc pc = .ok (.ifCond .lt off, 3)) (ht : (pc : Int) + off = (tgt : Int)) (hx : x < 2 ^ 31) (h : J p l e R s m args below meth c Q Y A nL k n (pc + 3) lv st ws) : J p l e R s m args below meth c Q Y A nL k n pc lv (.int (nI x) :: st) ws := J_if_lt C d ht (fun q => absurd q (nI_pos hx)) (fun _ => h)
end JL
