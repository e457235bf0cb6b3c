/-! what leaves a method by a throw, and what catches it -/
def xs_s : List (Nat × String) := [(46, "an evening is for 3 or 4 guests"), (52, "s is out of range"), (60, "an evening goes on"), (84, "no such guest"), (90, "cards is out of range"), (96, "the guest cannot be asked so"), (105, "no such guest or card"), (110, "the guest cannot prove a card"), (116, "the guest cannot leave"), (122, "no such card"), (124, "no evening goes on"), (129, "what is out of range"), (141, "there are not so many questions"), (162, "answer is out of range"), (178, "value is no byte from 0 to 127"), (183, "the text is full"), (197, "there is no saved state")]
def xs_e : List String := ["java/lang/IllegalArgumentException", "java/lang/IllegalStateException", "java/lang/IndexOutOfBoundsException"]
def xs_n : List (String × String) := [("java/lang/IllegalArgumentException", "java/lang/IllegalStateException"), ("java/lang/IllegalArgumentException", "java/lang/IndexOutOfBoundsException"), ("java/lang/IllegalStateException", "java/lang/IllegalArgumentException"), ("java/lang/IllegalStateException", "java/lang/IndexOutOfBoundsException"), ("java/lang/IndexOutOfBoundsException", "java/lang/IllegalArgumentException"), ("java/lang/IndexOutOfBoundsException", "java/lang/IllegalStateException")]
def xs_d : List MethodName := [Bundle.initS "java/lang/RuntimeException", Bundle.initS "java/lang/Exception", Bundle.initS Bundle.tN]
theorem xs_warmD {q : MethodName} {s U : State} (hW : s.WarmedH U.vm) (hZ : va_Nw (.declares q) s) : va_Nw (.declares q) U := va_tabs rfl (rfl : (s.setVm U.vm).vm = U.vm) (by rw [Cond.declares_setVm hW.alike]; exact hZ)
/-- the strings of the class, and how the exceptions' classes stand to each other -/
def XS (U : State) : Prop := (∀ q ∈ xs_s, ∃ a, vk_R "SecretDinner" q.1 q.2 a U) ∧ (∀ q ∈ xs_e, va_Nw (.castable q q) U) ∧ (∀ q ∈ xs_n, va_Nc q.1 q.2 U) ∧ ∀ q ∈ xs_d, va_Nw (.declares q) U
theorem XS.warm {u U : State} (hW : u.WarmedH U.vm) (h : XS u) : XS U := ⟨fun q hq => by obtain ⟨a, h1⟩ := h.1 q hq; exact ⟨a, vk_R.warm hW h1⟩, fun q hq => va_Nw.warmC hW (h.2.1 q hq), fun q hq => va_Nc.moved hW.alike (h.2.2.1 q hq), fun q hq => xs_warmD hW (h.2.2.2 q hq)⟩
theorem XS.vm {u U : State} (e : u.vm = U.vm) (h : XS u) : XS U := ⟨fun q hq => by obtain ⟨a, h1⟩ := h.1 q hq; exact ⟨a, vk_R.same e.symm h1⟩, fun q hq => va_tabs rfl e (h.2.1 q hq), fun q hq => va_Nc.moved (by rw [e]; exact Vm.Alike.refl _) (h.2.2.1 q hq), fun q hq => va_tabs rfl e (h.2.2.2 q hq)⟩
/-- a method's start where strings are wanted too -/
def PX (Y : GY) (av : List Value) (w : va_W) (sz : Nat) : Array Value → State → Prop := fun a U => PR Y av w sz a U ∧ XS U
/-- thrown: the class, the world as it was -/
def XE (Y : GY) (E : String) (w : va_W) (A : Nat → Prop) : String → State → State → Prop := vx_X (fun (_ : Unit) => True) (fun E1 _ t => E1 = E ∧ BH Y A w t) A
/-- a contract: the method throws E and changes nothing -/
def CX (l : Launch) (y : MethodName) (wl : List Cond) (rm : Room) (Y : GY) (av : List Value) (w : va_W) (E : String) (k n : Nat) : Prop :=
  ∀ sz : Nat, vx_Met l y wl rm (PX Y av w sz) (fun _ _ _ _ => False) (XE Y E w (va_A w sz)) k n (va_A w sz)
/-- a contract of a method with handlers -/
def CH (l : Launch) (y : MethodName) (wl : List Cond) (rm : Room) (Y : GY) (av : List Value) (w : va_W) (Qc : (Nat → Prop) → Array Value → State → Outcome → State → Prop) (k n : Nat) : Prop :=
  ∀ sz : Nat, Met l y wl rm (PX Y av w sz) (Qc (va_A w sz)) k n (va_A w sz)
abbrev xRE : List String := ["java/lang/RuntimeException", "java/lang/Exception"]
theorem xRE_fit : ∀ n ∈ xRE, Bundle.fit n = true := by decide +kernel
section JL
variable {p : Program} {l : Launch} {e : Env} {R : Room} {s : State} {m : MethodId} {args : Array Value} {below : List Frame} {meth : Method} {c : Code} {k n : Nat} {Q : State → Prop}
variable {Y : GY} {A : Nat → Prop} {nL : Nat} {own : String} {cc : ByteArray} {Ts : List Cond}
variable {pc : Nat} {lv : List (Nat × Value)} {st : List Value} {ws : va_W}
theorem CX_of {y : MethodName} {wl wl' : List Cond} {rm : Room} {av : List Value} {w : va_W} {E : String} {mc ms : Nat} {cc : ByteArray} {maxL : Nat} {ret : Option FieldType} (hy : plainName y.cls = true) (hw : wl = Cond.code y cc maxL ret :: wl') (hl : (lg_sl av).length ≤ maxL)
    (body : ∀ (p : Program) (e : Env) (s : State) (m : MethodId) (below : List Frame) (meth : Method) (c : Code) (A : Nat → Prop), JC p s m av.toArray meth c Y A maxL y.cls cc wl → XS s → (∀ x ∈ c.exceptionTable.toList, False) → J p l e rm s m av.toArray below meth c (vx_MQ below (fun _ _ _ _ => False) (XE Y E w A) av.toArray s mc ms A) Y A maxL 0 0 0 (lv_args 0 av) [] w) : CX l y wl rm Y av w E mc ms := by
  intro sz
  refine vx_ofW (cc := cc) (maxL := maxL) (ret := ret) hy hw ?_
  intro p e s m args below meth c s₁ B hml ht hv0
  obtain ⟨hv, hXS⟩ := hv0
  obtain ⟨rfl, hsz, hP, hK, hD0, hX⟩ := hv
  subst hsz
  have hD := hD0.self (sz := s.heap.size)
  have hA : ∀ q : Nat, s.heap.size ≤ q → va_A w s.heap.size q := fun q h => Or.inr h
  have hl2 := lv_entry av (n := maxL) hl
  rw [lg_entry_eq]
  exact body p e s m below meth c _ ⟨B.exec, B.bytes, hml, findClass_of_methodNamed B.named, atoms_spec (ws := wl) B.pre, hK, hA, B.notSynchronized, hX⟩ hXS ht s.heap [] _ hP hD va_S.rf hl2
theorem metWH {y : MethodName} {ws ws' : List Cond} {rm : Room} {Pc : Array Value → State → Prop} {Qc : Array Value → State → Outcome → State → Prop} {mc ms : Nat} {free : Addr → Prop} {cc : ByteArray} {maxL : Nat} {ret : Option FieldType} {hh : List (Nat × Nat × Nat × Nat)}
    (hy : plainName y.cls = true) (hw : ws = Cond.codeWith y cc maxL ret hh :: ws')
    (body : ∀ p e s m args below meth c s₁, BodyLoose p l y (headSpec ws rm) cc maxL ret e s m args below meth c s₁ → c.maxLocals = maxL → Pc args s →
      W p l e (headSpec ws rm).room s m args below meth c s.heap [] 0 0 (MQ below Qc args s mc ms free) (entryFrame m args maxL)) : Met l y ws rm Pc Qc mc ms free := by
  refine MetFree.of_bodyS (code := cc) (maxLocals := maxL) (ret := ret) hy ?_ ?_
  · intro args s m h hn
    obtain ⟨m9, meth, c, hn9, h1, h2, h3, h4, -, h5, h6, -⟩ := Cond.codeWith_spec (atoms_spec (ws := ws) h _ (by rw [hw]; exact List.mem_cons_self))
    cases hn.symm.trans hn9
    exact ⟨meth, c, h1, h2, h3, h4, h5, h6⟩
  · intro p e s m args below meth c s₁ B hml hP _
    have hh0 : s₁.heap = s.heap := by rw [B.state]; rfl
    obtain ⟨t, a1, o, b1, b2, b3⟩ := body p e s m args below meth c s₁ B hml hP s₁ hh0 (Stand.of_body B)
    exact ⟨t, o, a1, b1, b2, ⟨b3.1, b3.2⟩⟩
theorem CH_of {y : MethodName} {wl wl' : List Cond} {rm : Room} {av : List Value} {w : va_W} {Qc : (Nat → Prop) → Array Value → State → Outcome → State → Prop} {mc ms : Nat} {cc : ByteArray} {maxL : Nat} {ret : Option FieldType} {hh : List (Nat × Nat × Nat × Nat)} (hy : plainName y.cls = true) (hw : wl = Cond.codeWith y cc maxL ret hh :: wl') (hl : (lg_sl av).length ≤ maxL)
    (body : ∀ (p : Program) (e : Env) (s : State) (m : MethodId) (below : List Frame) (meth : Method) (c : Code) (A : Nat → Prop), JC p s m av.toArray meth c Y A maxL y.cls cc wl → meth.sig.returnType = ret → XS s → c.exceptionTable.toList = tableOf hh → J p l e rm s m av.toArray below meth c (MQ below (Qc A) av.toArray s mc ms A) Y A maxL 0 0 0 (lv_args 0 av) [] w) : CH l y wl rm Y av w Qc mc ms := by
  intro sz
  refine metWH (cc := cc) (maxL := maxL) (ret := ret) (hh := hh) hy hw ?_
  intro p e s m args below meth c s₁ B hml hv0
  obtain ⟨hv, hXS⟩ := hv0
  obtain ⟨rfl, hsz, hP, hK, hD0, hX⟩ := hv
  subst hsz
  have hD := hD0.self (sz := s.heap.size)
  have hA : ∀ q : Nat, s.heap.size ≤ q → va_A w s.heap.size q := fun q h => Or.inr h
  have hl2 := lv_entry av (n := maxL) hl
  have hwd := atoms_spec (ws := wl) B.pre
  have htb := vx_table (x := y) B (hwd (Cond.codeWith y cc maxL ret hh) (by rw [hw]; exact List.mem_cons_self))
  rw [lg_entry_eq]
  exact body p e s m below meth c _ ⟨B.exec, B.bytes, hml, findClass_of_methodNamed B.named, hwd, hK, hA, B.notSynchronized, hX⟩ B.returns hXS htb s.heap [] _ hP hD va_S.rf hl2
/-- throw new E(text) -/
theorem J_throw (C : JC p s m args meth c Y A nL own cc Ts) (hXS : XS s) (hl0 : l.stackTraces = false) (hx0 : ∀ x ∈ c.exceptionTable.toList, False) {cls text : String} {ik is ic mc ms : Nat} {Qc : Array Value → State → Outcome → State → Prop}
    (hcls : Bundle.fit cls = true) (hec : cls ∈ xs_e) (hes : (is, text) ∈ xs_s) (ho : own = "SecretDinner")
    (hk : (Cond.classLink own ik cls).before args s = true) (hini : (Cond.initialized cls).before args s = true)
    (hat : ∀ w ∈ (vx_atS own ic cls xRE).filter goodWord, w ∈ Ts)
    (hng : ((vx_atS own ic cls xRE).filter (fun w => !goodWord w)).all (fun w => decide (w ∈ Cond.castable cls cls :: xs_d.map Cond.declares)) = true)
    (hgood : (Cond.classLink own ik cls :: Cond.initialized cls :: vx_atS own ic cls xRE).all vx_ot = true)
    (d0 : decode cc pc = .ok (.new ik, 3)) (d3 : decode cc (pc + 3) = .ok (.dup, 1)) (d4 : decode cc (pc + 4) = .ok (.ldc is, 2)) (d6 : decode cc (pc + 6) = .ok (.invokespecial ic, 3)) (d9 : decode cc (pc + 9) = .ok (.athrow, 1))
    (hcat : (st.map fun v => v.category).sum ≤ 8) (hR1 : 5 < R.frames) (hR2 : 90 ≤ R.locals) (hR3 : k + 1 ≤ R.cells) (hR4 : n + 6 ≤ R.slots) (hm1 : k + 1 ≤ mc) (hm2 : n + 6 ≤ ms) :
    J p l e R s m args below meth c (vx_MQ below Qc (XE Y cls ws A) args s mc ms A) Y A nL k n pc lv st ws := by
  intro H locs ls hP hD hS hl
  subst ho
  obtain ⟨sa, hstr⟩ := hXS.1 _ hes
  have hcast : (Cond.castable cls cls).before args s = true := va_Nw.use rfl (hXS.2.1 _ hec)
  refine vx_throwS (names := xRE) (text := text) (A := A) (sa := sa) C.x C.b hl0 C.o hcls xRE_fit hk hini hstr ?_ (fun w hw => List.all_eq_true.mp hgood w hw) C.X.2.2.1 C.X.2.2.2.1 hS (hl.1.trans C.ml.symm) d0 d3 d4 d6 d9 (fun x hx => (hx0 x hx).elim) hR1 (by show _ + (13 * (2 + 1) + 43) ≤ _; omega) hR3 hR4 C.lk ?_ hS.2.2 hm1 hm2
  · exact vx_hat (B := Cond.castable cls cls :: xs_d.map Cond.declares) (fun w hw => C.t w (hat w hw)) (fun w hw => of_decide_eq_true (List.all_eq_true.mp hng w hw)) (vx_c hcast (fun w hw => by obtain ⟨q, q1, rfl⟩ := List.mem_map.mp hw; exact va_Nw.use rfl (hXS.2.2.2 q q1)))
  · intro t hal hz hkeep
    refine ⟨(), trivial, ⟨rfl, hP.kept (fun i q hq => hkeep q.1 (vx_lt hP hq)), va_K.moved hal C.K, hD⟩, Nat.le_trans hS.1 hz, fun q hq hn9 => ?_⟩
    rw [hkeep q (Nat.lt_of_lt_of_le hq hS.1)]
    exact hS.2.1 q hq hn9
/-- a call that throws, caught here -/
theorem J_callX (C : JC p s m args meth c Y A nL own cc Ts) (hXS : XS s) {y : MethodName} {bytes : ByteArray} {maxL k' n' ng index : Nat} {ret : Option FieldType} {wl : List Cond} {rm : Room} {wc wr : va_W} {stk : List Value} {Cn E name : String} {b : Nat} {As : List Value} {hh : List (Nat × Nat × Nat × Nat)} {hpc : Nat} (hM : CX l y wl rm Y (.ref b :: As) wc E k' n') (cw : CallW R s args own Cn index y bytes maxL ret wl rm k' n' ng) (hng : As.length = ng) (isC isR : List Nat) (hC : isC.map (fun i => ws[i]?) = wc.map some) (hnd : va_nd isC = true) (hR : isR.map (fun i => ws[i]?) = wr.map some) (hnr : va_nd isR = true) (hdis : isR.all (fun i => !isC.contains i) = true) (hrv : ∃ (q0 ci : Nat) (r : vw_C) (fs : List Value), wc[q0]? = some (b, .inr (ci, fs)) ∧ vwCl[ci]? = some r ∧ r.1 = Cn) (hs : stk = As.reverse ++ .ref b :: st) (hcat : (st.map fun v => v.category).sum ≤ 8) (d : decode cc pc = .ok (.invokevirtual index, 3)) (hf : k + k' ≤ R.cells ∧ n + n' ≤ R.slots)
    (htb : c.exceptionTable.toList = tableOf hh) (pre : List ExceptionTableEntry) (x : ExceptionTableEntry) (suf : List ExceptionTableEntry) (hsplit : tableOf hh = pre ++ x :: suf) (hpass : ∀ z ∈ pre, z.catchType ≠ 0 ∧ ∃ nm : String, (Cond.classLink own z.catchType nm).before args s = true ∧ (E, nm) ∈ xs_n) (hx : covers x pc = true) (h0 : x.catchType ≠ 0) (hlink : (Cond.classLink own x.catchType name).before args s = true) (hE : E ∈ xs_e) (hnm : name = E) (hpc0 : x.handlerPc = hpc)
    (kk : ∀ q : Nat, J p l e R s m args below meth c Q Y A nL (k + k') (n + n') hpc lv [.ref q] (wr ++ wc)) : J p l e R s m args below meth c Q Y A nL k n pc lv stk ws := by
  intro H locs ls hP hD hS hl
  have hF := va_free hD hS C.hA isC hC
  have hPc : va_P Y.1 vwCl wc H := by
    intro j q hq
    have h1 : (isC.map (fun i => ws[i]?))[j]? = some (some q) := by rw [hC, List.getElem?_map, hq]; rfl
    rw [List.getElem?_map] at h1
    cases hi : isC[j]? with
    | none => rw [hi] at h1; cases h1
    | some i => rw [hi] at h1; exact hP i q (Option.some.inj h1)
  have hDc : va_D (fun _ => True) wc := (hD.sub isC hnd hC).weaken (fun _ _ _ _ => trivial)
  have hXc : XT (va_A wc H.size) s H := (C.X.kept hS.2.1).narrow hF
  have hbl : FrameBlind (PX Y (.ref b :: As) wc H.size) := fun a U g mk q => by obtain ⟨⟨q0, q1, qP, qK, qD, qX⟩, q9⟩ := q; exact ⟨⟨q0, q1, qP, va_K.moved (u := U) (U := U.calling g mk a) (Vm.Alike.refl U.vm) qK, qD, XT.vm (u := U) (U := U.calling g mk a) rfl qX⟩, XS.vm (u := U) (U := U.calling g mk a) rfl q9⟩
  have hpr : ∀ U : State, U.heap = H → s.WarmedH U.vm → PX Y (.ref b :: As) wc H.size (.ref b :: As : List Value).toArray U := fun U hU hW => ⟨⟨rfl, by rw [hU], by rw [hU]; exact hPc, va_K.moved hW.alike C.K, hDc, by rw [hU]; exact XT.warm hW hXc⟩, XS.warm hW hXS⟩
  have hcell : ∃ cellB : Cell, H[b]? = some cellB ∧ cellB.vm.isStatics = false ∧ s.vm.findClass Cn = some cellB.cls := by
    obtain ⟨q0, ci, r, fs, r1, r2, r3⟩ := hrv
    rw [← r3]
    exact va_recv C.K hPc (ci := ci) (q0 := q0) r2 r1
  have hrun := vx_runV ⟨C.x, C.b, C.ml, C.o, C.t⟩ (hM H.size) cw ⟨hbl, hcell, hpr⟩ (e := e) (below := below) (meth := meth) (g := F0 m pc ls stk) (rest := st) (locs := locs) (cells := k) (slots := n) rfl hng hl.1 hs (lv_room hcat) d hf
  intro T hT X
  rcases hrun T hT X with ⟨v, st₀, t, T', L, g0, X', hL, e1, e2, hq, stp⟩ | ⟨q, st₀, t, T', L, E1, ce, g0, X', hL, e1, e2, ⟨u, hp, ⟨hE1, hB⟩, hF2⟩, hce, hcv, hcl, stp⟩
  · exact hq.elim
  · subst hE1
    obtain ⟨k1, k2, k3⟩ := vx_keep g0 e1 hS (fun q _ h => hF q h) hF hL hF2
    obtain ⟨hP1, hK1, hD1⟩ := hB
    rw [← e1] at hP1
    obtain ⟨hP2, hD2⟩ := va_join hP hD isC isR hC hR hnr (fun i hi hj => by have h9 := List.all_eq_true.mp hdis i hi; simp [hj] at h9) k2 hF hP1 hD1
    have hcast : (Cond.castable E1 name).before args s = true := by rw [hnm]; exact va_Nw.use rfl (hXS.2.1 _ hE)
    have hk9 := kk q T'.heap (locs ++ L) ls hP2 hD2 k3 hl
    rw [← hpc0] at hk9
    have hW := vx_catch (rest := st) (pc := pc) (own := own) (name := name) C.o pre x suf (htb.trans hsplit) (fun z hz => Or.inr ⟨(hpass z hz).1, by obtain ⟨nm, n1, n2⟩ := (hpass z hz).2; exact ⟨nm, n1, hXS.2.2.1 _ n2⟩⟩) hx h0 hlink hcast (by rw [e1]; exact hce) hcv hcl hk9
    obtain ⟨t2, a1, b1⟩ := hW T' rfl X'
    exact ⟨t2, stp.trans a1, b1⟩
/-- a static method with handlers is called -/
theorem R_H (C : JC p s m args meth c Y A nL own cc Ts) (hXS : XS s) {y : MethodName} {bytes : ByteArray} {maxL k' n' ng index : Nat} {ret : Option FieldType} {hh : List (Nat × Nat × Nat × Nat)} {wl : List Cond} {rm : Room} {wc : va_W} {Qc : (Nat → Prop) → Array Value → State → Outcome → State → Prop} {stk : List Value} {As : List Value} (hM : CH l y wl rm Y As wc Qc k' n') (cw : vx_CSW R s args own index y bytes maxL ret hh wl rm k' n' ng) (hng : As.length = ng) (isC : List Nat) (hC : isC.map (fun i => ws[i]?) = wc.map some) (hnd : va_nd isC = true) (hs : stk = As.reverse ++ st) (hcat : (st.map fun v => v.category).sum ≤ 8) (d : decode cc pc = .ok (.invokestatic index, 3)) (hf : k + k' ≤ R.cells ∧ n + n' ≤ R.slots) : ∀ (H : Heap) (locs : List Loc) (ls : Array Slot), va_P Y.1 vwCl ws H → va_D A ws → va_S A s.heap H locs → lv_has ls nL lv → va_Run p l e R s m args below meth c H locs k n k' n' (F0 m pc ls stk) st (Qc (va_A wc H.size) As.toArray) (va_A wc H.size) := by
  intro H locs ls hP hD hS hl
  have hF := va_free hD hS C.hA isC hC
  have hPc : va_P Y.1 vwCl wc H := by
    intro j q hq
    have h1 : (isC.map (fun i => ws[i]?))[j]? = some (some q) := by rw [hC, List.getElem?_map, hq]; rfl
    rw [List.getElem?_map] at h1
    cases hi : isC[j]? with
    | none => rw [hi] at h1; cases h1
    | some i => rw [hi] at h1; exact hP i q (Option.some.inj h1)
  have hDc : va_D (fun _ => True) wc := (hD.sub isC hnd hC).weaken (fun _ _ _ _ => trivial)
  have hXc : XT (va_A wc H.size) s H := (C.X.kept hS.2.1).narrow hF
  have hbl : FrameBlind (PX Y As wc H.size) := fun a U g mk q => by obtain ⟨⟨q0, q1, qP, qK, qD, qX⟩, q9⟩ := q; exact ⟨⟨q0, q1, qP, va_K.moved (u := U) (U := U.calling g mk a) (Vm.Alike.refl U.vm) qK, qD, XT.vm (u := U) (U := U.calling g mk a) rfl qX⟩, XS.vm (u := U) (U := U.calling g mk a) rfl q9⟩
  have hpr : ∀ U : State, U.heap = H → s.WarmedH U.vm → PX Y As wc H.size As.toArray U := fun U hU hW => ⟨⟨rfl, by rw [hU], by rw [hU]; exact hPc, va_K.moved hW.alike C.K, hDc, by rw [hU]; exact XT.warm hW hXc⟩, XS.warm hW hXS⟩
  exact vx_runSW ⟨C.x, C.b, C.ml, C.o, C.t⟩ (hM H.size) cw ⟨hbl, hpr⟩ rfl hng hl.1 hs (lv_room hcat) d hf
end JL
