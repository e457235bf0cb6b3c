/-! a contract that wants a row of ints that nobody writes -/
def CZ (l : Launch) (y : MethodName) (wl : List Cond) (rm : Room) (Y : GY) (av : List Value) (w : va_W) (Z : Nat → State → Prop) (Qc : (Nat → Prop) → Array Value → State → Outcome → State → Prop) (k n : Nat) : Prop :=
  ∀ sz : Nat, Met l y wl rm (fun a U => PR Y av w sz a U ∧ Z sz U) (Qc (va_A w sz)) k n (va_A w sz)
def ZT (b LL : Nat) (xs : Nat → Int32) : Nat → State → Prop := fun sz U => va_T .int b LL (fun j => .int (xs j)) (va_A [] sz) U U.heap
section JL
variable {p : Program} {l : Launch} {e : Env} {R : Room} {s : State} {m : MethodId} {args : Array Value} {below : List Frame} {meth : Method} {c : Code} {k n : Nat} {Q : State → Prop}
variable {Y : GY} {A : Nat → Prop} {nL : Nat} {own : String} {cc : ByteArray} {Ts : List Cond}
variable {pc : Nat} {lv : List (Nat × Value)} {st : List Value} {ws : va_W}
theorem CZ_of {y : MethodName} {wl wl' : List Cond} {rm : Room} {av : List Value} {w : va_W} {Z : Nat → State → Prop} {Qc : (Nat → Prop) → Array Value → State → Outcome → State → Prop} {mc ms : Nat} {cc : ByteArray} {maxL : Nat} {ret : Option FieldType} (hy : plainName y.cls = true) (hw : wl = Cond.code y cc maxL ret :: wl') (hl : (lg_sl av).length ≤ maxL)
    (body : ∀ (p : Program) (e : Env) (s : State) (m : MethodId) (below : List Frame) (meth : Method) (c : Code), JC p s m av.toArray meth c Y (va_A w s.heap.size) maxL y.cls cc wl → meth.sig.returnType = ret → Z s.heap.size s → J p l e rm s m av.toArray below meth c (MQ below (Qc (va_A w s.heap.size)) av.toArray s mc ms (va_A w s.heap.size)) Y (va_A w s.heap.size) maxL 0 0 0 (lv_args 0 av) [] w) : CZ l y wl rm Y av w Z Qc mc ms := by
  intro sz
  refine Met.ofW (cc := cc) (maxL := maxL) (ret := ret) hy hw ?_
  intro p e s m args below meth c s₁ B hml hv0
  obtain ⟨hv, hZ⟩ := hv0
  obtain ⟨rfl, hsz, hP, hK, hD0, hX⟩ := hv
  subst hsz
  have hD := hD0.self (sz := s.heap.size)
  have hA : ∀ q : Nat, s.heap.size ≤ q → va_A w s.heap.size q := fun q h => Or.inr h
  have hl2 := lv_entry av (n := maxL) hl
  rw [lg_entry_eq]
  exact body p e s m below meth c ⟨B.exec, B.bytes, hml, findClass_of_methodNamed B.named, atoms_spec (ws := wl) B.pre, hK, hA, B.notSynchronized, hX⟩ B.returns hZ s.heap [] _ hP hD va_S.rf hl2
theorem R_ZT (C : JC p s m args meth c Y A nL own cc Ts) {b LL : Nat} {xs : Nat → Int32} (hT : va_T .int b LL (fun j => .int (xs j)) A s s.heap) {y : MethodName} {bytes : ByteArray} {maxL k' n' ng index : Nat} {ret : Option FieldType} {wl : List Cond} {rm : Room} {Qc : (Nat → Prop) → Array Value → State → Outcome → State → Prop} {stk : List Value} {As : List Value} (hM : CZ l y wl rm Y As [] (ZT b LL xs) Qc k' n') (cw : CallB R s args own index y bytes maxL ret wl rm k' n' ng ∧ (Cond.static y).before args s = true) (hng : As.length = ng) (hs : stk = As.reverse ++ st) (hcat : (st.map fun v => v.category).sum ≤ 8) (d : decode cc pc = .ok (.invokestatic index, 3)) (hf : k + k' ≤ R.cells ∧ n + n' ≤ R.slots) : ∀ (H : Heap) (locs : List Loc) (ls : Array Slot), va_P Y.1 vwCl ws H → va_D A ws → va_S A s.heap H locs → lv_has ls nL lv → va_Run p l e R s m args below meth c H locs k n k' n' (F0 m pc ls stk) st (Qc (va_A [] H.size) As.toArray) (va_A [] H.size) := by
  intro H locs ls hP hD hS hl
  have hF : ∀ q, va_A [] H.size q → A q := fun q h => by
    rcases h with ⟨k9, e9, h⟩ | h
    · simp at h
    · exact C.hA q (Nat.le_trans hS.1 h)
  have hT2 : va_T .int b LL (fun j => .int (xs j)) (va_A [] H.size) s H := (hT.kept hS.2.1).narrow hF
  have hXc : XT (va_A [] H.size) s H := (C.X.kept hS.2.1).narrow hF
  have hPc : va_P Y.1 vwCl [] H := fun k9 q h => by simp at h
  have hDc : va_D (fun _ => True) ([] : va_W) := ⟨fun i j p9 q h => by simp at h, fun k9 q h => by simp at h⟩
  have hbl : FrameBlind (fun a U => PR Y As [] H.size a U ∧ ZT b LL xs H.size U) := fun a U g mk q => by
    obtain ⟨⟨q0, q1, qP, qK, qD, qX⟩, q9⟩ := q
    exact ⟨⟨q0, q1, qP, va_K.moved (u := U) (U := U.calling g mk a) (Vm.Alike.refl U.vm) qK, qD, XT.vm (u := U) (U := U.calling g mk a) rfl qX⟩, va_T.moved (u := U) (U := U.calling g mk a) (Vm.Alike.refl U.vm) q9⟩
  have hpr : ∀ U : State, U.heap = H → s.WarmedH U.vm → PR Y As [] H.size As.toArray U ∧ ZT b LL xs H.size U := fun U hU hW => ⟨⟨rfl, by rw [hU], by rw [hU]; exact hPc, va_K.moved hW.alike C.K, hDc, by rw [hU]; exact XT.warm hW hXc⟩, by unfold ZT; rw [hU]; exact va_T.moved hW.alike hT2⟩
  exact va_runS ⟨C.x, C.b, C.ml, C.o, C.t⟩ (hM H.size) cw ⟨hbl, hpr⟩ rfl hng hl.1 hs (lv_room hcat) d hf
end JL
/-! the house as it is made -/
def D00 : D7 := (va_up (fun _ => 0) 0 1, (fun _ => 0), (fun _ => 0), (fun _ => 0), (fun _ => 0), (fun _ => 0), [])
def S00 (sb : Nat → Nat → Nat) : ST := (0, D00, (fun _ => 0), sb, (fun _ => D00), (fun _ _ => 0), [], (fun _ => 0), [], (fun _ => 0))
def O00 : OT := (nI 0, (fun _ => 0), (fun _ => 0))
theorem G_00 (sb : Nat → Nat → Nat) : G 0 (S00 sb) := by
  refine ⟨Nat.zero_le 4, ⟨⟨show (1 : Nat) < 2147483648 by decide, show (0 : Nat) ≤ 1 by decide, show (0 : Nat) < 8 by decide, show (0 : Nat) < 16 by decide, fun g => by show (0 : Nat) < 256; decide⟩, Or.inl ⟨rfl, rfl, rfl, rfl, rfl, rfl, rfl, rfl⟩⟩, Nat.le_refl 0, DRep_nil _, fun k _ => ⟨Nat.zero_le _, show (0 : Nat) ≤ 1 by decide, DRep_nil _⟩, ⟨Or.inl rfl, DRep_nil _⟩, ⟨Or.inl rfl, DRep_nil _⟩⟩
