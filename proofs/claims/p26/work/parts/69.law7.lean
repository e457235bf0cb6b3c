/-! what the Statement gives at the law's entry -/
def WTr (s : State) (args : Array Value) : Prop := ∀ w ∈ lw_tbl, w.before args s = true
theorem wt_K0 {s : State} {args : Array Value} (hts : WTr s args) : ∃ (cC : ClassId) (iS : Nat → Nat), u_Kn s RX0 TX0 4 cC iS := u_known (n := 4) hts inX0 (hts (Cond.instantiable RX0 4) (List.mem_append_right _ (List.mem_of_getElem? (i := 30) (by decide +kernel))))
theorem wt_K1 {s : State} {args : Array Value} (hts : WTr s args) : ∃ (cC : ClassId) (iS : Nat → Nat), u_Kn s RX1 TX1 17 cC iS := u_known (n := 17) hts inX1 (hts (Cond.instantiable RX1 17) (List.mem_append_right _ (List.mem_of_getElem? (i := 24) (by decide +kernel))))
theorem wt_K2 {s : State} {args : Array Value} (hts : WTr s args) : ∃ (cC : ClassId) (iS : Nat → Nat), u_Kn s RX2 TX2 3 cC iS := u_known (n := 3) hts inX2 (hts (Cond.instantiable RX2 3) (List.mem_append_right _ (List.mem_of_getElem? (i := 112) (by decide +kernel))))
theorem wt_K3 {s : State} {args : Array Value} (hts : WTr s args) : ∃ (cC : ClassId) (iS : Nat → Nat), u_Kn s RX3 TX3 7 cC iS := u_known (n := 7) hts inX3 (hts (Cond.instantiable RX3 7) (List.mem_append_right _ (List.mem_of_getElem? (i := 128) (by decide +kernel))))
theorem wt_K4 {s : State} {args : Array Value} (hts : WTr s args) : ∃ (cC : ClassId) (iS : Nat → Nat), u_Kn s RX4 TX4 7 cC iS := u_known (n := 7) hts inX4 (hts (Cond.instantiable RX4 7) (List.mem_append_right _ (List.mem_of_getElem? (i := 16) (by decide +kernel))))
theorem wt_Aint {s : State} {args : Array Value} (hts : WTr s args) : ∃ cA : ClassId, ArrOfT s cA .int ∧ va_RA s cA .int := by
  obtain ⟨c, k, comp, h1, h2, h3⟩ := Cond.arrayClass_spec (hts (Cond.arrayClass .int) (List.mem_append_right _ (List.mem_of_getElem? (i := 51) (by decide +kernel))))
  exact ⟨c, fun n z => ⟨fun q h => (by cases h), k, h2, comp, h3⟩, h1⟩
theorem wt_Along {s : State} {args : Array Value} (hts : WTr s args) : ∃ cA : ClassId, ArrOfT s cA .long ∧ va_RA s cA .long := by
  obtain ⟨c, k, comp, h1, h2, h3⟩ := Cond.arrayClass_spec (hts (Cond.arrayClass .long) (List.mem_append_right _ (List.mem_of_getElem? (i := 52) (by decide +kernel))))
  exact ⟨c, fun n z => ⟨fun q h => (by cases h), k, h2, comp, h3⟩, h1⟩
theorem wt_Aq {s : State} {args : Array Value} (hts : WTr s args) : ∃ cA : ClassId, ArrOfT s cA (.object "SecretDinner$Dinner") ∧ va_RA s cA (.object "SecretDinner$Dinner") := by
  obtain ⟨comp, c, k, h1, h2, h3, h4, h5⟩ := Cond.arrayOver_spec (hts (Cond.arrayOver (.object "SecretDinner$Dinner")) (List.mem_append_right _ (List.mem_of_getElem? (i := 108) (by decide +kernel))))
  exact ⟨c, fun n z => ⟨fun q h => (by cases h), k, h3, comp, h4⟩, k, comp, h3, h4, h1, h5⟩
theorem wt_K {s : State} {args : Array Value} (hts : WTr s args) : ∃ Y : GY, va_K Y.1 vwCl (TY Y) s := by
  obtain ⟨c0q, s0q, k0q⟩ := wt_K0 hts
  obtain ⟨c1q, s1q, k1q⟩ := wt_K1 hts
  obtain ⟨c2q, s2q, k2q⟩ := wt_K2 hts
  obtain ⟨c3q, s3q, k3q⟩ := wt_K3 hts
  obtain ⟨c4q, s4q, k4q⟩ := wt_K4 hts
  obtain ⟨a0q, A0q, B0q⟩ := wt_Aint hts
  obtain ⟨a1q, A1q, B1q⟩ := wt_Along hts
  obtain ⟨a2q, A2q, B2q⟩ := wt_Aint hts
  obtain ⟨a3q, A3q, B3q⟩ := wt_Aq hts
  refine ⟨((fun k => match k with | 0 => c0q | 1 => c1q | 2 => c2q | 3 => c3q | _ => c4q, fun k => match k with | 0 => s0q | 1 => s1q | 2 => s2q | 3 => s3q | _ => s4q), fun k => match k with | 0 => a0q | 1 => a1q | 2 => a2q | _ => a3q), ?_, ?_⟩
  · intro k q hq
    match k, hq with
    | 0, hq => cases hq; exact k0q
    | 1, hq => cases hq; exact k1q
    | 2, hq => cases hq; exact k2q
    | 3, hq => cases hq; exact k3q
    | 4, hq => cases hq; exact k4q
    | k + 5, hq => simp [vwCl] at hq
  · intro k q hq
    match k, hq with
    | 0, hq => cases hq; exact ⟨A0q, B0q⟩
    | 1, hq => cases hq; exact ⟨A1q, B1q⟩
    | 2, hq => cases hq; exact ⟨A2q, B2q⟩
    | 3, hq => cases hq; exact ⟨A3q, B3q⟩
    | k + 4, hq => simp [TY] at hq
def WNr (s : State) (args : Array Value) : Prop := ∀ w ∈ flatC (Jvm.Cond.and given_1 narrow_1), w.before args s = true
theorem wt_S3 {s : State} {args : Array Value} (hts : WTr s args) (hn : WNr s args) {A : Nat → Prop} (hA : ∀ a : Nat, a < s.heap.size → ¬ A a) : ∃ t : Nat, va_Z "SecretDinner" "HANDS_OF_THREE" "[I" (.ref t) A s s.heap ∧ va_T .int t 5 (fun j => .int (xt_3 j)) A s s.heap := by
  have hel : ∀ j : Nat, j < 5 → (Term.elem (Term.static "SecretDinner" "HANDS_OF_THREE" "[I") (.int (Int32.ofNat j))).eval args s none [] s = some (.int (xt_3 j)) := by
    intro j hj
    rcases (show j = 0 ∨ j = 1 ∨ j = 2 ∨ j = 3 ∨ j = 4 by omega) with rfl | rfl | rfl | rfl | rfl
    · exact va_eqt (hn (Cond.eq (Term.elem (Term.static "SecretDinner" "HANDS_OF_THREE" "[I") (Term.int 0)) (Term.int 3)) (by decide +kernel))
    · exact va_eqt (hn (Cond.eq (Term.elem (Term.static "SecretDinner" "HANDS_OF_THREE" "[I") (Term.int 1)) (Term.int 2)) (by decide +kernel))
    · exact va_eqt (hn (Cond.eq (Term.elem (Term.static "SecretDinner" "HANDS_OF_THREE" "[I") (Term.int 2)) (Term.int 2)) (by decide +kernel))
    · exact va_eqt (hn (Cond.eq (Term.elem (Term.static "SecretDinner" "HANDS_OF_THREE" "[I") (Term.int 3)) (Term.int 0)) (by decide +kernel))
    · exact va_eqt (hn (Cond.eq (Term.elem (Term.static "SecretDinner" "HANDS_OF_THREE" "[I") (Term.int 4)) (Term.int 1)) (by decide +kernel))
  obtain ⟨t, h1, h2⟩ := va_Tof (tm := (Term.static "SecretDinner" "HANDS_OF_THREE" "[I")) (ty := .int) (N := 5) (f := fun j => .int (xt_3 j)) (A := A) (by decide) (hn (Cond.arrayOf (Term.static "SecretDinner" "HANDS_OF_THREE" "[I") .int) (by decide +kernel)) (va_eqt (hn (Cond.eq (Term.length (Term.static "SecretDinner" "HANDS_OF_THREE" "[I")) (Term.int 5)) (by decide +kernel))) hel hA
  exact ⟨t, va_Zref (hts (Cond.laysStatic "SecretDinner" "HANDS_OF_THREE" "[I") (List.mem_append_right _ (List.mem_of_getElem? (i := 365) (by decide +kernel)))) (hts (Cond.initialized "SecretDinner") (List.mem_append_right _ (List.mem_of_getElem? (i := 1) (by decide +kernel)))) h1 hA, h2⟩
theorem wt_S4 {s : State} {args : Array Value} (hts : WTr s args) (hn : WNr s args) {A : Nat → Prop} (hA : ∀ a : Nat, a < s.heap.size → ¬ A a) : ∃ t : Nat, va_Z "SecretDinner" "HANDS_OF_FOUR" "[I" (.ref t) A s s.heap ∧ va_T .int t 5 (fun j => .int (xt_4 j)) A s s.heap := by
  have hel : ∀ j : Nat, j < 5 → (Term.elem (Term.static "SecretDinner" "HANDS_OF_FOUR" "[I") (.int (Int32.ofNat j))).eval args s none [] s = some (.int (xt_4 j)) := by
    intro j hj
    rcases (show j = 0 ∨ j = 1 ∨ j = 2 ∨ j = 3 ∨ j = 4 by omega) with rfl | rfl | rfl | rfl | rfl
    · exact va_eqt (hn (Cond.eq (Term.elem (Term.static "SecretDinner" "HANDS_OF_FOUR" "[I") (Term.int 0)) (Term.int 2)) (by decide +kernel))
    · exact va_eqt (hn (Cond.eq (Term.elem (Term.static "SecretDinner" "HANDS_OF_FOUR" "[I") (Term.int 1)) (Term.int 2)) (by decide +kernel))
    · exact va_eqt (hn (Cond.eq (Term.elem (Term.static "SecretDinner" "HANDS_OF_FOUR" "[I") (Term.int 2)) (Term.int 2)) (by decide +kernel))
    · exact va_eqt (hn (Cond.eq (Term.elem (Term.static "SecretDinner" "HANDS_OF_FOUR" "[I") (Term.int 3)) (Term.int 1)) (by decide +kernel))
    · exact va_eqt (hn (Cond.eq (Term.elem (Term.static "SecretDinner" "HANDS_OF_FOUR" "[I") (Term.int 4)) (Term.int 1)) (by decide +kernel))
  obtain ⟨t, h1, h2⟩ := va_Tof (tm := (Term.static "SecretDinner" "HANDS_OF_FOUR" "[I")) (ty := .int) (N := 5) (f := fun j => .int (xt_4 j)) (A := A) (by decide) (hn (Cond.arrayOf (Term.static "SecretDinner" "HANDS_OF_FOUR" "[I") .int) (by decide +kernel)) (va_eqt (hn (Cond.eq (Term.length (Term.static "SecretDinner" "HANDS_OF_FOUR" "[I")) (Term.int 5)) (by decide +kernel))) hel hA
  exact ⟨t, va_Zref (hts (Cond.laysStatic "SecretDinner" "HANDS_OF_FOUR" "[I") (List.mem_append_right _ (List.mem_of_getElem? (i := 367) (by decide +kernel)))) (hts (Cond.initialized "SecretDinner") (List.mem_append_right _ (List.mem_of_getElem? (i := 1) (by decide +kernel)))) h1 hA, h2⟩
theorem wt_U {s : State} {args : Array Value} (hts : WTr s args) (hn : WNr s args) {A : Nat → Prop} (hA : ∀ a : Nat, a < s.heap.size → ¬ A a) : vx_Zq "java/lang/Throwable" "UNASSIGNED_STACK" "[Ljava/lang/StackTraceElement;" A s s.heap := vx_Zqof (hts (Cond.laysStatic "java/lang/Throwable" "UNASSIGNED_STACK" "[Ljava/lang/StackTraceElement;") (List.mem_append_right _ (List.mem_of_getElem? (i := 216) (by decide +kernel)))) (hts (Cond.initialized "java/lang/Throwable") (List.mem_append_right _ (List.mem_of_getElem? (i := 6) (by decide +kernel)))) (hn (Cond.isRef (Term.static "java/lang/Throwable" "UNASSIGNED_STACK" "[Ljava/lang/StackTraceElement;")) (by decide +kernel)) hA
theorem wt_N {s : State} {args : Array Value} (hts : WTr s args) (hn : WNr s args) {A : Nat → Prop} (hA : ∀ a : Nat, a < s.heap.size → ¬ A a) : vx_Zq "java/lang/Throwable" "SUPPRESSED_SENTINEL" "Ljava/util/List;" A s s.heap := vx_Zqof (hts (Cond.laysStatic "java/lang/Throwable" "SUPPRESSED_SENTINEL" "Ljava/util/List;") (List.mem_append_right _ (List.mem_of_getElem? (i := 218) (by decide +kernel)))) (hts (Cond.initialized "java/lang/Throwable") (List.mem_append_right _ (List.mem_of_getElem? (i := 6) (by decide +kernel)))) (hn (Cond.isRef (Term.static "java/lang/Throwable" "SUPPRESSED_SENTINEL" "Ljava/util/List;")) (by decide +kernel)) hA
theorem wt_f : ∀ q ∈ xn_f, Cond.fieldLinkNest q.1 q.2.1 q.2.2.1 q.2.2.2.1 q.2.2.2.2 "SecretDinner" ∈ tables_1 := by decide +kernel
theorem wt_m : ∀ q ∈ xn_m, Cond.methodLinkNest q.1 q.2.1 q.2.2 "SecretDinner" ∈ tables_1 := by decide +kernel
theorem wt_XN {s : State} {args : Array Value} (hts : WTr s args) : XN s := ⟨fun q hq => va_Nw.of rfl (hts _ (List.mem_append_right _ (wt_f q hq))), fun q hq => va_Nw.of rfl (hts _ (List.mem_append_right _ (wt_m q hq))), va_AO.of (hts (Cond.arrayOver (.object "SecretDinner$Dinner")) (List.mem_append_right _ (List.mem_of_getElem? (i := 108) (by decide +kernel))))⟩
theorem wt_XT {s : State} {args : Array Value} (hts : WTr s args) (hn : WNr s args) {A : Nat → Prop} (hA : ∀ a : Nat, a < s.heap.size → ¬ A a) : XT A s s.heap := ⟨wt_S3 hts hn hA, wt_S4 hts hn hA, wt_U hts hn hA, wt_N hts hn hA, wt_XN hts⟩
theorem wt_s : ∀ q ∈ xs_s, Cond.stringRef "SecretDinner" q.1 q.2 ∈ tables_1 := by decide +kernel
theorem wt_e : ∀ q ∈ xs_e, Cond.castable q q ∈ tables_1 := by decide +kernel
theorem wt_d : ∀ q ∈ xs_d, Cond.declares q ∈ tables_1 := by decide +kernel
theorem wt_n : ∀ q ∈ xs_n, Cond.not (Cond.castable q.1 q.2) ∈ flatC (Jvm.Cond.and given_1 narrow_1) := by decide +kernel
theorem wt_XS {s : State} {args : Array Value} (hts : WTr s args) (hn : WNr s args) : XS s := by
  obtain ⟨cC, iS, h1, h2, -⟩ := wt_K4 hts
  refine ⟨fun q hq => ?_, fun q hq => va_Nw.of rfl (hts _ (List.mem_append_right _ (wt_e q hq))), fun q hq => va_Nc.of (hn _ (wt_n q hq)), fun q hq => va_Nw.of rfl (hts _ (List.mem_append_right _ (wt_d q hq)))⟩
  have hw := hts _ (List.mem_append_right _ (wt_s q hq))
  obtain ⟨k, cf, i, a, -, -, -, -, -, h9⟩ := Cond.stringRef_spec (cur := cC) h2 hw
  exact ⟨a, vk_R.of hw h9⟩
