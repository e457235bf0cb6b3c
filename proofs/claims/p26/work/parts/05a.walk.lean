/-! THE WALK'S OWN JUDGEMENT: J says what W says, of a frame whose locals, stack and world are written out; one row an instruction, each out of the kit's row. -/
abbrev GY : Type := va_G × (Nat → ClassId)
abbrev aI (Y : GY) (a n : Nat) (f : Nat → Int32) : Nat × va_E := (a, .inl (Y.2 0, n, .inl f))
abbrev aJ (Y : GY) (a n : Nat) (f : Nat → Int64) : Nat × va_E := (a, .inl (Y.2 1, n, .inr (.inl f)))
abbrev aD (Y : GY) (a n : Nat) (f : Nat → UInt64) : Nat × va_E := (a, .inl (Y.2 2, n, .inr (.inr (.inr (.inl f)))))
abbrev aQ (Y : GY) (a n : Nat) (f : Nat → Option Nat) : Nat × va_E := (a, .inl (Y.2 3, n, .inr (.inr (.inr (.inr f)))))
abbrev oB (a ci : Nat) (fs : List Value) : Nat × va_E := (a, .inr (ci, fs))
abbrev TY (Y : GY) : List (ClassId × FieldType) := [(Y.2 0, .int), (Y.2 1, .long), (Y.2 2, .int), (Y.2 3, .object "SecretDinner$Dinner")]
/-- the two static rows of hand sizes, and what a throw asks of Throwable's statics: nobody writes them -/
def xt_3 : Nat → Int32 := fun k => match k with | 0 => 3 | 1 => 2 | 2 => 2 | 3 => 0 | _ => 1
def xt_4 : Nat → Int32 := fun k => match k with | 0 => 2 | 1 => 2 | 2 => 2 | 3 => 1 | _ => 1
/-- the links between nest mates, as the tables have them -/
def xn_f : List (String × Nat × String × String × String) := [("SecretDinner$Outlook", 32, "SecretDinner$Deals", "row", "[J"), ("SecretDinner", 149, "SecretDinner$Deals", "count", "I"), ("SecretDinner", 54, "SecretDinner$Dinner", "going", "Z"), ("SecretDinner", 137, "SecretDinner$Dinner", "asked", "I"), ("SecretDinner", 146, "SecretDinner$Dinner", "possible", "LSecretDinner$Deals;"), ("SecretDinner", 180, "SecretDinner$Script", "length", "I")]
def xn_m : List (String × Nat × MethodName) := [("SecretDinner", 9, ⟨"SecretDinner$Dinner", "<init>", "()V"⟩), ("SecretDinner$Dinner", 33, ⟨"SecretDinner$Deals", "<init>", "()V"⟩), ("SecretDinner", 22, ⟨"SecretDinner$Deals", "<init>", "()V"⟩), ("SecretDinner", 32, ⟨"SecretDinner$Outlook", "<init>", "()V"⟩), ("SecretDinner", 39, ⟨"SecretDinner$Script", "<init>", "()V"⟩), ("SecretDinner$Dinner", 130, ⟨"SecretDinner", "copyRow", "([I[I)V"⟩), ("SecretDinner$Dinner", 82, ⟨"SecretDinner", "sizeOfHand", "(II)I"⟩), ("SecretDinner$Deals", 43, ⟨"SecretDinner", "sizeOfHand", "(II)I"⟩), ("SecretDinner$Outlook", 28, ⟨"SecretDinner$Deals", "length", "()I"⟩)]
def XN (U : State) : Prop := (∀ q ∈ xn_f, va_Nw (.fieldLinkNest q.1 q.2.1 q.2.2.1 q.2.2.2.1 q.2.2.2.2 "SecretDinner") U) ∧ (∀ q ∈ xn_m, va_Nw (.methodLinkNest q.1 q.2.1 q.2.2 "SecretDinner") U) ∧ va_AO "SecretDinner$Dinner" U
theorem XN.warm {u U : State} (hW : u.WarmedH U.vm) (h : XN u) : XN U := ⟨fun q hq => va_Nw.warmF hW (h.1 q hq), fun q hq => va_Nw.warmM hW (h.2.1 q hq), h.2.2.moved hW.alike⟩
theorem XN.vm {u U : State} (e : u.vm = U.vm) (h : XN u) : XN U := ⟨fun q hq => va_tabs rfl e (h.1 q hq), fun q hq => va_tabs rfl e (h.2.1 q hq), h.2.2.moved (by rw [e]; exact Vm.Alike.refl _)⟩
def XT (A : Nat → Prop) (U : State) (H : Heap) : Prop :=
  (∃ t : Nat, va_Z "SecretDinner" "HANDS_OF_THREE" "[I" (.ref t) A U H ∧ va_T .int t 5 (fun j => .int (xt_3 j)) A U H) ∧
  (∃ t : Nat, va_Z "SecretDinner" "HANDS_OF_FOUR" "[I" (.ref t) A U H ∧ va_T .int t 5 (fun j => .int (xt_4 j)) A U H) ∧
  vx_Zq Bundle.tN "UNASSIGNED_STACK" Bundle.steD A U H ∧ vx_Zq Bundle.tN "SUPPRESSED_SENTINEL" Bundle.listD A U H ∧ XN U
theorem XT.warm {A : Nat → Prop} {u U : State} {H : Heap} (hW : u.WarmedH U.vm) (h : XT A u H) : XT A U H := by
  obtain ⟨⟨t, a1, a2⟩, ⟨t2, b1, b2⟩, c1, d1, e1⟩ := h
  exact ⟨⟨t, a1.moved hW.alike, a2.moved hW.alike⟩, ⟨t2, b1.moved hW.alike, b2.moved hW.alike⟩, c1.moved hW.alike, d1.moved hW.alike, e1.warm hW⟩
theorem XT.vm {A : Nat → Prop} {u U : State} {H : Heap} (e : u.vm = U.vm) (h : XT A u H) : XT A U H := by
  have hvm : u.vm.Alike U.vm := by rw [e]; exact Vm.Alike.refl _
  obtain ⟨⟨t, a1, a2⟩, ⟨t2, b1, b2⟩, c1, d1, e1⟩ := h
  exact ⟨⟨t, a1.moved hvm, a2.moved hvm⟩, ⟨t2, b1.moved hvm, b2.moved hvm⟩, c1.moved hvm, d1.moved hvm, e1.vm e⟩
theorem XT.kept {A : Nat → Prop} {U : State} {H H1 : Heap} (h : XT A U H) (hq : ∀ a : Nat, a < H.size → ¬ A a → H1[a]? = H[a]?) : XT A U H1 := by
  obtain ⟨⟨t, a1, a2⟩, ⟨t2, b1, b2⟩, c1, d1, e1⟩ := h
  exact ⟨⟨t, a1.kept hq, a2.kept hq⟩, ⟨t2, b1.kept hq, b2.kept hq⟩, c1.kept hq, d1.kept hq, e1⟩
theorem XT.narrow {A B : Nat → Prop} {U : State} {H : Heap} (h : XT A U H) (hAB : ∀ q, B q → A q) : XT B U H := by
  obtain ⟨⟨t, a1, a2⟩, ⟨t2, b1, b2⟩, c1, d1, e1⟩ := h
  exact ⟨⟨t, a1.narrow hAB, a2.narrow hAB⟩, ⟨t2, b1.narrow hAB, b2.narrow hAB⟩, c1.narrow hAB, d1.narrow hAB, e1⟩
/-- a method's start: its arguments, its world -/
def PR (Y : GY) (av : List Value) (w : va_W) (sz : Nat) : Array Value → State → Prop := va_Pc av (fun U => U.heap.size = sz ∧ va_P Y.1 vwCl w U.heap ∧ va_K Y.1 vwCl (TY Y) U ∧ va_D (fun _ => True) w ∧ XT (va_A w sz) U U.heap)
/-- a world behind a method -/
def BH (Y : GY) (A : Nat → Prop) (w : va_W) (t : State) : Prop := va_P Y.1 vwCl w t.heap ∧ va_K Y.1 vwCl (TY Y) t ∧ va_D A w
def QI {S : Type} (Y : GY) (post : Int32 → S → Prop) (wf : S → va_W) (A : Nat → Prop) := va_Qi post (fun u t => BH Y A (wf u) t) A
def QL {S : Type} (Y : GY) (post : Int64 → S → Prop) (wf : S → va_W) (A : Nat → Prop) := va_Ql post (fun u t => BH Y A (wf u) t) A
def QD {S : Type} (Y : GY) (post : UInt64 → S → Prop) (wf : S → va_W) (A : Nat → Prop) := va_Qd post (fun u t => BH Y A (wf u) t) A
def QV {S : Type} (Y : GY) (post : S → Prop) (wf : S → va_W) (A : Nat → Prop) := va_Qv post (fun u t => BH Y A (wf u) t) A
def QR {S : Type} (Y : GY) (post : S → Prop) (wf : S → Nat → va_W) (A : Nat → Prop) := va_Qr post (fun u ra t => BH Y A (wf u ra) t) A
/-- a contract -/
def CT (l : Launch) (y : MethodName) (wl : List Cond) (rm : Room) (Y : GY) (av : List Value) (w : va_W) (Qc : (Nat → Prop) → Array Value → State → Outcome → State → Prop) (k n : Nat) : Prop :=
  ∀ sz : Nat, Met l y wl rm (PR Y av w sz) (Qc (va_A w sz)) k n (va_A w sz)

/-! numbers (out of the kit's families BITS, NUMBERS, COUNTS: pasted) -/
/-- a test's answer -/
def p2i (Pr : Prop) [Decidable Pr] : Int32 := if Pr then nI 1 else nI 0
theorem p2i_0 {Pr : Prop} [Decidable Pr] : p2i Pr = 0 ↔ ¬ Pr := by
  unfold p2i
  by_cases h : Pr
  · rw [if_pos h]; exact ⟨fun q => absurd q (by decide), fun q => absurd h q⟩
  · rw [if_neg h]; exact ⟨fun _ => h, fun _ => rfl⟩
theorem p2i_t {Pr : Prop} [Decidable Pr] (h : Pr) : p2i Pr = nI 1 := if_pos h
theorem p2i_f {Pr : Prop} [Decidable Pr] (h : ¬ Pr) : p2i Pr = nI 0 := if_neg h
theorem p2i_nar {Pr : Prop} [Decidable Pr] : narrow .boolean (.int (p2i Pr)) = .int (p2i Pr) := by
  unfold p2i
  by_cases h : Pr
  · rw [if_pos h]; decide
  · rw [if_neg h]; decide
theorem p2i_if {Pr Qr : Prop} [Decidable Pr] [Decidable Qr] (h : Pr ↔ Qr) : p2i Pr = p2i Qr := by
  unfold p2i
  by_cases hp : Pr
  · rw [if_pos hp, if_pos (h.mp hp)]
  · rw [if_neg hp, if_neg (fun z => hp (h.mpr z))]
theorem p2i_1e {Pr : Prop} [Decidable Pr] : p2i Pr = nI 1 ↔ Pr := by
  unfold p2i
  by_cases h : Pr
  · rw [if_pos h]; exact ⟨fun _ => h, fun _ => rfl⟩
  · rw [if_neg h]; exact ⟨fun q => absurd q (by decide), fun q => absurd q h⟩
theorem p2i_0e {Pr : Prop} [Decidable Pr] : p2i Pr = nI 0 ↔ ¬ Pr := p2i_0
theorem p2i_1n {Pr : Prop} [Decidable Pr] (h : ¬ p2i Pr = nI 1) : ¬ Pr := fun z => h (p2i_1e.mpr z)
theorem p2i_0n {Pr : Prop} [Decidable Pr] (h : ¬ p2i Pr = nI 0) : Pr := Decidable.byContradiction fun z => h (p2i_0e.mpr z)
theorem cb_ok {N : Nat} (ty : FieldType) (h : componentBytes ty ≤ 8) (hN : N < 2 ^ 24) : N * componentBytes ty ≤ 536870912 := Nat.le_trans (Nat.mul_le_mul_left N h) (by omega)
theorem lc_0 {x y : Nat} (hx : x < 2 ^ 63) (hy : y < 2 ^ 63) : lg_cmp (lN x) (lN y) = 0 ↔ x = y := by
  rw [lg_cmp_eq]
  exact pk_lEQ hx hy
theorem mminN {x y : Nat} (hx : x < 2 ^ 31) (hy : y < 2 ^ 31) : (if nI y < nI x then nI y else nI x) = nI (Nat.min x y) := by
  by_cases h : y < x
  · rw [if_pos ((nI_ltI hy hx).mpr h), show Nat.min x y = y from Nat.min_eq_right (Nat.le_of_lt h)]
  · rw [if_neg (fun z => h ((nI_ltI hy hx).mp z)), show Nat.min x y = x from Nat.min_eq_left (Nat.not_lt.mp h)]
theorem mmaxN {x y : Nat} (hx : x < 2 ^ 31) (hy : y < 2 ^ 31) : (if nI x < nI y then nI y else nI x) = nI (Nat.max x y) := by
  by_cases h : x < y
  · rw [if_pos ((nI_ltI hx hy).mpr h), show Nat.max x y = y from Nat.max_eq_right (Nat.le_of_lt h)]
  · rw [if_neg (fun z => h ((nI_ltI hx hy).mp z)), show Nat.max x y = x from Nat.max_eq_left (Nat.not_lt.mp h)]

