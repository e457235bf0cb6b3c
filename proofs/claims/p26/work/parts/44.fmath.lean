/-! a quotient of whole numbers is no NaN -/
def dOK (d : FP.Core.Datum) : Prop := match d with
  | .nan => False
  | .inf _ => True
  | .fin _ c q => c < 9007199254740992 ∧ q ≤ 971 ∧ -1074 ≤ q
theorem fq_min : FP.Core.b64.qmin = -1074 := by decide
theorem fq_max : FP.Core.b64.qmax = 971 := by decide
theorem fq_t : FP.Core.b64.tails = 4503599627370496 := by decide
theorem fq_e : FP.Core.b64.exps = 2048 := by decide
theorem fq_p : (2 : Nat) ^ FP.Core.b64.p = 9007199254740992 := by decide
theorem rr_ok (s : Bool) (num den : Nat) (e : Int) : dOK (FP.Core.roundRatio FP.Core.b64 s num den e) := by
  have hq : -1074 ≤ FP.Core.quantum FP.Core.b64 num den e := by
    unfold FP.Core.quantum; rw [fq_min]; exact Int.le_max_left _ _
  unfold FP.Core.roundRatio
  split
  · rw [fq_min]; exact ⟨by decide, by decide, by decide⟩
  · unfold FP.Core.roundAt FP.Core.settle FP.Core.bound
    rw [fq_max, fq_t, fq_p]
    generalize FP.Core.quantum FP.Core.b64 num den e = q at hq ⊢
    generalize FP.Core.nearest _ _ = c
    split
    · split
      · exact ⟨by assumption, by assumption, hq⟩
      · exact trivial
    · split
      · exact ⟨by decide, by assumption, by omega⟩
      · exact trivial
theorem en_ok {d : FP.Core.Datum} (h : dOK d) : ∃ S E T : Nat, S ≤ 1 ∧ E ≤ 2047 ∧ T < 4503599627370496 ∧ (E = 2047 → T = 0) ∧ FP.Core.encode FP.Core.b64 d = (S * 2048 + E) * 4503599627370496 + T := by
  cases d with
  | nan => exact absurd h id
  | inf s =>
    refine ⟨s.toNat, 2047, 0, by cases s <;> decide, by decide, by decide, fun _ => rfl, ?_⟩
    unfold FP.Core.encode FP.Core.assemble
    rw [fq_e, fq_t]
  | fin s c q =>
    obtain ⟨k1, k2, k3⟩ := h
    have hs : s.toNat ≤ 1 := by cases s <;> decide
    unfold FP.Core.encode
    show ∃ S E T : Nat, S ≤ 1 ∧ E ≤ 2047 ∧ T < 4503599627370496 ∧ (E = 2047 → T = 0) ∧ (if c < FP.Core.b64.tails then FP.Core.assemble FP.Core.b64 s 0 c else FP.Core.assemble FP.Core.b64 s ((q - FP.Core.b64.qmin).toNat + 1) (c - FP.Core.b64.tails)) = (S * 2048 + E) * 4503599627370496 + T
    unfold FP.Core.assemble
    rw [fq_e, fq_t, fq_min]
    by_cases hc : c < 4503599627370496
    · exact ⟨s.toNat, 0, c, hs, by decide, hc, fun z => absurd z (by decide), if_pos hc⟩
    · exact ⟨s.toNat, (q - -1074).toNat + 1, c - 4503599627370496, hs, by omega, by omega, fun z => absurd z (by omega), if_neg hc⟩
theorem of64_n {N S E T : Nat} (h1 : S ≤ 1) (h2 : E ≤ 2047) (h3 : T < 4503599627370496) (h : N = (S * 2048 + E) * 4503599627370496 + T) : (UInt64.ofNat N).toNat = N := by
  rw [UInt64.toNat_ofNat']; exact Nat.mod_eq_of_lt (by show N < 18446744073709551616; omega)
theorem nn_ok {d : FP.Core.Datum} (h : dOK d) : vf_n64 (UInt64.ofNat (FP.Core.encode FP.Core.b64 d)) := by
  obtain ⟨S, E, T, h1, h2, h3, h4, h5⟩ := en_ok h
  have e1 : (0x7fffffffffffffff : UInt64).toNat = 2 ^ 63 - 1 := by decide
  have e2 : (0x7ff0000000000000 : UInt64).toNat = 9218868437227405312 := by decide
  unfold vf_n64
  rw [UInt64.le_iff_toNat_le, UInt64.toNat_and, e1, e2, Nat.and_two_pow_sub_one_eq_mod, of64_n h1 h2 h3 h5, h5]
  show _ % 9223372036854775808 ≤ _
  by_cases e : E = 2047
  · have := h4 e; omega
  · omega
theorem dec_ok {d : FP.Core.Datum} (h : dOK d) : FP.Core.decode FP.Core.b64 (UInt64.ofNat (FP.Core.encode FP.Core.b64 d)).toNat ≠ .nan := by
  obtain ⟨S, E, T, h1, h2, h3, h4, h5⟩ := en_ok h
  rw [of64_n h1 h2 h3 h5, h5]
  have hE : FP.Core.fieldE FP.Core.b64 ((S * 2048 + E) * 4503599627370496 + T) = E := by
    unfold FP.Core.fieldE; rw [fq_t, fq_e]; omega
  have hT : FP.Core.fieldT FP.Core.b64 ((S * 2048 + E) * 4503599627370496 + T) = T := by
    unfold FP.Core.fieldT; rw [fq_t]; omega
  unfold FP.Core.decode
  rw [hE, hT, fq_e]
  by_cases e : E = 2047
  · rw [if_pos (show E = 2048 - 1 by omega), if_pos (h4 e)]; intro z; cases z
  · rw [if_neg (show ¬ E = 2048 - 1 by omega)]; split <;> intro z <;> cases z
def posF (d : FP.Core.Datum) : Bool := match d with
  | .fin _ c _ => !(c == 0)
  | _ => false
theorem i2d_p2 : ∀ i, i < 72 → ∀ j, j < 72 → 0 < 72 * i + j → posF (FP.Core.decode FP.Core.b64 (FP.i2d (nI (72 * i + j))).toNat) = true := by decide +kernel
theorem i2d_pos {b : Nat} (h0 : 0 < b) (h : b ≤ 5040) : posF (FP.Core.decode FP.Core.b64 (FP.i2d (nI b)).toNat) = true := by
  have h1 := i2d_p2 (b / 72) (by omega) (b % 72) (by omega) (by omega)
  rwa [Nat.div_add_mod] at h1
theorem ddiv_nn (x : Int32) {b : Nat} (h0 : 0 < b) (hb : b ≤ 5040) : vf_n64 (FP.ddiv (FP.i2d x) (FP.i2d (nI b))) := by
  have hx : FP.Core.decode FP.Core.b64 (FP.i2d x).toNat ≠ .nan := dec_ok (rr_ok _ _ _ _)
  have hy := i2d_pos h0 hb
  show vf_n64 (UInt64.ofNat (FP.Core.encode FP.Core.b64 (FP.Core.quotient FP.Core.b64 (FP.Core.decode FP.Core.b64 (FP.i2d x).toNat) (FP.Core.decode FP.Core.b64 (FP.i2d (nI b)).toNat))))
  refine nn_ok ?_
  generalize FP.Core.decode FP.Core.b64 (FP.i2d x).toNat = X at hx ⊢
  generalize FP.Core.decode FP.Core.b64 (FP.i2d (nI b)).toNat = Z at hy ⊢
  cases Z with
  | nan => cases hy
  | inf t => cases hy
  | fin t d r =>
    have hd : ¬ d = 0 := fun z => by subst z; cases hy
    cases X with
    | nan => exact absurd rfl hx
    | inf q => exact trivial
    | fin q c1 r1 =>
      show dOK (if d = 0 then _ else _)
      rw [if_neg hd]
      exact rr_ok _ _ _ _
def shN (a b : Nat) : UInt64 := if b = 0 then FP.dconst0 else FP.ddiv (FP.i2d (nI a)) (FP.i2d (nI b))
section JL
variable {p : Program} {l : Launch} {e : Env} {R : Room} {s : State} {m : MethodId} {args : Array Value} {below : List Frame} {meth : Method} {c : Code} {k n : Nat} {Q : State → Prop}
variable {Y : GY} {A : Nat → Prop} {nL : Nat} {own : String} {cc : ByteArray} {Ts : List Cond}
variable {pc : Nat} {lv : List (Nat × Value)} {st : List Value} {ws : va_W}
theorem J_ddiv (C : JC p s m args meth c Y A nL own cc Ts) {x y : UInt64} (d : decode cc pc = .ok (.ddiv, 1)) (hne : vf_n64 (FP.ddiv x y)) (h : J p l e R s m args below meth c Q Y A nL k n (pc + 1) lv (.double (FP.ddiv x y) :: st) ws) : J p l e R s m args below meth c Q Y A nL k n pc lv (.double y :: .double x :: st) ws := fun H locs ls hP hD hS hl => lv_ddiv C.x C.b d hne (h H locs ls hP hD hS hl)
end JL
/-! rows for the law -/
section JL
variable {p : Program} {l : Launch} {e : Env} {R : Room} {s : State} {m : MethodId} {args : Array Value} {below : List Frame} {meth : Method} {c : Code} {k n : Nat} {Q : State → Prop}
variable {Y : GY} {A : Nat → Prop} {nL : Nat} {own : String} {cc : ByteArray} {Ts : List Cond}
variable {pc : Nat} {lv : List (Nat × Value)} {st : List Value} {ws : va_W}
theorem J_dcmpl (C : JC p s m args meth c Y A nL own cc Ts) {x y : UInt64} (d : decode cc pc = .ok (.dcmp .l, 1)) (h : J p l e R s m args below meth c Q Y A nL k n (pc + 1) lv (.int (cmpValue (FP.dcmp x y) .l) :: st) ws) : J p l e R s m args below meth c Q Y A nL k n pc lv (.double y :: .double x :: st) ws := by
  intro H locs ls hP hD hS hl T hT X
  obtain ⟨t, a, b⟩ := h H locs ls hP hD hS hl T hT X
  refine ⟨t, ?_, b⟩
  have hx := C.x
  have hb := C.b
  jvm_step X.here [X.here.top, hx, hb, d, Op.dcmp.wp_sem]
  exact a
end JL
theorem lcs (x : Int64) : lg_cmp x x = nI 0 := by show lg_cmp x x = 0; rw [lg_cmp_eq]
/-! a quotient of whole numbers beside itself -/
theorem ord_self {d : FP.Core.Datum} (h : d ≠ .nan) : FP.Core.order d d = some .eq := by
  have key : ∀ z : Int, compare z z = Ordering.eq := fun z => by
    show compareOfLessAndEq z z = .eq
    unfold compareOfLessAndEq
    rw [if_neg (Int.lt_irrefl z), if_pos rfl]
  cases d with
  | nan => exact absurd rfl h
  | inf s => show some (compare _ _) = _; rw [key]
  | fin s c q => show some (compare _ _) = _; rw [key]
theorem dcs {a : UInt64} (h : FP.Core.decode FP.Core.b64 a.toNat ≠ .nan) : cmpValue (FP.dcmp a a) .l = nI 0 := by
  have e : FP.dcmp a a = some .eq := ord_self h
  rw [e]; rfl
theorem ddiv_dec (x : Int32) {b : Nat} (h0 : 0 < b) (hb : b ≤ 5040) : FP.Core.decode FP.Core.b64 (FP.ddiv (FP.i2d x) (FP.i2d (nI b))).toNat ≠ .nan := by
  have hx : FP.Core.decode FP.Core.b64 (FP.i2d x).toNat ≠ .nan := dec_ok (rr_ok _ _ _ _)
  have hy := i2d_pos h0 hb
  show FP.Core.decode FP.Core.b64 (UInt64.ofNat (FP.Core.encode FP.Core.b64 (FP.Core.quotient FP.Core.b64 (FP.Core.decode FP.Core.b64 (FP.i2d x).toNat) (FP.Core.decode FP.Core.b64 (FP.i2d (nI b)).toNat)))).toNat ≠ .nan
  refine dec_ok ?_
  generalize FP.Core.decode FP.Core.b64 (FP.i2d x).toNat = X at hx ⊢
  generalize FP.Core.decode FP.Core.b64 (FP.i2d (nI b)).toNat = Z at hy ⊢
  cases Z with
  | nan => cases hy
  | inf t => cases hy
  | fin t d r =>
    have hd : ¬ d = 0 := fun z => by subst z; cases hy
    cases X with
    | nan => exact absurd rfl hx
    | inf q => exact trivial
    | fin q c1 r1 =>
      show dOK (if d = 0 then _ else _)
      rw [if_neg hd]
      exact rr_ok _ _ _ _
theorem shN_dec (a : Nat) {b : Nat} (hb : b ≤ 5040) : FP.Core.decode FP.Core.b64 (shN a b).toNat ≠ .nan := by
  unfold shN
  split
  · decide +kernel
  · exact ddiv_dec _ (by omega) hb
/-- the same quotient, by the class and by the law -/
theorem sh_0 {a b : Nat} (h : b = 0) : shN a b = FP.dconst0 := if_pos h
theorem sh_n {a b : Nat} (h : ¬ b = 0) : shN a b = FP.ddiv (FP.i2d (nI a)) (FP.i2d (nI b)) := if_neg h
