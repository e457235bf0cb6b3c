/-! a quotient of whole numbers is no NaN -/
def dOK (d : FP.Core.Datum) : Prop := match d with
  | .nan => False
  | .inf _ => True
  | .fin _ c q => c < 9007199254740992 ∧ q ≤ 971 ∧ -1074 ≤ q
theorem fq_min : FP.Core.b64.qmin = -1074 := by decide
theorem fq_max : FP.Core.b64.qmax = 971 := by decide
theorem fq_t : FP.Core.b64.tails = 4503599627370496 := by decide
theorem fq_e : FP.Core.b64.exps = 2048 := by decide
theorem fq_p : (2 : Nat) ^ FP.Core.b64.p = 9007199254740992 := by decide
theorem rr_ok (s : Bool) (num den : Nat) (e : Int) : dOK (FP.Core.roundRatio FP.Core.b64 s num den e) := by
  have hq : -1074 ≤ FP.Core.quantum FP.Core.b64 num den e := by
    unfold FP.Core.quantum; rw [fq_min]; exact Int.le_max_left _ _
  unfold FP.Core.roundRatio
  split
  · rw [fq_min]; exact ⟨by decide, by decide, by decide⟩
  · unfold FP.Core.roundAt FP.Core.settle FP.Core.bound
    rw [fq_max, fq_t, fq_p]
    generalize FP.Core.quantum FP.Core.b64 num den e = q at hq ⊢
    generalize FP.Core.nearest _ _ = c
    split
    · split
      · exact ⟨by assumption, by assumption, hq⟩
      · exact trivial
    · split
      · exact ⟨by decide, by assumption, by omega⟩
      · exact trivial
theorem en_ok {d : FP.Core.Datum} (h : dOK d) : ∃ S E T : Nat, S ≤ 1 ∧ E ≤ 2047 ∧ T < 4503599627370496 ∧ (E = 2047 → T = 0) ∧ FP.Core.encode FP.Core.b64 d = (S * 2048 + E) * 4503599627370496 + T := by
  cases d with
  | nan => exact absurd h id
  | inf s =>
    refine ⟨s.toNat, 2047, 0, by cases s <;> decide, by decide, by decide, fun _ => rfl, ?_⟩
    unfold FP.Core.encode FP.Core.assemble
    rw [fq_e, fq_t]
  | fin s c q =>
    obtain ⟨k1, k2, k3⟩ := h
    have hs : s.toNat ≤ 1 := by cases s <;> decide
    unfold FP.Core.encode
    show ∃ S E T : Nat, S ≤ 1 ∧ E ≤ 2047 ∧ T < 4503599627370496 ∧ (E = 2047 → T = 0) ∧ (if c < FP.Core.b64.tails then FP.Core.assemble FP.Core.b64 s 0 c else FP.Core.assemble FP.Core.b64 s ((q - FP.Core.b64.qmin).toNat + 1) (c - FP.Core.b64.tails)) = (S * 2048 + E) * 4503599627370496 + T
    unfold FP.Core.assemble
    rw [fq_e, fq_t, fq_min]
    by_cases hc : c < 4503599627370496
    · exact ⟨s.toNat, 0, c, hs, by decide, hc, fun z => absurd z (by decide), if_pos hc⟩
    · exact ⟨s.toNat, (q - -1074).toNat + 1, c - 4503599627370496, hs, by omega, by omega, fun z => absurd z (by omega), if_neg hc⟩
theorem of64_n {N S E T : Nat} (h1 : S ≤ 1) (h2 : E ≤ 2047) (h3 : T < 4503599627370496) (h : N = (S * 2048 + E) * 4503599627370496 + T) : (UInt64.ofNat N).toNat = N := by
  rw [UInt64.toNat_ofNat']; exact Nat.mod_eq_of_lt (by show N < 18446744073709551616; omega)
theorem nn_ok {d : FP.Core.Datum} (h : dOK d) : vf_n64 (UInt64.ofNat (FP.Core.encode FP.Core.b64 d)) := by
  obtain ⟨S, E, T, h1, h2, h3, h4, h5⟩ := en_ok h
  have e1 : (0x7fffffffffffffff : UInt64).toNat = 2 ^ 63 - 1 := by decide
  have e2 : (0x7ff0000000000000 : UInt64).toNat = 9218868437227405312 := by decide
  unfold vf_n64
  rw [UInt64.le_iff_toNat_le, UInt64.toNat_and, e1, e2, Nat.and_two_pow_sub_one_eq_mod, of64_n h1 h2 h3 h5, h5]
  show _ % 9223372036854775808 ≤ _
  by_cases e : E = 2047
  · have := h4 e; omega
  · omega
theorem dec_ok {d : FP.Core.Datum} (h : dOK d) : FP.Core.decode FP.Core.b64 (UInt64.ofNat (FP.Core.encode FP.Core.b64 d)).toNat ≠ .nan := by
  obtain ⟨S, E, T, h1, h2, h3, h4, h5⟩ := en_ok h
  rw [of64_n h1 h2 h3 h5, h5]
  have hE : FP.Core.fieldE FP.Core.b64 ((S * 2048 + E) * 4503599627370496 + T) = E := by
    unfold FP.Core.fieldE; rw [fq_t, fq_e]; omega
  have hT : FP.Core.fieldT FP.Core.b64 ((S * 2048 + E) * 4503599627370496 + T) = T := by
    unfold FP.Core.fieldT; rw [fq_t]; omega
  unfold FP.Core.decode
  rw [hE, hT, fq_e]
  by_cases e : E = 2047
  · rw [if_pos (show E = 2048 - 1 by omega), if_pos (h4 e)]; intro z; cases z
  · rw [if_neg (show ¬ E = 2048 - 1 by omega)]; split <;> intro z <;> cases z
def posF (d : FP.Core.Datum) : Bool := match d with
  | .fin _ c _ => !(c == 0)
  | _ => false
theorem i2d_p2 : ∀ i, i < 72 → ∀ j, j < 72 → 0 < 72 * i + j → posF (FP.Core.decode FP.Core.b64 (FP.i2d (nI (72 * i + j))).toNat) = true := by decide +kernel
theorem i2d_pos {b : Nat} (h0 : 0 < b) (h : b ≤ 5040) : posF (FP.Core.decode FP.Core.b64 (FP.i2d (nI b)).toNat) = true := by
  have h1 := i2d_p2 (b / 72) (by omega) (b % 72) (by omega) (by omega)
  rwa [Nat.div_add_mod] at h1
theorem ddiv_nn (x : Int32) {b : Nat} (h0 : 0 < b) (hb : b ≤ 5040) : vf_n64 (FP.ddiv (FP.i2d x) (FP.i2d (nI b))) := by
  have hx : FP.Core.decode FP.Core.b64 (FP.i2d x).toNat ≠ .nan := dec_ok (rr_ok _ _ _ _)
  have hy := i2d_pos h0 hb
  show vf_n64 (UInt64.ofNat (FP.Core.encode FP.Core.b64 (FP.Core.quotient FP.Core.b64 (FP.Core.decode FP.Core.b64 (FP.i2d x).toNat) (FP.Core.decode FP.Core.b64 (FP.i2d (nI b)).toNat))))
  refine nn_ok ?_
  generalize FP.Core.decode FP.Core.b64 (FP.i2d x).toNat = X at hx ⊢
  generalize FP.Core.decode FP.Core.b64 (FP.i2d (nI b)).toNat = Z at hy ⊢
  cases Z with
  | nan => cases hy
  | inf t => cases hy
  | fin t d r =>
    have hd : ¬ d = 0 := fun z => by subst z; cases hy
    cases X with
    | nan => exact absurd rfl hx
    | inf q => exact trivial
    | fin q c1 r1 =>
      show dOK (if d = 0 then _ else _)
      rw [if_neg hd]
      exact rr_ok _ _ _ _
def shN (a b : Nat) : UInt64 := if b = 0 then FP.dconst0 else FP.ddiv (FP.i2d (nI a)) (FP.i2d (nI b))
section JL
variable {p : Program} {l : Launch} {e : Env} {R : Room} {s : State} {m : MethodId} {args : Array Value} {below : List Frame} {meth : Method} {c : Code} {k n : Nat} {Q : State → Prop}
variable {Y : GY} {A : Nat → Prop} {nL : Nat} {own : String} {cc : ByteArray} {Ts : List Cond}
variable {pc : Nat} {lv : List (Nat × Value)} {st : List Value} {ws : va_W}
theorem J_ddiv (C : JC p s m args meth c Y A nL own cc Ts) {x y : UInt64} (d : decode cc pc = .ok (.ddiv, 1)) (hne : vf_n64 (FP.ddiv x y)) (h : J p l e R s m args below meth c Q Y A nL k n (pc + 1) lv (.double (FP.ddiv x y) :: st) ws) : J p l e R s m args below meth c Q Y A nL k n pc lv (.double y :: .double x :: st) ws := fun H locs ls hP hD hS hl => lv_ddiv C.x C.b d hne (h H locs ls hP hD hS hl)
end JL
/-! an evening's beginning in the row of numbers -/
/-- the free places of k guests from g on -/
def frK (n : Nat) (hd : Nat → Nat) : Nat → Nat → Nat
  | 0, _ => 0
  | k + 1, g => (szH n g - pc8 (hd g)) + frK n hd k (g + 1)
theorem hoG_lt {n : Nat} {hd : Nat → Nat} {pl : Nat} : ∀ k g b, b ≤ pl → pl < b + frK n hd k g → hoG n hd pl k g b < g + k := by
  intro k
  induction k with
  | zero => intro g b h1 h2; exact absurd h2 (by show ¬ pl < b + 0; omega)
  | succ k ih =>
    intro g b h1 h2
    by_cases e : pl < b + (szH n g - pc8 (hd g))
    · rw [hoG_t (by omega) e]; omega
    · rw [hoG_s (by omega) (by omega)]
      have h3 := ih (g + 1) (b + (szH n g - pc8 (hd g))) (by omega) (by have h4 : pl < b + ((szH n g - pc8 (hd g)) + frK n hd k (g + 1)) := h2; omega)
      show hoG n hd pl k (g + 1) _ < _
      omega
theorem hoG_cg {n : Nat} {hd hd' : Nat → Nat} {pl : Nat} : ∀ k g b, (∀ i, i < g + k → hd i = hd' i) → hoG n hd pl k g b = hoG n hd' pl k g b := by
  intro k
  induction k with
  | zero => intro g b _; rfl
  | succ k ih =>
    intro g b h
    show (if _ then _ else _) = (if _ then _ else _)
    rw [h g (by omega), ih (g + 1) _ (fun i hi => h i (by omega))]
theorem frK_lo {n G x : Nat} {hd : Nat → Nat} : ∀ k g, G < g → frK n (va_up hd G x) k g = frK n hd k g := by
  intro k
  induction k with
  | zero => intro g _; rfl
  | succ k ih =>
    intro g h
    show (szH n g - pc8 (va_up hd G x g)) + frK n (va_up hd G x) k (g + 1) = (szH n g - pc8 (hd g)) + frK n hd k (g + 1)
    rw [ih (g + 1) (by omega), vuN (show ¬ g = G by omega)]
theorem frK_up {n G x : Nat} {hd : Nat → Nat} (hx : pc8 x = pc8 (hd G) + 1) (hG : pc8 (hd G) < szH n G) : ∀ k g, g ≤ G → G < g + k → frK n (va_up hd G x) k g + 1 = frK n hd k g := by
  intro k
  induction k with
  | zero => intro g h1 h2; omega
  | succ k ih =>
    intro g h1 h2
    show (szH n g - pc8 (va_up hd G x g)) + frK n (va_up hd G x) k (g + 1) + 1 = (szH n g - pc8 (hd g)) + frK n hd k (g + 1)
    by_cases e : g = G
    · subst e; rw [vuS, frK_lo k (g + 1) (by omega), hx]; omega
    · rw [vuN e, ← ih (g + 1) (by omega) (by omega)]; omega
theorem giv_in {n : Nat} {hd : Nat → Nat} {c pl : Nat} (h : hoG n hd pl n 0 0 < n) : giv n hd c pl = va_up hd (hoG n hd pl n 0 0) (hd (hoG n hd pl n 0 0) ||| 1 * 2 ^ c) := if_pos h
theorem dl_sum {n cul s0 : Nat} (hn : n = 3 ∨ n = 4) (hs : s0 < 2147483648) (hc : cul < 8) : ∀ c, c ≤ 8 → frK n (dlS n cul s0 c).2.1 n 0 = (dlS n cul s0 c).2.2 ∧ (c < 8 → ¬ c = cul → hoG n (dlS n cul s0 c).2.1 (drw (dlS n cul s0 c).1 (dlS n cul s0 c).2.2) n 0 0 < n) := by
  intro c
  have pos : ∀ c, c ≤ 8 → frK n (dlS n cul s0 c).2.1 n 0 = (dlS n cul s0 c).2.2 → c < 8 → ¬ c = cul → hoG n (dlS n cul s0 c).2.1 (drw (dlS n cul s0 c).1 (dlS n cul s0 c).2.2) n 0 0 < n := by
    intro c hle h h8 e
    have h1 := (dl_pos (dl_inv (n := n) (s0 := s0) hs hc c hle) e h8 hc).1
    have h2 := hoG_lt (n := n) (hd := (dlS n cul s0 c).2.1) (pl := drw (dlS n cul s0 c).1 (dlS n cul s0 c).2.2) n 0 0 (Nat.zero_le _) (by rw [Nat.zero_add, h]; exact drw_lt _ h1)
    rwa [Nat.zero_add] at h2
  induction c with
  | zero =>
    intro _
    have h0 : frK n (dlS n cul s0 0).2.1 n 0 = (dlS n cul s0 0).2.2 := by rcases hn with rfl | rfl <;> (show frK _ (fun _ => 0) _ 0 = 7; decide)
    exact ⟨h0, pos 0 (by omega) h0⟩
  | succ c ih =>
    intro hle
    obtain ⟨i1, i2⟩ := ih (by omega)
    have key : frK n (dlS n cul s0 (c + 1)).2.1 n 0 = (dlS n cul s0 (c + 1)).2.2 := by
      by_cases e : c = cul
      · rw [dlS_c e]; exact i1
      · have hG := i2 (by omega) e
        have hI := dl_inv (n := n) (s0 := s0) hs hc c (by omega)
        have hp := (dl_pos hI e (by omega) hc).1
        rw [dlS_n e]
        show frK n (giv n (dlS n cul s0 c).2.1 c (drw (dlS n cul s0 c).1 (dlS n cul s0 c).2.2)) n 0 = (dlS n cul s0 c).2.2 - 1
        rw [giv_in hG]
        have hin : pc8 ((dlS n cul s0 c).2.1 (hoG n (dlS n cul s0 c).2.1 (drw (dlS n cul s0 c).1 (dlS n cul s0 c).2.2) n 0 0)) < szH n (hoG n (dlS n cul s0 c).2.1 (drw (dlS n cul s0 c).1 (dlS n cul s0 c).2.2) n 0 0) := by
          rcases hoG_in n 0 0 (Nat.lt_of_lt_of_eq hG (Nat.zero_add n).symm) with q | q
          · exact q
          · omega
        have h3 := frK_up (n := n) (pc8_or (c := c) (by omega) (hI.2.1 _)) hin n 0 (Nat.zero_le _) (by rw [Nat.zero_add]; exact hG)
        omega
    exact ⟨key, pos (c + 1) hle key⟩
/-- the row while the cards are dealt -/
def bgR (W : Nat → Nat) (p : Nat × (Nat → Nat) × Nat) : Nat → Nat := fun j => if j = 3 then p.1 else if 13 ≤ j ∧ j < 17 then p.2.1 (j - 13) else W j
/-- .. with the hands' sizes of the first g guests -/
def bgW (nw : Nat → Nat) (n s g : Nat) : Nat → Nat := fun j => if j = 0 then n else if j = 1 then 1 else if j = 3 then s else if j < 7 then nw j else if 9 ≤ j ∧ j < 9 + g then szH n (j - 9) else if 17 ≤ j ∧ j < 17 + g then 1 else 0
def bgV (nw : Nat → Nat) (n s : Nat) : Nat → Nat := fun j => if j = 3 then lcg s else if j = 2 then drw s 8 else bgW nw n s n j
def bg1 (nw : Nat → Nat) (n s : Nat) : Nat → Nat := va_up (va_up (va_up (va_up (va_up nw 3 s) 0 n) 1 1) 7 0) 8 0
def bgN (n : Nat) (nw : Nat → Nat) (z : Int) : Nat → Nat := bgR (bgV nw n (opS (fun _ => nw 3) z)) (opD n (fun _ => nw 3) z)
theorem bg_z {nw w : Nat → Nat} {n s k : Nat} (h1 : ∀ j, j < 9 → w j = bg1 nw n s j) (h2 : ∀ j, 9 ≤ j → j < k → w j = 0) (hk : 101 ≤ k) : ∀ j, j < 101 → w j = bgW nw n s 0 j := by
  intro j hj
  by_cases e : j < 9
  · rw [h1 j e]
    rcases (show j = 0 ∨ j = 1 ∨ j = 2 ∨ j = 3 ∨ j = 4 ∨ j = 5 ∨ j = 6 ∨ j = 7 ∨ j = 8 by omega) with rfl | rfl | rfl | rfl | rfl | rfl | rfl | rfl | rfl <;> rfl
  · rw [h2 j (by omega) (by omega)]
    unfold bgW
    rw [if_neg (by omega), if_neg (by omega), if_neg (by omega), if_neg (by omega), if_neg (by omega), if_neg (by omega)]
theorem bgW_s {nw : Nat → Nat} {n s g : Nat} (hg : g < 4) : va_up (va_up (bgW nw n s g) (9 + g) (szH n g)) (17 + g) 1 = bgW nw n s (g + 1) := by
  funext j
  unfold va_up bgW
  by_cases e1 : j = 17 + g
  · rw [if_pos e1, if_neg (by omega), if_neg (by omega), if_neg (by omega), if_neg (by omega), if_neg (by omega), if_pos (by omega)]
  · rw [if_neg e1]
    by_cases e2 : j = 9 + g
    · rw [if_pos e2, if_neg (by omega), if_neg (by omega), if_neg (by omega), if_neg (by omega), if_pos (by omega), show j - 9 = g by omega]
    · rw [if_neg e2]
      by_cases a0 : j = 0
      · rw [if_pos a0, if_pos a0]
      · rw [if_neg a0, if_neg a0]
        by_cases a1 : j = 1
        · rw [if_pos a1, if_pos a1]
        · rw [if_neg a1, if_neg a1]
          by_cases a3 : j = 3
          · rw [if_pos a3, if_pos a3]
          · rw [if_neg a3, if_neg a3]
            by_cases a7 : j < 7
            · rw [if_pos a7, if_pos a7]
            · rw [if_neg a7, if_neg a7]
              by_cases a9 : 9 ≤ j ∧ j < 9 + g
              · rw [if_pos a9, if_pos (by omega)]
              · rw [if_neg a9, if_neg (show ¬ (9 ≤ j ∧ j < 9 + (g + 1)) by omega)]
                by_cases b7 : 17 ≤ j ∧ j < 17 + g
                · rw [if_pos b7, if_pos (by omega)]
                · rw [if_neg b7, if_neg (by omega)]
theorem bgW_3 (nw : Nat → Nat) (n s g : Nat) : bgW nw n s g 3 = s := rfl
theorem bgV_ok (nw : Nat → Nat) (n s : Nat) : va_up (va_up (bgW nw n s n) 3 (lcg (bgW nw n s n 3))) 2 (drw (bgW nw n s n 3) 8) = bgV nw n s := by
  funext j
  unfold va_up bgV
  rw [bgW_3]
  by_cases e2 : j = 2
  · rw [if_pos e2, if_neg (by omega), if_pos e2]
  · rw [if_neg e2]
    by_cases e3 : j = 3
    · rw [if_pos e3, if_pos e3]
    · rw [if_neg e3, if_neg e3, if_neg e2]
theorem bgV_h {nw : Nat → Nat} {n s j : Nat} (hn : n ≤ 4) (h : 13 ≤ j ∧ j < 17) : bgV nw n s j = 0 := by
  unfold bgV bgW
  rw [if_neg (by omega), if_neg (by omega), if_neg (by omega), if_neg (by omega), if_neg (by omega), if_neg (by omega), if_neg (by omega), if_neg (by omega)]
theorem bgV_z {nw : Nat → Nat} {n s g : Nat} (hg : g < n) : bgV nw n s (9 + g) = szH n g := by
  unfold bgV bgW
  rw [if_neg (by omega), if_neg (by omega), if_neg (by omega), if_neg (by omega), if_neg (by omega), if_neg (by omega), if_pos (by omega), show 9 + g - 9 = g by omega]
theorem bg_0 {nw : Nat → Nat} {n s cul : Nat} (hn : n ≤ 4) : bgV nw n s = bgR (bgV nw n s) (dlS n cul (lcg s) 0) := by
  funext j
  unfold bgR
  by_cases e3 : j = 3
  · subst e3
    have e9 : (dlS n cul (lcg s) 0).1 = lcg s := rfl
    rw [if_pos rfl, e9]
    exact if_pos rfl
  · rw [if_neg e3]
    by_cases h : 13 ≤ j ∧ j < 17
    · rw [if_pos h]; exact bgV_h hn h
    · rw [if_neg h]
theorem bgR_3 (W : Nat → Nat) (p : Nat × (Nat → Nat) × Nat) : bgR W p 3 = p.1 := if_pos rfl
theorem bgR_h {W : Nat → Nat} {p : Nat × (Nat → Nat) × Nat} {g : Nat} (hg : g < 4) : bgR W p (13 + g) = p.2.1 g := by
  unfold bgR; rw [if_neg (by omega), if_pos (by omega), show 13 + g - 13 = g by omega]
theorem bgR_z {nw : Nat → Nat} {n s g : Nat} {p : Nat × (Nat → Nat) × Nat} (hg : g < n) (hn : n ≤ 4) : bgR (bgV nw n s) p (9 + g) = szH n g := by
  unfold bgR; rw [if_neg (by omega), if_neg (by omega)]; exact bgV_z hg
theorem bgr_h {W : Nat → Nat} {p : Nat × (Nat → Nat) × Nat} {x g : Nat} (hg : g < 4) : va_up (bgR W p) 3 x (13 + g) = p.2.1 g := by
  rw [vuN (by omega)]; exact bgR_h hg
theorem bgr_z {nw : Nat → Nat} {n s x g : Nat} {p : Nat × (Nat → Nat) × Nat} (hg : g < n) (hn : n ≤ 4) : va_up (bgR (bgV nw n s) p) 3 x (9 + g) = szH n g := by
  rw [vuN (by omega)]; exact bgR_z hg hn
theorem bgr_G {W : Nat → Nat} {p : Nat × (Nat → Nat) × Nat} {x n pl : Nat} (hn : n ≤ 4) : hoG n (fun g => va_up (bgR W p) 3 x (13 + g)) pl n 0 0 = hoG n p.2.1 pl n 0 0 := hoG_cg n 0 0 (fun i hi => bgr_h (by omega))
theorem bg_step {n c pl : Nat} {W : Nat → Nat} {p : Nat × (Nat → Nat) × Nat} (hn : n ≤ 4) (hG : hoG n p.2.1 pl n 0 0 < n) : dlM (va_up (bgR W p) 3 (lcg (bgR W p 3))) n c pl = bgR W (lcg p.1, giv n p.2.1 c pl, p.2.2 - 1) := by
  rw [dlM_g (bgr_G hn), giv_in hG]
  generalize hoG n p.2.1 pl n 0 0 = G at hG
  rw [bgr_h (show G < 4 by omega)]
  funext j
  show va_up (va_up (bgR W p) 3 (lcg (bgR W p 3))) (13 + G) _ j = _
  by_cases e : j = 13 + G
  · subst e; rw [vuS, bgR_h (show G < 4 by omega)]; exact (vuS _ _ _).symm
  · rw [vuN e]
    by_cases e3 : j = 3
    · subst e3; rw [vuS, bgR_3, bgR_3]
    · rw [vuN e3]
      unfold bgR
      rw [if_neg e3, if_neg e3]
      by_cases h : 13 ≤ j ∧ j < 17
      · rw [if_pos h, if_pos h]; exact (vuN (by omega)).symm
      · rw [if_neg h, if_neg h]
theorem bg_9 {nw : Nat → Nat} {n s : Nat} {p : Nat × (Nat → Nat) × Nat} (hn : n = 3 ∨ n = 4) : bgR (bgV nw n s) p 9 = szH n 0 := by
  have h := bgR_z (nw := nw) (s := s) (p := p) (n := n) (g := 0) (by omega) (by omega)
  exact h
theorem bg_2 {nw : Nat → Nat} {n s : Nat} {p : Nat × (Nat → Nat) × Nat} : bgR (bgV nw n s) p 2 = drw s 8 := rfl
theorem in_s {c : Int32} : ((iZ (-1)).toInt ≤ c.toInt ∧ c.toInt ≤ (nI 999999).toInt) ↔ (-1 ≤ c.toInt ∧ c.toInt ≤ 999999) := by
  rw [iZT (by decide), nI_toInt (by decide)]; omega
theorem in_sZ {z : Int} (hz : -1 ≤ z ∧ z ≤ 999999) : ((iZ (-1)).toInt ≤ (iZ z).toInt ∧ (iZ z).toInt ≤ (nI 999999).toInt) ↔ (-1 ≤ z ∧ z ≤ 999999) := by
  rw [iZT (by decide), iZT (by omega), nI_toInt (by decide)]; omega
/-! the items of a text are played -/
/-- what the contracts want of the row of numbers -/
def GN (nw : Nat → Nat) : Prop := nw 0 ≤ 4 ∧ (∀ k, k = 1 ∨ k = 7 ∨ 17 ≤ k ∧ k ≤ 24 → nw k < 2147483648) ∧ (∀ g, g < 4 → nw (9 + g) ≤ 3) ∧ (∀ g, g < 4 → nw (13 + g) < 256)
theorem GN_up {nw : Nat → Nat} {k x : Nat} (h : GN nw) (h0 : k = 7 ∨ k = 8 ∨ 17 ≤ k) (hx : k = 7 ∨ 17 ≤ k ∧ k ≤ 24 → x < 2147483648) : GN (va_up nw k x) := by
  obtain ⟨a, b, d, e⟩ := h
  refine ⟨by rw [vuN (by omega)]; exact a, fun i hi => ?_, fun g hg => by rw [vuN (by omega)]; exact d g hg, fun g hg => by rw [vuN (by omega)]; exact e g hg⟩
  by_cases q : i = k
  · subst q; rw [vuS]; exact hx (by omega)
  · rw [vuN q]; exact b i hi
theorem lieN_7 (nw : Nat → Nat) (g : Nat) (Lp : Prop) [Decidable Lp] : lieN nw g Lp 7 = nw 7 := by
  unfold lieN; split
  · exact vuN (by omega)
  · rfl
theorem GN_ask {nw : Nat → Nat} {g cards ans : Nat} {Lp : Prop} [Decidable Lp] (h : GN nw) (h7 : nw 7 < 20) : GN (askN nw g cards ans Lp) := by
  have h1 : GN (lieN nw g Lp) := by
    unfold lieN; split
    · exact GN_up h (by omega) (fun _ => by decide)
    · exact h
  have e7 := lieN_7 nw g Lp
  unfold askN asB asA
  generalize lieN nw g Lp = w at h1 e7
  refine GN_up (GN_up (GN_up (GN_up (GN_up h1 (by omega) (by omega)) (by omega) (by omega)) (by omega) (by omega)) (Or.inl rfl) (fun _ => ?_)) (by omega) (by omega)
  rw [vuN (by omega), vuN (by omega), vuN (by omega)]; omega
theorem GN_prv {nw : Nat → Nat} {g c0 : Nat} (h : GN nw) : GN (prvN nw g c0) := by
  unfold prvN pvB pvA
  generalize hi : (if nw (13 + g) / 2 ^ c0 &&& 1 = 1 then 33 + g else 37 + g) = i
  have h33 : 33 ≤ i := by rw [← hi]; split <;> omega
  exact GN_up (GN_up (GN_up h (by omega) (by omega)) (by omega) (by omega)) (Or.inr (Or.inl rfl)) (by omega)
theorem GN_plN {nw : Nat → Nat} {lt wh cs : Nat} (h : GN nw) : GN (plN nw lt wh cs) := by
  by_cases hc : plC nw lt wh
  · unfold plN
    rw [if_neg (fun z => z hc)]
    split
    · exact GN_up h (by omega) (fun _ => by decide)
    · split
      · exact GN_prv h
      · refine GN_ask h ?_
        unfold plC at hc; omega
  · rw [plN_0 hc]; exact h
/-- the items from i on are played: how many, the row behind them -/
def plR (C : Nat → Int) (n : Nat) : Nat → Nat → (Nat → Nat) → Nat × (Nat → Nat)
  | 0, _, nw => (0, nw)
  | f + 1, i, nw => if i < n ∧ plC nw (C i).toNat (C (i + 1) - 48).toNat then ((plR C n f (itP C i) (plN nw (C i).toNat (C (i + 1) - 48).toNat (itD C i).2.2)).1 + 1, (plR C n f (itP C i) (plN nw (C i).toNat (C (i + 1) - 48).toNat (itD C i).2.2)).2) else (0, nw)
theorem plR_0 {C : Nat → Int} {n f i : Nat} {nw : Nat → Nat} (h : n ≤ i) : plR C n f i nw = (0, nw) := by
  cases f with
  | zero => rfl
  | succ f => exact if_neg (fun z => by omega)
theorem plR_n {C : Nat → Int} {n f i : Nat} {nw : Nat → Nat} (h : ¬ plC nw (C i).toNat (C (i + 1) - 48).toNat) : plR C n f i nw = (0, nw) := by
  cases f with
  | zero => rfl
  | succ f => exact if_neg (fun z => h z.2)
theorem plR_y {C : Nat → Int} {n f i : Nat} {nw : Nat → Nat} (hf : 0 < f) (hi : i < n) (h : plC nw (C i).toNat (C (i + 1) - 48).toNat) : plR C n f i nw = ((plR C n (f - 1) (itP C i) (plN nw (C i).toNat (C (i + 1) - 48).toNat (itD C i).2.2)).1 + 1, (plR C n (f - 1) (itP C i) (plN nw (C i).toNat (C (i + 1) - 48).toNat (itD C i).2.2)).2) := by
  obtain ⟨k, rfl⟩ : ∃ k, f = k + 1 := ⟨f - 1, by omega⟩
  exact if_pos ⟨hi, h⟩
theorem plN_c {nw : Nat → Nat} {lt wh cs cs' : Nat} (h : lt = 103 ∨ cs = cs') : plN nw lt wh cs = plN nw lt wh cs' := by
  rcases h with h | h
  · unfold plN; rw [if_pos h, if_pos h]
  · rw [h]
theorem feN_o {c : Nat → Int} {n f i : Nat} (hf : 0 < f) (h : i < n) (e : feN c n f i = -1) : itO c i = true := by
  by_cases ho : itO c i = true
  · exact ho
  · have h2 := feN_f hf h ho
    rw [e] at h2; omega
theorem itO_gs {c : Nat → Int} {i : Nat} (h : itO c i = true) : lett (c i) ∧ gst (c (i + 1)) := ⟨Decidable.byContradiction fun z => itO_nl z h, Decidable.byContradiction fun z => itO_ng z h⟩
theorem rd_ok {t : Nat → Nat} {n i x : Nat} (hi : i < n) (h : x = t i) : x = (tk t n i).toNat := by
  rw [tk_in hi, Int.toNat_natCast]; exact h
theorem dgs_cs (c : Nat → Int) : ∀ (m i : Nat) (la : Int) (cs : Nat), cs < 256 → -1 ≤ la → (dgs c m i la cs).2.2 < 256
  | 0, _, _, _, h, _ => h
  | m + 1, i, la, cs, h, hl => by
    unfold dgs; split
    · exact h
    · exact dgs_cs c m (i + 1) (c i - 48) _ (or_256 h (by omega)) (by omega)
theorem itD_cs (c : Nat → Int) (i : Nat) : (itD c i).2.2 < 256 := dgs_cs c _ _ _ _ (by decide) (by decide)
theorem itD_1 {c : Nat → Int} {i : Nat} (ho : itO c i = true) (h : c i = 112) : ∃ q : Nat, q ≤ 7 ∧ (itD c i).2.2 = 1 * 2 ^ q ∧ (itD c i).2.1 = (q : Int) := by
  have h5 : i + 3 < (itD c i).1 := Decidable.byContradiction fun z => itO_nd (by omega) z ho
  rw [itD_p h] at h5 ⊢
  by_cases e : c (i + 3) - 48 ≤ -1 ∨ 8 ≤ c (i + 3) - 48
  · rw [dgs_e (by omega) e] at h5; exact absurd h5 (Nat.lt_irrefl _)
  · rw [dgs_s (by omega) (by omega) (by omega), dgs_0 rfl]
    refine ⟨(c (i + 3) - 48).toNat, by omega, ?_, ?_⟩
    · show 0 ||| _ = _; exact Nat.zero_or _
    · show c (i + 3) - 48 = _; omega
