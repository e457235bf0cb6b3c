/-! the other house: plain words of its row of numbers -/
theorem in_G {g : Int32} {n : Nat} (hn : n ≤ 4) : ((nI 0).toInt ≤ g.toInt ∧ g.toInt ≤ (iZ ((n : Int) - (1 : Int))).toInt) ↔ (0 ≤ g.toInt ∧ g.toInt < (n : Int)) := by
  rw [iZT (by omega), nI_toInt (by decide)]; omega
theorem in_I {c : Int32} {lo hi : Nat} (h1 : lo < 2 ^ 31) (h2 : hi < 2 ^ 31) : ((nI lo).toInt ≤ c.toInt ∧ c.toInt ≤ (nI hi).toInt) ↔ ((lo : Int) ≤ c.toInt ∧ c.toInt ≤ (hi : Int)) := by
  rw [nI_toInt h1, nI_toInt h2]
theorem in_8 {c : Int32} : ((nI 0).toInt ≤ c.toInt ∧ c.toInt ≤ (nI 7).toInt) ↔ (0 ≤ c.toInt ∧ c.toInt < 8) := by
  rw [nI_toInt (by decide), nI_toInt (by decide)]; omega
theorem pc8_hf : ∀ l, l < 256 → pc8 (l / 2 ^ 1) + (l &&& 1) = pc8 l := by decide +kernel
def prN (nw : Nat → Nat) : Nat → Nat
  | 0 => 0
  | g + 1 => prN nw g + nw (17 + g)
def shP (ps : Nat → Nat) (i : Nat) : Nat → Nat := fun j => if j < i then ps (j + 101) else ps j
theorem shP_0 (ps : Nat → Nat) : shP ps 0 = ps := by
  funext j; exact if_neg (Nat.not_lt_zero j)
theorem shP_s (ps : Nat → Nat) (i : Nat) : va_up (shP ps i) i (shP ps i (i + 101)) = shP ps (i + 1) := by
  funext j
  unfold va_up shP
  by_cases e : j = i
  · subst e; rw [if_pos rfl, if_neg (by omega), if_pos (by omega)]
  · rw [if_neg e]
    by_cases h : j < i
    · rw [if_pos h, if_pos (by omega)]
    · rw [if_neg h, if_neg (by omega)]
def cpP (ps nw : Nat → Nat) (b i : Nat) : Nat → Nat := fun j => if b ≤ j ∧ j < b + i then nw (j - b) else ps j
theorem cpP_0 (ps nw : Nat → Nat) (b : Nat) : cpP ps nw b 0 = ps := by
  funext j; exact if_neg (by omega)
theorem cpP_s (ps nw : Nat → Nat) (b i : Nat) : va_up (cpP ps nw b i) (b + i) (nw i) = cpP ps nw b (i + 1) := by
  funext j
  unfold va_up cpP
  by_cases e : j = b + i
  · subst e; rw [if_pos rfl, if_pos (by omega), Nat.add_sub_cancel_left]
  · rw [if_neg e]
    by_cases h : b ≤ j ∧ j < b + i
    · rw [if_pos h, if_pos (by omega)]
    · rw [if_neg h, if_neg (by omega)]
def rwP (ps nw : Nat → Nat) (b i : Nat) : Nat → Nat := fun j => if j < i then ps (b + j) else nw j
theorem rwP_0 (ps nw : Nat → Nat) (b : Nat) : rwP ps nw b 0 = nw := by
  funext j; exact if_neg (Nat.not_lt_zero j)
theorem rwP_s (ps nw : Nat → Nat) (b i : Nat) : va_up (rwP ps nw b i) i (ps (b + i)) = rwP ps nw b (i + 1) := by
  funext j
  unfold va_up rwP
  by_cases e : j = i
  · subst e; rw [if_pos rfl, if_pos (by omega)]
  · rw [if_neg e]
    by_cases h : j < i
    · rw [if_pos h, if_pos (by omega)]
    · rw [if_neg h, if_neg (by omega)]
/-- what is saved: the place, the row -/
def svK (sv : Nat) : Nat := if sv = 4 then 3 else sv
def svQ (sv : Nat) (ps : Nat → Nat) : Nat → Nat := if sv = 4 then shP ps 303 else ps
def svR (sv : Nat) (nw ps : Nat → Nat) : Nat → Nat := cpP (svQ sv ps) nw (101 * svK sv) 101
theorem hoG_nx {n : Nat} {hd : Nat → Nat} {pl g b : Nat} (hG : hoG n hd pl n 0 0 < n) (hg : g < n) (he : hoG n hd pl n 0 0 = hoG n hd pl (n - g) g b) (h : b + (szH n g - pc8 (hd g)) ≤ pl) :
    g + 1 < n ∧ hoG n hd pl n 0 0 = hoG n hd pl (n - (g + 1)) (g + 1) (b + (szH n g - pc8 (hd g))) := by
  rw [hoG_s (by omega) h, Nat.sub_sub] at he
  refine ⟨?_, he⟩
  rcases Nat.lt_or_ge (g + 1) n with q | q
  · exact q
  · rw [show n - (g + 1) = 0 by omega] at he
    rw [he] at hG
    exact absurd hG (by show ¬ g + 1 < n; omega)
/-- the card is given there, in the row of numbers -/
def dlM (nw : Nat → Nat) (n c pl : Nat) : Nat → Nat := let G := hoG n (fun g => nw (13 + g)) pl n 0 0; va_up nw (13 + G) (nw (13 + G) ||| 1 * 2 ^ c)
theorem dlM_g {nw : Nat → Nat} {n c pl g : Nat} (h : hoG n (fun g => nw (13 + g)) pl n 0 0 = g) : dlM nw n c pl = va_up nw (13 + g) (nw (13 + g) ||| 1 * 2 ^ c) := by
  unfold dlM; rw [h]
def lieN (nw : Nat → Nat) (g : Nat) (Lp : Prop) [Decidable Lp] : Nat → Nat := if Lp then va_up nw (21 + g) 1 else nw
def asA (w : Nat → Nat) (q g cards ans : Nat) : Nat → Nat := va_up (va_up (va_up w q g) (q + 1) cards) (q + 2) ans
def asB (w : Nat → Nat) (g : Nat) : Nat → Nat := va_up (va_up w 7 (w 7 + 1)) (25 + g) (va_up w 7 (w 7 + 1) (25 + g) + 1)
def askN (nw : Nat → Nat) (g cards ans : Nat) (Lp : Prop) [Decidable Lp] : Nat → Nat := asB (asA (lieN nw g Lp) (41 + 3 * lieN nw g Lp 7) g cards ans) g
def pvA (nw : Nat → Nat) (i c0 : Nat) : Nat → Nat := va_up nw i (nw i ||| 1 * 2 ^ c0)
def pvB (w : Nat → Nat) (g : Nat) : Nat → Nat := va_up (va_up w (29 + g) (w (29 + g) + 1)) 8 (va_up w (29 + g) (w (29 + g) + 1) 8 + 1)
def prvN (nw : Nat → Nat) (g c0 : Nat) : Nat → Nat := pvB (pvA nw (if nw (13 + g) / 2 ^ c0 &&& 1 = 1 then 33 + g else 37 + g) c0) g
theorem prvN_t {nw : Nat → Nat} {g c0 : Nat} (h : nw (13 + g) / 2 ^ c0 &&& 1 = 1) : prvN nw g c0 = pvB (pvA nw (33 + g) c0) g := by unfold prvN; rw [if_pos h]
theorem prvN_f {nw : Nat → Nat} {g c0 : Nat} (h : ¬ nw (13 + g) / 2 ^ c0 &&& 1 = 1) : prvN nw g c0 = pvB (pvA nw (37 + g) c0) g := by unfold prvN; rw [if_neg h]
