/-! the other house's answers -/
def tgN (nw : Nat → Nat) (P : List Nat) (g w : Nat) : Nat := match w with
  | 0 => nw (9 + g)
  | 1 => nw (17 + g)
  | 2 => nw (25 + g)
  | 3 => nw (29 + g)
  | 4 => if P.length = 0 then 0 else sS (nw 0) P g
  | 5 => sM (nw 0) P g
  | 6 => if 0 < P.length ∧ sL (nw 0) P g = P.length then 1 else 0
  | _ => if nw 1 = 1 then 4294967295 else nw (13 + g)
def tvN (nw : Nat → Nat) (w : Nat) : Nat := match w with
  | 0 => nw 0
  | 1 => nw 1
  | 2 => nw 7
  | 3 => nw 8
  | 4 => nw 4
  | 5 => nw 5
  | 6 => nw 6
  | 7 => nw 3
  | 8 => prN nw (nw 0)
  | _ => if nw 1 = 1 then 4294967295 else nw 2
def lbM (hh : Nat → Nat) (cards ans : Nat) : Nat → Nat
  | 0 => 0
  | h + 1 => lbM hh cards ans h + (hh (2 * h) + (if pc8 (h &&& cards) = ans then hh (2 * h + 1) else 0))
theorem lbM_t {hh : Nat → Nat} {cards ans h : Nat} (e : pc8 (h &&& cards) = ans) : lbM hh cards ans (h + 1) = lbM hh cards ans h + (hh (2 * h) + hh (2 * h + 1)) := by
  show lbM hh cards ans h + (hh (2 * h) + _) = _; rw [if_pos e]
theorem lbM_f {hh : Nat → Nat} {cards ans h : Nat} (e : ¬ pc8 (h &&& cards) = ans) : lbM hh cards ans (h + 1) = lbM hh cards ans h + (hh (2 * h) + 0) := by
  show lbM hh cards ans h + (hh (2 * h) + _) = _; rw [if_neg e]
def woM (hh : Nat → Nat) (cards : Nat) : Nat → Nat
  | 0 => 0
  | a + 1 => if woM hh cards a < lbM hh cards a 256 then lbM hh cards a 256 else woM hh cards a
theorem woM_t {hh : Nat → Nat} {cards a : Nat} (e : woM hh cards a < lbM hh cards a 256) : woM hh cards (a + 1) = lbM hh cards a 256 := if_pos e
theorem woM_f {hh : Nat → Nat} {cards a : Nat} (e : lbM hh cards a 256 ≤ woM hh cards a) : woM hh cards (a + 1) = woM hh cards a := if_neg (Nat.not_lt.mpr e)
theorem woM_lt {hh : Nat → Nat} {cards : Nat} (h : ∀ a, lbM hh cards a 256 < 2147483648) : ∀ a, woM hh cards a < 2147483648
  | 0 => (by decide : 0 < 2147483648)
  | a + 1 => by
    show (if _ then _ else _) < _
    split
    · exact h a
    · exact woM_lt h a
/-- the best set of the first k: the set, what it leaves -/
def bcM (hh : Nat → Nat) : Nat → Nat × Nat
  | 0 => (0, 0)
  | k + 1 => if pc8 (k + 1) < 3 ∧ ((bcM hh k).1 = 0 ∨ woM hh (k + 1) 9 < (bcM hh k).2) then (k + 1, woM hh (k + 1) 9) else bcM hh k
theorem bcM_n {hh : Nat → Nat} {k : Nat} (h : ¬ (pc8 (k + 1) < 3 ∧ ((bcM hh k).1 = 0 ∨ woM hh (k + 1) 9 < (bcM hh k).2))) : bcM hh (k + 1) = bcM hh k := if_neg h
theorem bcM_y {hh : Nat → Nat} {k : Nat} (h : pc8 (k + 1) < 3 ∧ ((bcM hh k).1 = 0 ∨ woM hh (k + 1) 9 < (bcM hh k).2)) : bcM hh (k + 1) = (k + 1, woM hh (k + 1) 9) := if_pos h
theorem bcM_lt {hh : Nat → Nat} (h : ∀ c a, lbM hh c a 256 < 2147483648) : ∀ k, (bcM hh k).1 ≤ k ∧ (bcM hh k).2 < 2147483648
  | 0 => ⟨Nat.le_refl _, (by decide : 0 < 2147483648)⟩
  | k + 1 => by
    have ih := bcM_lt h k
    by_cases e : pc8 (k + 1) < 3 ∧ ((bcM hh k).1 = 0 ∨ woM hh (k + 1) 9 < (bcM hh k).2)
    · rw [bcM_y e]; exact ⟨Nat.le_refl _, woM_lt (h _) 9⟩
    · rw [bcM_n e]; exact ⟨Nat.le_succ_of_le ih.1, ih.2⟩
def cuM (ww : Nat → Nat) : Nat → Nat
  | 0 => 0
  | c + 1 => cuM ww c ||| (if 0 < ww c then 1 * 2 ^ c else 0)
def liM (ww : Nat → Nat) : Nat → Nat
  | 0 => 0
  | c + 1 => if ww (liM ww c) < ww (c + 1) then c + 1 else liM ww c
theorem liM_le (ww : Nat → Nat) : ∀ c, liM ww c ≤ c
  | 0 => Nat.le_refl _
  | c + 1 => by
    show (if _ then _ else _) ≤ _
    split
    · exact Nat.le_refl _
    · exact Nat.le_succ_of_le (liM_le ww c)
theorem in_Q {g : Int32} {n : Nat} (hn : n ≤ 20) : ((nI 0).toInt ≤ g.toInt ∧ g.toInt ≤ (iZ ((n : Int) - (1 : Int))).toInt) ↔ (0 ≤ g.toInt ∧ g.toInt < (n : Int)) := by
  rw [iZT (by omega), nI_toInt (by decide)]; omega
theorem cuM_t {ww : Nat → Nat} {c : Nat} (h : 0 < ww c) : cuM ww (c + 1) = cuM ww c ||| 1 * 2 ^ c := by
  show cuM ww c ||| _ = _; rw [if_pos h]
theorem cuM_f {ww : Nat → Nat} {c : Nat} (h : ww c = 0) : cuM ww (c + 1) = cuM ww c ||| 0 := by
  show cuM ww c ||| _ = _; rw [if_neg (by omega)]
theorem liM_t {ww : Nat → Nat} {c : Nat} (h : ww (liM ww c) < ww (c + 1)) : liM ww (c + 1) = c + 1 := if_pos h
theorem liM_f {ww : Nat → Nat} {c : Nat} (h : ww (c + 1) ≤ ww (liM ww c)) : liM ww (c + 1) = liM ww c := if_neg (Nat.not_lt.mpr h)
