/-! an item is played -/
abbrev plC (nw : Nat → Nat) (lt wh : Nat) : Prop := wh < nw 0 ∧ ((lt = 103 ∨ lt = 112) ∧ nw 1 = 1 ∧ nw (17 + wh) = 1 ∨ ¬ (lt = 103 ∨ lt = 112) ∧ nw 1 = 1 ∧ nw (17 + wh) = 1 ∧ nw 7 < 20 ∧ ¬ (lt = 108 ∧ nw (21 + wh) = 1))
def cdO (s : Nat) : Nat := Nat.log2 s
theorem cdO_1 : ∀ c, c < 8 → cdO (1 * 2 ^ c) = c := by decide +kernel
def plN (nw : Nat → Nat) (lt wh cs : Nat) : Nat → Nat := if ¬ plC nw lt wh then nw else if lt = 103 then va_up nw (17 + wh) 0 else if lt = 112 then prvN nw wh (cdO cs) else askN nw wh cs (ansN (nw (13 + wh)) (nw (9 + wh)) cs (lt = 108)) (lt = 108)
theorem plN_0 {nw : Nat → Nat} {lt wh cs : Nat} (h : ¬ plC nw lt wh) : plN nw lt wh cs = nw := if_pos h
theorem plN_g {nw : Nat → Nat} {lt wh cs : Nat} (h : plC nw lt wh) (h1 : lt = 103) : plN nw lt wh cs = va_up nw (17 + wh) 0 := by
  unfold plN; rw [if_neg (fun z => z h), if_pos h1]
theorem plN_p {nw : Nat → Nat} {lt wh cs c : Nat} (h : plC nw lt wh) (h1 : lt = 112) (h2 : cs = 1 * 2 ^ c) (h3 : c ≤ 7) : plN nw lt wh cs = prvN nw wh c := by
  unfold plN; rw [if_neg (fun z => z h), if_neg (by omega), if_pos h1, h2, cdO_1 c (by omega)]
theorem plN_a {nw : Nat → Nat} {lt wh cs : Nat} (h : plC nw lt wh) (h1 : ¬ lt = 103) (h2 : ¬ lt = 112) : plN nw lt wh cs = askN nw wh cs (ansN (nw (13 + wh)) (nw (9 + wh)) cs (lt = 108)) (lt = 108) := by
  unfold plN; rw [if_neg (fun z => z h), if_neg h1, if_neg h2]
