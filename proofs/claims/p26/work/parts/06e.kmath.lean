/-! the saved states: four dinners in the order of the row -/
def svN (sc : Nat) : Nat := if sc = 4 then 4 else sc + 1
def svP {α : Type} (sc : Nat) (s : Nat → α) : α := if sc = 4 then s 0 else s sc
def svB {α : Type} (sc : Nat) (s : Nat → α) : Nat → α := fun k => if sc = 4 then (if k = 3 then s 0 else if k < 3 then s (k + 1) else s k) else s k
def svV {α : Type} (sc : Nat) (s : Nat → α) (v : α) : Nat → α := fun k => if sc = 4 then (if k = 3 then v else s (k + 1)) else if k = sc then v else s k
theorem qa_rot (sb : Nat → Nat → Nat) : va_up (va_up (va_up (va_up (fun i => some ((sb i) 0)) 0 (some ((sb 1) 0))) 1 (some ((sb 2) 0))) 2 (some ((sb 3) 0))) 3 (some ((sb 0) 0)) = fun i => some (((svB 4 sb) i) 0) := by
  funext i
  unfold va_up svB
  by_cases e3 : i = 3
  · subst e3; rfl
  · rw [if_neg e3, if_pos rfl, if_neg e3]
    by_cases e2 : i = 2
    · subst e2; rfl
    · rw [if_neg e2]
      by_cases e1 : i = 1
      · subst e1; rfl
      · rw [if_neg e1]
        by_cases e0 : i = 0
        · subst e0; rfl
        · rw [if_neg e0, if_neg (by omega)]
/-- the likeliest so far: the card, how many -/
def liH (W : Nat → Nat) : Nat → Nat × Nat
  | 0 => (4294967295, 0)
  | c + 1 => if (liH W c).2 < W c then (c, W c) else liH W c
theorem liH_t {W : Nat → Nat} {c : Nat} (h : (liH W c).2 < W c) : liH W (c + 1) = (c, W c) := if_pos h
theorem liH_f {W : Nat → Nat} {c : Nat} (h : W c ≤ (liH W c).2) : liH W (c + 1) = liH W c := if_neg (Nat.not_lt.mpr h)
theorem liH_le {W : Nat → Nat} {N : Nat} (h : ∀ c, W c ≤ N) : ∀ c, (liH W c).2 ≤ N
  | 0 => Nat.zero_le _
  | c + 1 => by
    by_cases e : (liH W c).2 < W c
    · rw [liH_t e]; exact h c
    · rw [liH_f (Nat.not_lt.mp e)]; exact liH_le h c
theorem opS_lt {x : Nat → Nat} {z : Int} (h0 : x 0 < 2147483648) (hz : -1 ≤ z ∧ z ≤ 999999) : opS x z < 2147483648 := by unfold opS; split <;> omega
theorem dv8 {g w : Nat} (h : w < 8) : (8 * g + w) / 8 = g ∧ (8 * g + w) % 8 = w := by omega
theorem dv3 {g w : Nat} (h : w < 3) : (3 * g + w) / 3 = g ∧ (3 * g + w) % 3 = w := by omega
