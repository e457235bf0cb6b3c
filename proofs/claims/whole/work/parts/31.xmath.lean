/-! one card's set -/
theorem c_one : ∀ c, c < 8 → ∀ k, k < 8 → k ≤ c → (1 * 2 ^ c / 2 ^ k = 1 ↔ k = c) := by decide +kernel
theorem c_p31 {c k : Nat} (h : c ≤ 7) : 1 * 2 ^ c / 2 ^ k < 2 ^ 31 ∧ 1 * 2 ^ c < 2 ^ 31 := by
  have h2 : 1 * 2 ^ c < 2 ^ 31 := by rw [Nat.one_mul]; exact Nat.pow_lt_pow_right (by decide) (by omega)
  exact ⟨Nat.lt_of_le_of_lt (Nat.div_le_self _ _) h2, h2⟩
theorem dgs_end {c : Nat → Int} {m i : Nat} {la : Int} {cs : Nat} (h : c i - 48 ≤ la ∨ 8 ≤ c i - 48 ∨ m = 0) : dgs c m i la cs = (i, la, cs) := by
  rcases Nat.eq_zero_or_pos m with e | e
  · exact dgs_0 e
  · exact dgs_e e (by omega)
theorem dgs_st {t : Nat → Nat} {n m i la cs : Nat} (hi : i < n) (h1 : la + 49 ≤ t i) (h2 : t i ≤ 55) (hm : 0 < m) : dgs (tk t n) m i (la : Int) cs = dgs (tk t n) (m - 1) (i + 1) ((t i - 48 : Nat) : Int) (cs ||| 1 * 2 ^ (t i - 48)) := by
  have e : tk t n i = (t i : Int) := tk_in hi
  rw [dgs_s hm (by omega) (by omega), e, show ((t i : Int) - 48) = ((t i - 48 : Nat) : Int) by omega, Int.toNat_natCast]
theorem dgs_st1 {t : Nat → Nat} {n m i : Nat} (hi : i < n) (h1 : 48 ≤ t i) (h2 : t i ≤ 55) (hm : 0 < m) : dgs (tk t n) m i (-1) 0 = dgs (tk t n) (m - 1) (i + 1) ((t i - 48 : Nat) : Int) (1 * 2 ^ (t i - 48)) := by
  have e : tk t n i = (t i : Int) := tk_in hi
  rw [dgs_s hm (by omega) (by omega), e, show ((t i : Int) - 48) = ((t i - 48 : Nat) : Int) by omega, Int.toNat_natCast, Nat.zero_or]
theorem or_256 {a k : Nat} (h : a < 256) (hk : k < 8) : a ||| 1 * 2 ^ k < 256 := Nat.or_lt_two_pow (n := 8) h (by rw [Nat.one_mul]; exact Nat.pow_lt_pow_right (by decide) hk)
theorem if59 {z : Int} {a b : Nat} : (if ((59 : Nat) : Int) ≤ z ∧ z ≤ ((59 : Nat) : Int) then a else b) = if z = 59 then a else b := by
  by_cases h : z = 59
  · rw [if_pos h, if_pos (by omega)]
  · rw [if_neg h, if_neg (by omega)]
