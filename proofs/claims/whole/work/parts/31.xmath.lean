/-! one card's set -/
theorem c_one : ∀ c, c < 8 → ∀ k, k < 8 → k ≤ c → (1 * 2 ^ c / 2 ^ k = 1 ↔ k = c) := by decide +kernel
theorem c_p31 {c k : Nat} (h : c ≤ 7) : 1 * 2 ^ c / 2 ^ k < 2 ^ 31 ∧ 1 * 2 ^ c < 2 ^ 31 := by
  have h2 : 1 * 2 ^ c < 2 ^ 31 := by rw [Nat.one_mul]; exact Nat.pow_lt_pow_right (by decide) (by omega)
  exact ⟨Nat.lt_of_le_of_lt (Nat.div_le_self _ _) h2, h2⟩
