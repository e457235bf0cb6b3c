/-! all deals, in the order in which they are laid -/
def extS (E : Nat → List Nat) (n c d : Nat) : Nat → List Nat
  | 0 => []
  | i + 1 => extS E n c d i ++ (if pc8 (hAt d i) < szH n i then E (d ||| 2 ^ (8 * i + c)) else [])
def ext (n : Nat) : Nat → Nat → List Nat
  | 0, d => [d]
  | m + 1, d => extS (ext n m) n (7 - m) d 5
theorem extS_y {E : Nat → List Nat} {n c d i : Nat} (h : pc8 (hAt d i) < szH n i) : extS E n c d (i + 1) = extS E n c d i ++ E (d ||| 2 ^ (8 * i + c)) := by
  rw [extS, if_pos h]
theorem extS_n {E : Nat → List Nat} {n c d i : Nat} (h : szH n i ≤ pc8 (hAt d i)) : extS E n c d (i + 1) = extS E n c d i := by
  rw [extS, if_neg (Nat.not_lt.mpr h), List.append_nil]
theorem extS_le {E : Nat → List Nat} {n c d : Nat} (i : Nat) : ∀ k, (extS E n c d i).length ≤ (extS E n c d (i + k)).length
  | 0 => Nat.le_refl _
  | k + 1 => by
    refine Nat.le_trans (extS_le i k) ?_
    rw [← Nat.add_assoc, extS, List.length_append]
    exact Nat.le_add_right _ _
theorem extS_len {E : Nat → List Nat} {n c d i : Nat} (hi : i < 5) (h : pc8 (hAt d i) < szH n i) : (extS E n c d i).length + (E (d ||| 2 ^ (8 * i + c))).length ≤ (extS E n c d 5).length := by
  have h1 := extS_le (E := E) (n := n) (c := c) (d := d) (i + 1) (5 - (i + 1))
  rw [show i + 1 + (5 - (i + 1)) = 5 by omega, extS_y h, List.length_append] at h1
  exact h1
theorem or_40 {d b : Nat} (h : d < 2 ^ 40) (hb : b < 40) : d ||| 2 ^ b < 2 ^ 40 := Nat.or_lt_two_pow h (Nat.pow_lt_pow_right (by decide) hb)
theorem ext3_len : (ext 3 8 0).length = 1680 := by decide +kernel
theorem ext4_len : (ext 4 8 0).length = 5040 := by decide +kernel
theorem extN_len {n : Nat} (h : n = 3 ∨ n = 4) : 0 < (ext n 8 0).length ∧ (ext n 8 0).length ≤ 5040 := by
  rcases h with rfl | rfl
  · rw [ext3_len]; decide
  · rw [ext4_len]; decide
