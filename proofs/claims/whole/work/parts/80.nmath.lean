/-! the script's numbers: what each outcome asks of them -/
theorem i32_of {z : Int32} (h : 0 ≤ z.toInt) : z = nI z.toInt.toNat := by
  rw [iZ_nat, Int.toNat_of_nonneg h]
  exact (Int32.ofInt_toInt z).symm
theorem i32_le {z : Int32} {b : Nat} (h : ¬ (z.toInt < 0 ∨ (b : Int) < z.toInt)) : ∃ k : Nat, z = nI k ∧ k ≤ b := ⟨z.toInt.toNat, i32_of (by omega), by omega⟩
theorem i32_lt {z : Int32} {b : Nat} (h : ¬ (z.toInt < 0 ∨ (b : Int) ≤ z.toInt)) : ∃ k : Nat, z = nI k ∧ k < b := ⟨z.toInt.toNat, i32_of (by omega), by omega⟩
theorem i32_1 {z : Int32} {b : Nat} (h : ¬ (z.toInt < 1 ∨ (b : Int) < z.toInt)) : ∃ k : Nat, z = nI k ∧ 1 ≤ k ∧ k ≤ b := ⟨z.toInt.toNat, i32_of (by omega), by omega, by omega⟩
theorem i32_z {z : Int32} (h : ¬ (z.toInt < -1 ∨ 999999 < z.toInt)) : ∃ q : Int, z = iZ q ∧ -1 ≤ q ∧ q ≤ 999999 := ⟨z.toInt, (Int32.ofInt_toInt z).symm, by omega, by omega⟩
theorem i32_34 {z : Int32} (h : ¬ (z.toInt < 3 ∨ 4 < z.toInt)) : z = nI 3 ∨ z = nI 4 := by
  have e := i32_of (z := z) (by omega)
  rcases (show z.toInt.toNat = 3 ∨ z.toInt.toNat = 4 by omega) with q | q
  · left; rw [e, q]
  · right; rw [e, q]
