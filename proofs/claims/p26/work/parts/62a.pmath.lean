/-! the law's own words: its hash of what can be seen -/
def mx (h : Int64) (v : Int32) : Int64 := lN 31 * h + v.toInt64
def prA (D : D7) : Nat → Int64
  | 0 => lN 211
  | k + 1 => mx (prA D k) (nI (abH (dX D) k))
def pgV (D : D7) (k w : Nat) : Int32 := if k < dX D 1 then nI (abG (dX D) (dHd D) (dPb D) (dAg D) (dL D) k w) else (-5000003)
def prB (D : D7) : Nat → Int64
  | 0 => prA D 10
  | k + 1 => mx (mx (mx (mx (mx (prB D k) (pgV D k 0)) (pgV D k 1)) (pgV D k 2)) (pgV D k 3)) (pgV D k 7)
def pqV (D : D7) (q w : Nat) : Int32 := if q < dX D 12 then nI (abQ (dAg D) (dAc D) (dAn D) q w) else (-5000003)
def prC (D : D7) : Nat → Int64
  | 0 => prB D 4
  | k + 1 => mx (prC D k) (pqV D (k / 3) (k % 3))
def prF (D : D7) : Int64 := prC D 60
theorem pgV_y {D : D7} {k w : Nat} (h : k < dX D 1) : pgV D k w = nI (abG (dX D) (dHd D) (dPb D) (dAg D) (dL D) k w) := if_pos h
theorem pgV_n {D : D7} {k w : Nat} (h : ¬ k < dX D 1) : pgV D k w = (-5000003) := if_neg h
theorem pqV_y {D : D7} {k w : Nat} (h : k < dX D 12) : pqV D k w = nI (abQ (dAg D) (dAc D) (dAn D) k w) := if_pos h
theorem pqV_n {D : D7} {k w : Nat} (h : ¬ k < dX D 12) : pqV D k w = (-5000003) := if_neg h
/-- numbers out of range -/
theorem oor {x y : Nat} (h : y < 2 ^ 31) (hx : x ≤ y) : (nI y).toInt < 0 ∨ (x : Int) ≤ (nI y).toInt := by
  rw [nI_toInt h]; right; omega
theorem oor2 {x y : Nat} {A B : Prop} (h : y < 2 ^ 31) (hx : x ≤ y) : (nI y).toInt < 0 ∨ (x : Int) ≤ (nI y).toInt ∨ A ∨ B := by
  rw [nI_toInt h]; right; left; omega
/-- an answer is none of the law's three numbers -/
theorem nn_neg {y : Nat} (h : y < 2 ^ 31) {z : Int32} (hz : z.toInt < 0) : ¬ nI y = z := fun e => by
  have := nI_toInt h
  rw [e] at this; omega
theorem low_and (v : Int32) : ∃ m : Nat, v &&& nI 2147483647 = nI m ∧ m < 2147483648 := by
  obtain ⟨k, rfl⟩ := i32_n v
  exact ⟨k &&& 2147483647, fa_and _ _, Nat.lt_of_le_of_lt Nat.and_le_right (by decide)⟩
theorem ones_s : ∀ x, x < 256 → 0 < x → pc8 (x &&& (x - 1)) + 1 = pc8 x := by decide +kernel
