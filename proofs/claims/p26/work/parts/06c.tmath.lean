/-! the text: its signs, its items -/
def tk (t : Nat → Nat) (n i : Nat) : Int := if i < n then (t i : Int) else -1
theorem tk_bd {t : Nat → Nat} (ht : ∀ i, t i < 128) (n i : Nat) : -1 ≤ tk t n i ∧ tk t n i < 128 := by
  have := ht i
  unfold tk; split <;> omega
theorem tk_in {t : Nat → Nat} {n i : Nat} (h : i < n) : tk t n i = (t i : Int) := if_pos h
theorem tk_out {t : Nat → Nat} {n i : Nat} (h : n ≤ i) : tk t n i = -1 := if_neg (Nat.not_lt.mpr h)
theorem tk_lt {t : Nat → Nat} {n i : Nat} (h : 0 ≤ tk t n i) : i < n := by
  rcases Nat.lt_or_ge i n with q | q
  · exact q
  · rw [tk_out q] at h; omega
theorem one_shl {k : Nat} (h : k ≤ 7) : 1 * 2 ^ k < 2 ^ 32 := by
  rw [Nat.one_mul]; exact Nat.pow_lt_pow_right (by decide) (by omega)
/-- ascending digits: where they end, the last of them, the set -/
def dgs (c : Nat → Int) : Nat → Nat → Int → Nat → Nat × Int × Nat
  | 0, i, la, cs => (i, la, cs)
  | m + 1, i, la, cs => if c i - 48 ≤ la ∨ 8 ≤ c i - 48 then (i, la, cs) else dgs c m (i + 1) (c i - 48) (cs ||| 1 * 2 ^ (c i - 48).toNat)
theorem dgs_0 {c : Nat → Int} {m i : Nat} {la : Int} {cs : Nat} (hm : m = 0) : dgs c m i la cs = (i, la, cs) := by subst hm; rfl
theorem dgs_e {c : Nat → Int} {m i : Nat} {la : Int} {cs : Nat} (hm : 0 < m) (h : c i - 48 ≤ la ∨ 8 ≤ c i - 48) : dgs c m i la cs = (i, la, cs) := by
  obtain ⟨k, rfl⟩ : ∃ k, m = k + 1 := ⟨m - 1, by omega⟩
  exact if_pos h
theorem dgs_s {c : Nat → Int} {m i : Nat} {la : Int} {cs : Nat} (hm : 0 < m) (h1 : la < c i - 48) (h2 : c i - 48 < 8) : dgs c m i la cs = dgs c (m - 1) (i + 1) (c i - 48) (cs ||| 1 * 2 ^ (c i - 48).toNat) := by
  obtain ⟨k, rfl⟩ : ∃ k, m = k + 1 := ⟨m - 1, by omega⟩
  exact if_neg (by omega)
theorem dgs_ge (c : Nat → Int) : ∀ (m i : Nat) (la : Int) (cs : Nat), i ≤ (dgs c m i la cs).1 ∧ (dgs c m i la cs).1 ≤ i + m
  | 0, i, la, cs => ⟨Nat.le_refl _, Nat.le_refl _⟩
  | m + 1, i, la, cs => by
    unfold dgs; split
    · exact ⟨Nat.le_refl _, by omega⟩
    · have := dgs_ge c m (i + 1) (c i - 48) (cs ||| 1 * 2 ^ (c i - 48).toNat)
      omega
abbrev lett (k : Int) : Prop := k = 97 ∨ k = 108 ∨ k = 112 ∨ k = 103
abbrev gst (k : Int) : Prop := 48 ≤ k ∧ k ≤ 51
def itD (c : Nat → Int) (i : Nat) : Nat × Int × Nat := dgs c (if c i = 112 then 1 else 8) (i + 3) (-1) 0
/-- an item stands at i -/
def itO (c : Nat → Int) (i : Nat) : Bool := decide (lett (c i)) && (decide (gst (c (i + 1))) && (if c i = 103 then decide (c (i + 2) = 59) else decide (c (i + 2) = 58) && (decide (i + 3 < (itD c i).1) && decide (c (itD c i).1 = 59))))
/-- where it ends, or where it is wrong -/
def itP (c : Nat → Int) (i : Nat) : Nat := if ¬ lett (c i) then i else if ¬ gst (c (i + 1)) then i + 1 else if c i = 103 then (if c (i + 2) = 59 then i + 3 else i + 2) else if ¬ c (i + 2) = 58 then i + 2 else if ¬ i + 3 < (itD c i).1 then (itD c i).1 else if c (itD c i).1 = 59 then (itD c i).1 + 1 else (itD c i).1
theorem itO_nl {c : Nat → Int} {i : Nat} (h : ¬ lett (c i)) : ¬ itO c i = true := by simp [itO, h]
theorem itP_nl {c : Nat → Int} {i : Nat} (h : ¬ lett (c i)) : itP c i = i := by simp [itP, h]
theorem itO_ng {c : Nat → Int} {i : Nat} (h : ¬ gst (c (i + 1))) : ¬ itO c i = true := by simp only [itO, decide_eq_false h, Bool.false_and, Bool.and_false]; decide
theorem itP_ng {c : Nat → Int} {i : Nat} (h1 : lett (c i)) (h : ¬ gst (c (i + 1))) : itP c i = i + 1 := by unfold itP; rw [if_neg (fun z => z h1), if_pos h]
theorem itO_g {c : Nat → Int} {i : Nat} (h1 : lett (c i)) (h2 : gst (c (i + 1))) (h3 : c i = 103) : itO c i = decide (c (i + 2) = 59) := by
  unfold itO; rw [decide_eq_true h1, decide_eq_true h2, if_pos h3]; rfl
theorem itP_g {c : Nat → Int} {i : Nat} (h1 : lett (c i)) (h2 : gst (c (i + 1))) (h3 : c i = 103) : itP c i = if c (i + 2) = 59 then i + 2 + 1 else i + 2 := by
  unfold itP; rw [if_neg (fun z => z h1), if_neg (fun z => z h2), if_pos h3]
theorem itO_58 {c : Nat → Int} {i : Nat} (h3 : ¬ c i = 103) (h4 : ¬ c (i + 2) = 58) : ¬ itO c i = true := by
  unfold itO; rw [if_neg h3, decide_eq_false h4]; simp
theorem itP_58 {c : Nat → Int} {i : Nat} (h1 : lett (c i)) (h2 : gst (c (i + 1))) (h3 : ¬ c i = 103) (h4 : ¬ c (i + 2) = 58) : itP c i = i + 2 := by
  unfold itP; rw [if_neg (fun z => z h1), if_neg (fun z => z h2), if_neg h3, if_pos h4]
theorem itO_nd {c : Nat → Int} {i : Nat} (h3 : ¬ c i = 103) (h5 : ¬ i + 3 < (itD c i).1) : ¬ itO c i = true := by
  unfold itO; rw [if_neg h3, decide_eq_false h5]; simp
theorem itP_nd {c : Nat → Int} {i : Nat} (h1 : lett (c i)) (h2 : gst (c (i + 1))) (h3 : ¬ c i = 103) (h4 : c (i + 2) = 58) (h5 : ¬ i + 3 < (itD c i).1) : itP c i = (itD c i).1 := by
  unfold itP; rw [if_neg (fun z => z h1), if_neg (fun z => z h2), if_neg h3, if_neg (fun z => z h4), if_pos h5]
theorem itO_d {c : Nat → Int} {i : Nat} (h1 : lett (c i)) (h2 : gst (c (i + 1))) (h3 : ¬ c i = 103) (h4 : c (i + 2) = 58) (h5 : i + 3 < (itD c i).1) : itO c i = decide (c (itD c i).1 = 59) := by
  unfold itO; rw [decide_eq_true h1, decide_eq_true h2, if_neg h3, decide_eq_true h4, decide_eq_true h5]; rfl
theorem itP_d {c : Nat → Int} {i : Nat} (h1 : lett (c i)) (h2 : gst (c (i + 1))) (h3 : ¬ c i = 103) (h4 : c (i + 2) = 58) (h5 : i + 3 < (itD c i).1) : itP c i = if c (itD c i).1 = 59 then (itD c i).1 + 1 else (itD c i).1 := by
  unfold itP; rw [if_neg (fun z => z h1), if_neg (fun z => z h2), if_neg h3, if_neg (fun z => z h4), if_neg (fun z => z h5)]
theorem itD_p {c : Nat → Int} {i : Nat} (h : c i = 112) : itD c i = dgs c 1 (i + 3) (-1) 0 := by unfold itD; rw [if_pos h]
theorem itD_n {c : Nat → Int} {i : Nat} (h : ¬ c i = 112) : itD c i = dgs c 8 (i + 3) (-1) 0 := by unfold itD; rw [if_neg h]
theorem itD_le (c : Nat → Int) (i : Nat) : i + 3 ≤ (itD c i).1 ∧ (itD c i).1 ≤ i + 11 := by
  unfold itD
  have := dgs_ge c (if c i = 112 then 1 else 8) (i + 3) (-1) 0
  have h2 : (if c i = 112 then 1 else 8) ≤ 8 := by split <;> decide
  omega
theorem itP_up {c : Nat → Int} {i : Nat} (h : itO c i = true) : i + 3 ≤ itP c i := by
  have h1 : lett (c i) := Decidable.byContradiction fun z => itO_nl z h
  have h2 : gst (c (i + 1)) := Decidable.byContradiction fun z => itO_ng z h
  by_cases h3 : c i = 103
  · rw [itO_g h1 h2 h3] at h; rw [itP_g h1 h2 h3, if_pos (of_decide_eq_true h)]; omega
  · have h4 : c (i + 2) = 58 := Decidable.byContradiction fun z => itO_58 h3 z h
    have h5 : i + 3 < (itD c i).1 := Decidable.byContradiction fun z => itO_nd h3 z h
    rw [itP_d h1 h2 h3 h4 h5]; split <;> omega
/-- the syntax error position, or -1 -/
def feN (c : Nat → Int) (n : Nat) : Nat → Nat → Int
  | 0, _ => -1
  | f + 1, i => if i < n then (if itO c i = true then feN c n f (itP c i) else (itP c i : Int)) else -1
theorem feN_0 {c : Nat → Int} {n f i : Nat} (h : f = 0 ∨ n ≤ i) : feN c n f i = -1 := by
  rcases h with rfl | h
  · rfl
  · cases f with
    | zero => rfl
    | succ f => unfold feN; rw [if_neg (by omega)]
theorem feN_t {c : Nat → Int} {n f i : Nat} (hf : 0 < f) (h : i < n) (ho : itO c i = true) : feN c n f i = feN c n (f - 1) (itP c i) := by
  obtain ⟨k, rfl⟩ : ∃ k, f = k + 1 := ⟨f - 1, by omega⟩
  show feN c n (k + 1) i = _
  rw [feN, if_pos h, if_pos ho]; rfl
theorem feN_f {c : Nat → Int} {n f i : Nat} (hf : 0 < f) (h : i < n) (ho : ¬ itO c i = true) : feN c n f i = (itP c i : Int) := by
  obtain ⟨k, rfl⟩ : ∃ k, f = k + 1 := ⟨f - 1, by omega⟩
  rw [feN, if_pos h, if_neg ho]
theorem itP_le (c : Nat → Int) (i : Nat) : itP c i ≤ i + 12 := by
  have := itD_le c i
  unfold itP
  split
  · omega
  · split
    · omega
    · split
      · split <;> omega
      · split
        · omega
        · split
          · omega
          · split <;> omega
