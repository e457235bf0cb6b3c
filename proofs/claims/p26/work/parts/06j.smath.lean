/-! the house behind a beginning: a full row is kept -/
def svA3 (S : ST) (u : Nat → Int64) : ST := (stSc S, stD S, stF S, stB S, stSD S, stSf S, ext 3 8 0, u, stL4 S, stF4 S)
def svA4 (S : ST) (u : Nat → Int64) : ST := (stSc S, stD S, stF S, stB S, stSD S, stSf S, stL3 S, stF3 S, ext 4 8 0, u)
theorem svA3_ok {b : Nat} {S : ST} {D : D7} {u : Nat → Int64} (h : G b S ∧ Sav D S) (hu : DRep (ext 3 8 0) u) : G b (svA3 S u) ∧ Sav D (svA3 S u) := by
  obtain ⟨⟨h1, h2, h3, h4, h5, h6, h7⟩, h8⟩ := h
  exact ⟨⟨h1, h2, h3, h4, h5, ⟨Or.inr rfl, hu⟩, h7⟩, h8⟩
theorem svA4_ok {b : Nat} {S : ST} {D : D7} {u : Nat → Int64} (h : G b S ∧ Sav D S) (hu : DRep (ext 4 8 0) u) : G b (svA4 S u) ∧ Sav D (svA4 S u) := by
  obtain ⟨⟨h1, h2, h3, h4, h5, h6, h7⟩, h8⟩ := h
  exact ⟨⟨h1, h2, h3, h4, h5, h6, ⟨Or.inr rfl, hu⟩⟩, h8⟩
/-! what an answer leaves -/
theorem dif_go (g c w : Nat) : ∀ L : List Nat, (L.filterMap (stA g c w)).length = L.countP (fun d => !d.testBit (40 + g) || decide (pc8 (hAt d g &&& c) = w))
  | [] => rfl
  | x :: L => by
    rw [List.countP_cons, ← dif_go g c w L, List.filterMap_cons]
    unfold stA
    by_cases e : pc8 (hAt x g &&& c) = w
    · rw [if_pos e, decide_eq_true e, Bool.or_true, if_pos rfl]; rfl
    · rw [if_neg e, decide_eq_false e, Bool.or_false]
      cases q : x.testBit (40 + g) with
      | false => rw [if_pos rfl]; rfl
      | true => rw [if_neg (by decide)]; rfl
theorem lb_go (L : List Nat) (g c w : Nat) : ∀ k, lbN (bhN L g) c w k = L.countP (fun d => d.testBit (40 + g) && (decide (hAt d g < k) && decide (pc8 (hAt d g &&& c) = w)))
  | 0 => by
    rw [cnt_cg (p := fun d => d.testBit (40 + g) && (decide (hAt d g < 0) && decide (pc8 (hAt d g &&& c) = w))) (q := fun _ => false) (fun d => by rw [decide_eq_false (Nat.not_lt_zero _), Bool.false_and, Bool.and_false]) L, List.countP_eq_zero.mpr (fun _ _ => by decide)]; rfl
  | k + 1 => by
    by_cases e : pc8 (k &&& c) = w
    · rw [lbN_t e, lb_go L g c w k]
      symm
      refine cnt_add (fun d => ?_) (fun d hd => ?_) L
      · cases d.testBit (40 + g) with
        | false => rfl
        | true =>
          simp only [Bool.true_and]
          by_cases z : hAt d g = k
          · rw [decide_eq_true (show hAt d g < k + 1 by omega), decide_eq_false (show ¬ hAt d g < k by omega), z, decide_eq_true e, Bool.and_self, Bool.false_and, beq_self_eq_true, Bool.or_true]
          · rw [beq_false_of_ne z, Bool.or_false]
            by_cases y : hAt d g < k
            · rw [decide_eq_true y, decide_eq_true (show hAt d g < k + 1 by omega)]
            · rw [decide_eq_false y, decide_eq_false (show ¬ hAt d g < k + 1 by omega)]
      · simp only [Bool.and_eq_true, decide_eq_true_eq] at hd
        rw [hd.1, Bool.true_and]
        exact beq_false_of_ne (by omega)
    · rw [lbN_f e, lb_go L g c w k]
      refine cnt_cg (fun d => ?_) L
      by_cases z : hAt d g = k
      · rw [z, decide_eq_false e]; simp
      · by_cases y : hAt d g < k
        · rw [decide_eq_true y, decide_eq_true (show hAt d g < k + 1 by omega)]
        · rw [decide_eq_false y, decide_eq_false (show ¬ hAt d g < k + 1 by omega)]
theorem dif_eq {L : List Nat} {g c w : Nat} : stN L g + lbN (bhN L g) c w 256 = (L.filterMap (stA g c w)).length := by
  rw [dif_go, lb_go]
  unfold stN
  symm
  refine cnt_add (fun d => ?_) (fun d hd => ?_) L
  · rw [decide_eq_true (hAt_lt d g), Bool.true_and]
    cases d.testBit (40 + g) <;> simp
  · have : d.testBit (40 + g) = false := by simpa using hd
    rw [this, Bool.false_and]
