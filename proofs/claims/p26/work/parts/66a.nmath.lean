/-! what one act of the law does -/
def actQ (b : Nat) (S : ST) (r : Int32) (v : ST) : Prop := ((∃ t : Nat, r = nI t ∧ t < 2147483648) ∧ G (b + 1) v ∧ Sav (stD S) v) ∨ ((r = (-5000002) ∨ r = (-5000001) ∨ r = (-5000003)) ∧ v = S)
theorem aq_y {b b' t : Nat} {S v : ST} (ht : t < 2147483648) (hb : b' ≤ b + 1) (h1 : G b' v) (h2 : Sav (stD S) v) : actQ b S (nI t) v := Or.inl ⟨⟨t, rfl, ht⟩, G_mono hb h1, h2⟩
theorem aq_2 {b : Nat} {S : ST} : actQ b S (-5000002) S := Or.inr ⟨Or.inl rfl, rfl⟩
theorem aq_3 {b : Nat} {S : ST} : actQ b S (-5000003) S := Or.inr ⟨Or.inr (Or.inr rfl), rfl⟩
theorem aq_p {b b' : Nat} {S v : ST} {Pr : Prop} [Decidable Pr] (hb : b' ≤ b + 1) (h1 : G b' v) (h2 : Sav (stD S) v) : actQ b S (p2i Pr) v := by
  unfold p2i; split
  · exact aq_y (by decide) hb h1 h2
  · exact aq_y (by decide) hb h1 h2
