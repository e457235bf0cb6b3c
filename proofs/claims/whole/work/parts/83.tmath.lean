/-! what stands when the law's loop begins -/
theorem LI_st : LI 0 0 (va_up (fun _ => 0) 0 1) (fun _ => 0) (fun _ => 0) (fun _ => 0) (fun _ => 0) (fun _ => 0) [] (fun _ => 0) (fun _ => (va_up (fun _ => 0) 0 1)) (fun _ _ => 0) (fun _ _ => 0) (fun _ _ => 0) (fun _ _ => 0) (fun _ _ => 0) (fun _ => []) (fun _ _ => 0) [] (fun _ => 0) [] (fun _ => 0) 0 (fun _ => 0) (fun _ => 0) (va_up (va_up (fun _ => 0) 3 1) 2 4294967295) (fun _ => 0) (fun _ => 0) (fun _ => 0) := by
  have hr : DRep [] (fun _ => (0 : Int64)) := fun i hi => absurd hi (Nat.not_lt_zero i)
  refine ⟨⟨⟨rfl, rfl, rfl, rfl, rfl, rfl, rfl, rfl⟩, ⟨Or.inl rfl, by decide, by decide, by decide, by decide, by decide, by decide, by decide⟩, ⟨fun _ => ⟨rfl, rfl, rfl, rfl, rfl⟩, fun z => absurd rfl z⟩, ?_, ?_, fun z => absurd rfl z, fun z => absurd rfl z, fun _ => (by decide : 0 < 256)⟩, hr, ⟨fun k hk => absurd hk (Nat.not_lt_zero k), fun k _ => ⟨Nat.zero_le _, Nat.zero_le _⟩⟩, by decide, ⟨Or.inl rfl, hr⟩, ⟨Or.inl rfl, hr⟩, ⟨rfl, rfl⟩, ⟨Nat.zero_le _, fun i hi => absurd hi (Nat.not_lt_zero i), fun _ => (by decide : 0 < 128)⟩, fun _ _ => (by decide : 0 < 256)⟩
  · intro g hg
    rcases (show g = 0 ∨ g = 1 ∨ g = 2 ∨ g = 3 by omega) with rfl | rfl | rfl | rfl <;> exact ⟨rfl, rfl, rfl, rfl, rfl, rfl, by decide, by decide⟩
  · intro i hi
    exact absurd hi (Nat.not_lt_zero i)
