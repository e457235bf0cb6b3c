/-! .. of four guests -/
theorem okD_4 : (ext 4 8 0).all okD = true := by decide +kernel
theorem raw4_0 : eqL (msL 11 (rwC 4 0)) (msL 11 (exC 4 0)) = true := by decide +kernel
theorem raw4_1 : eqL (msL 11 (rwC 4 1)) (msL 11 (exC 4 1)) = true := by decide +kernel
theorem raw4_2 : eqL (msL 11 (rwC 4 2)) (msL 11 (exC 4 2)) = true := by decide +kernel
theorem raw4_3 : eqL (msL 11 (rwC 4 3)) (msL 11 (exC 4 3)) = true := by decide +kernel
theorem raw4_4 : eqL (msL 11 (rwC 4 4)) (msL 11 (exC 4 4)) = true := by decide +kernel
theorem raw4_5 : eqL (msL 11 (rwC 4 5)) (msL 11 (exC 4 5)) = true := by decide +kernel
theorem raw4_6 : eqL (msL 11 (rwC 4 6)) (msL 11 (exC 4 6)) = true := by decide +kernel
theorem raw4_7 : eqL (msL 11 (rwC 4 7)) (msL 11 (exC 4 7)) = true := by decide +kernel
theorem okD_n {n : Nat} (h : n = 3 ∨ n = 4) {d : Nat} (hd : d ∈ ext n 8 0) : (∃ c, c < 8 ∧ hAt d 4 = 2 ^ c) ∧ d < 2 ^ 40 := by
  have h1 : okD d = true := by
    rcases h with rfl | rfl
    · exact List.all_eq_true.mp okD_3 d hd
    · exact List.all_eq_true.mp okD_4 d hd
  have h2 : isP2 (hAt d 4) = true ∧ Nat.ble d 1099511627775 = true := by
    have h3 : (isP2 (hAt d 4) && Nat.ble d 1099511627775) = true := h1
    rwa [Bool.and_eq_true] at h3
  exact ⟨isP2_c h2.1, Nat.lt_of_le_of_lt (Nat.le_of_ble_eq_true h2.2) (by decide)⟩
theorem raw_perm {n : Nat} (h : n = 3 ∨ n = 4) : (rw0 (szH n 0) (szH n 1) (szH n 2) 8).Perm (ext n 8 0) := by
  refine (rw0_cat n 8 (fun c hc => ?_)).trans (catF_perm _ (fun x hx => (okD_n h hx).1))
  rcases h with rfl | rfl
  · rcases (show c = 0 ∨ c = 1 ∨ c = 2 ∨ c = 3 ∨ c = 4 ∨ c = 5 ∨ c = 6 ∨ c = 7 by omega) with rfl | rfl | rfl | rfl | rfl | rfl | rfl | rfl
    · exact perm_of 9 raw3_0
    · exact perm_of 9 raw3_1
    · exact perm_of 9 raw3_2
    · exact perm_of 9 raw3_3
    · exact perm_of 9 raw3_4
    · exact perm_of 9 raw3_5
    · exact perm_of 9 raw3_6
    · exact perm_of 9 raw3_7
  · rcases (show c = 0 ∨ c = 1 ∨ c = 2 ∨ c = 3 ∨ c = 4 ∨ c = 5 ∨ c = 6 ∨ c = 7 by omega) with rfl | rfl | rfl | rfl | rfl | rfl | rfl | rfl
    · exact perm_of 11 raw4_0
    · exact perm_of 11 raw4_1
    · exact perm_of 11 raw4_2
    · exact perm_of 11 raw4_3
    · exact perm_of 11 raw4_4
    · exact perm_of 11 raw4_5
    · exact perm_of 11 raw4_6
    · exact perm_of 11 raw4_7
