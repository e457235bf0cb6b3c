/-! the class plays the items of a text -/
abbrev DT : Type := (Nat → Nat) × (Nat → Nat) × (Nat → Nat) × (Nat → Nat) × (Nat → Nat) × List Nat
abbrev piT (x : Nat → Nat) (g : Nat) : Prop := x 2 = 1 ∧ g < x 1 ∧ x 7 / 2 ^ g &&& 1 = 1
abbrev piC (x : Nat → Nat) (lt wh : Nat) : Prop := ((lt = 97 ∨ lt = 108) ∧ (piT x wh ∧ x 12 < 20 ∧ ¬ (lt = 108 ∧ x 8 / 2 ^ wh &&& 1 = 1))) ∨ (¬ (lt = 97 ∨ lt = 108) ∧ piT x wh)
def piA (hd : Nat → Nat) (d : DT) (g cards : Nat) (Lp : Prop) [Decidable Lp] : DT := (va_up (va_up d.1 8 (if Lp then d.1 8 ||| 1 * 2 ^ g else d.1 8)) 12 (d.1 12 + 1), d.2.1, va_up d.2.2.1 (d.1 12) g, va_up d.2.2.2.1 (d.1 12) cards, va_up d.2.2.2.2.1 (d.1 12) (ansN (hd g) (szH (d.1 1) g) cards Lp), d.2.2.2.2.2.filterMap (stA g cards (ansN (hd g) (szH (d.1 1) g) cards Lp)))
def piP (hd : Nat → Nat) (d : DT) (g c : Nat) : DT := (va_up d.1 10 (d.1 10 + 1), va_up d.2.1 g (d.2.1 g + 1), d.2.2.1, d.2.2.2.1, d.2.2.2.2.1, d.2.2.2.2.2.filterMap (stP (8 * g + c) (decide (hd g / 2 ^ c &&& 1 = 1))))
def piG (d : DT) (g : Nat) : DT := (va_up d.1 7 (clr (d.1 7) g), d.2)
def piD (hd : Nat → Nat) (d : DT) (lt wh cs cd : Nat) : DT := if lt = 97 ∨ lt = 108 then piA hd d wh cs (lt = 108) else if lt = 112 then piP hd d wh cd else piG d wh
theorem piD_a {hd : Nat → Nat} {d : DT} {lt wh cs cd : Nat} (h : lt = 97 ∨ lt = 108) : piD hd d lt wh cs cd = piA hd d wh cs (lt = 108) := if_pos h
theorem piD_p {hd : Nat → Nat} {d : DT} {lt wh cs cd : Nat} (h : lt = 112) : piD hd d lt wh cs cd = piP hd d wh cd := by
  unfold piD; rw [if_neg (by omega), if_pos h]
theorem piD_g {hd : Nat → Nat} {d : DT} {lt wh cs cd : Nat} (h : lt = 103) : piD hd d lt wh cs cd = piG d wh := by
  unfold piD; rw [if_neg (by omega), if_neg (by omega)]
def piR (C : Nat → Int) (n : Nat) (hd : Nat → Nat) : Nat → Nat → DT → Nat × DT
  | 0, _, d => (0, d)
  | f + 1, i, d => if i < n ∧ piC d.1 (C i).toNat (C (i + 1) - 48).toNat then ((piR C n hd f (itP C i) (piD hd d (C i).toNat (C (i + 1) - 48).toNat (itD C i).2.2 (itD C i).2.1.toNat)).1 + 1, (piR C n hd f (itP C i) (piD hd d (C i).toNat (C (i + 1) - 48).toNat (itD C i).2.2 (itD C i).2.1.toNat)).2) else (0, d)
theorem piR_0 {C : Nat → Int} {n f i : Nat} {hd : Nat → Nat} {d : DT} (h : n ≤ i) : piR C n hd f i d = (0, d) := by
  cases f with
  | zero => rfl
  | succ f => exact if_neg (fun z => by omega)
theorem piR_n {C : Nat → Int} {n f i : Nat} {hd : Nat → Nat} {d : DT} (h : ¬ piC d.1 (C i).toNat (C (i + 1) - 48).toNat) : piR C n hd f i d = (0, d) := by
  cases f with
  | zero => rfl
  | succ f => exact if_neg (fun z => h z.2)
theorem piR_y {C : Nat → Int} {n f i : Nat} {hd : Nat → Nat} {d : DT} (hf : 0 < f) (hi : i < n) (h : piC d.1 (C i).toNat (C (i + 1) - 48).toNat) : piR C n hd f i d = ((piR C n hd (f - 1) (itP C i) (piD hd d (C i).toNat (C (i + 1) - 48).toNat (itD C i).2.2 (itD C i).2.1.toNat)).1 + 1, (piR C n hd (f - 1) (itP C i) (piD hd d (C i).toNat (C (i + 1) - 48).toNat (itD C i).2.2 (itD C i).2.1.toNat)).2) := by
  obtain ⟨k, rfl⟩ : ∃ k, f = k + 1 := ⟨f - 1, by omega⟩
  exact if_pos ⟨hi, h⟩
/-- what the contracts want of a dinner -/
def piK (d : DT) : Prop := (d.1 1 = 0 ∨ d.1 1 = 3 ∨ d.1 1 = 4) ∧ d.1 2 ≤ 1 ∧ d.1 7 < 16 ∧ d.1 8 < 16 ∧ d.1 12 ≤ 20 ∧ d.2.2.2.2.2.length ≤ 5040 ∧ ∀ e ∈ d.2.2.2.2.2, e < 2 ^ 44
theorem stA_lt {g cards ans d e : Nat} (hg : g ≤ 3) (hd : d < 2 ^ 44) (h : stA g cards ans d = some e) : e < 2 ^ 44 := by
  unfold stA at h
  split at h
  · cases h; exact hd
  · split at h
    · cases h; exact Nat.or_lt_two_pow hd (Nat.pow_lt_pow_right (by decide) (by omega))
    · cases h
theorem stP_lt {b d e : Nat} {q : Bool} (hd : d < 2 ^ 44) (h : stP b q d = some e) : e < 2 ^ 44 := by
  unfold stP at h
  split at h
  · cases h; exact hd
  · cases h
theorem fm_44 {F : Nat → Option Nat} {L : List Nat} (hF : ∀ d e, d < 2 ^ 44 → F d = some e → e < 2 ^ 44) (h : ∀ e ∈ L, e < 2 ^ 44) : ∀ e ∈ L.filterMap F, e < 2 ^ 44 := by
  intro e he
  obtain ⟨d, h1, h2⟩ := List.mem_filterMap.mp he
  exact hF d e (h d h1) h2
theorem fm_len {F : Nat → Option Nat} {L : List Nat} (h : L.length ≤ 5040) : (L.filterMap F).length ≤ 5040 := Nat.le_trans (List.length_filterMap_le _ _) h
theorem li_16 {v g : Nat} (h : v < 16) (hg : g ≤ 3) : v ||| 1 * 2 ^ g < 16 := Nat.or_lt_two_pow (n := 4) h (by rw [Nat.one_mul]; exact Nat.pow_lt_pow_right (by decide) (by omega))
theorem piK_A {hd : Nat → Nat} {d : DT} {g cards : Nat} {Lp : Prop} [Decidable Lp] (h : piK d) (hg : g ≤ 3) (h12 : d.1 12 < 20) : piK (piA hd d g cards Lp) := by
  obtain ⟨a, b, c, e, f, i, j⟩ := h
  refine ⟨a, b, c, ?_, ?_, fm_len i, fm_44 (fun _ _ q1 q2 => stA_lt hg q1 q2) j⟩
  · show (if Lp then d.1 8 ||| 1 * 2 ^ g else d.1 8) < 16
    split
    · exact li_16 e hg
    · exact e
  · show d.1 12 + 1 ≤ 20
    omega
theorem piK_P {hd : Nat → Nat} {d : DT} {g c0 : Nat} (h : piK d) : piK (piP hd d g c0) := by
  obtain ⟨a, b, c, e, f, i, j⟩ := h
  exact ⟨a, b, c, e, f, fm_len i, fm_44 (fun _ _ q1 q2 => stP_lt q1 q2) j⟩
theorem piK_G {d : DT} {g : Nat} (h : piK d) : piK (piG d g) := by
  obtain ⟨a, b, c, e, f, i, j⟩ := h
  exact ⟨a, b, clr_lt _ _ c, e, f, i, j⟩
theorem i32_n (x : Int32) : ∃ k : Nat, x = nI k := ⟨x.toBitVec.toNat, by
  apply Int32.toBitVec_inj.mp
  show x.toBitVec = BitVec.ofNat 32 x.toBitVec.toNat
  rw [BitVec.ofNat_toNat, BitVec.setWidth_eq]⟩
theorem feN_le (c : Nat → Int) (n : Nat) : ∀ f i, feN c n f i ≤ (n : Int) + 12
  | 0, _ => by show (-1 : Int) ≤ _; omega
  | f + 1, i => by
    unfold feN
    split
    · split
      · exact feN_le c n f (itP c i)
      · have := itP_le c i; omega
    · omega
theorem feN_ge (c : Nat → Int) (n : Nat) : ∀ f i, -1 ≤ feN c n f i
  | 0, _ => by show (-1 : Int) ≤ -1; omega
  | f + 1, i => by
    unfold feN
    split
    · split
      · exact feN_ge c n f (itP c i)
      · omega
    · omega
theorem pr_ext (A : Nat × DT) (cn : Nat) : (cn + (A.1 + 1), A.2) = (cn + 1 + A.1, A.2) := by
  rw [Nat.add_assoc, Nat.add_comm 1]
