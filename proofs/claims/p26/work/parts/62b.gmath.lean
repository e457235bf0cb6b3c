/-! what the law sums up of the guests -/
theorem three {b : Nat} {S : ST} (hG : G b S) : E0 (stD S) ∨ (E1 (stD S) ∧ dX (stD S) 2 = 1) ∨ (E1 (stD S) ∧ dX (stD S) 2 = 0) := by
  have h2 := EI_2 (G_E hG)
  rcases (G_E hG).2 with z | z
  · exact Or.inl z
  · rcases (show dX (stD S) 2 = 1 ∨ dX (stD S) 2 = 0 by omega) with w | w
    · exact Or.inr (Or.inl ⟨z, w⟩)
    · exact Or.inr (Or.inr ⟨z, w⟩)
theorem here_n : ∀ n, n ≤ 4 → ∀ v, v < 2 ^ n → fb_sm (fun g => v / 2 ^ g &&& 1) n = pc8 v := by decide +kernel
theorem ind_sm (v : Nat) : ∀ n, fb_sm (fun g => if v = g then 1 else 0) n = if v < n then 1 else 0
  | 0 => by rw [if_neg (Nat.not_lt_zero v)]; rfl
  | n + 1 => by
    rw [fb_sm_succ, ind_sm v n]
    by_cases e : v = n
    · rw [if_neg (by omega), if_pos e, if_pos (by omega)]
    · rw [if_neg e]
      by_cases z : v < n
      · rw [if_pos z, if_pos (by omega)]
      · rw [if_neg z, if_neg (by omega)]
theorem ask_n {ag : Nat → Nat} {n : Nat} : ∀ m, (∀ i, i < m → ag i < n) → fb_sm (fun g => qtN ag m g) n = m
  | 0, _ => by
    have e : (fun g => qtN ag 0 g) = fun _ => 0 := rfl
    rw [e, fb_sm_const, Nat.mul_zero]
  | m + 1, h => by
    have e : ∀ g, qtN ag (m + 1) g = qtN ag m g + (if ag m = g then 1 else 0) := fun g => by
      by_cases z : ag m = g
      · rw [qtN_t z, if_pos z]
      · rw [qtN_f z, if_neg z, Nat.add_zero]
    rw [fb_sm_cong (g := fun g => qtN ag m g + (if ag m = g then 1 else 0)) (fun k _ => e k), fb_sm_add, ask_n m (fun i hi => h i (by omega)), ind_sm, if_pos (h m (by omega))]
theorem sz_7 {n : Nat} (h : n = 3 ∨ n = 4) : fb_sm (fun g => szH n g) n = 7 := by rcases h with rfl | rfl <;> rfl
/-- the hands together -/
def orN (hd : Nat → Nat) : Nat → Nat
  | 0 => 0
  | k + 1 => orN hd k ||| hd k
theorem orN_tb (hd : Nat → Nat) (i : Nat) : ∀ k, (orN hd k).testBit i = true ↔ ∃ j, j < k ∧ (hd j).testBit i = true
  | 0 => ⟨fun h => absurd h (by rw [orN, Nat.zero_testBit]; decide), fun ⟨j, h, _⟩ => absurd h (Nat.not_lt_zero j)⟩
  | k + 1 => by
    rw [orN, Nat.testBit_or, Bool.or_eq_true, orN_tb hd i k]
    constructor
    · rintro (⟨j, h1, h2⟩ | h)
      · exact ⟨j, by omega, h2⟩
      · exact ⟨k, by omega, h⟩
    · rintro ⟨j, h1, h2⟩
      by_cases e : j = k
      · subst e; exact Or.inr h2
      · exact Or.inl ⟨j, by omega, h2⟩
theorem tb_256 {x i : Nat} (h : x < 256) (hi : 8 ≤ i) : x.testBit i = false := Nat.testBit_lt_two_pow (Nat.lt_of_lt_of_le h (by show 2 ^ 8 ≤ 2 ^ i; exact Nat.pow_le_pow_right (by decide) hi))
theorem orN_lt {hd : Nat → Nat} (h : ∀ g, hd g < 256) : ∀ k, orN hd k < 256
  | 0 => by show 0 < 256; decide
  | k + 1 => Nat.or_lt_two_pow (n := 8) (orN_lt h k) (h k)
theorem tb_cb {d q c : Nat} (h : (hAt d q).testBit c = true) (hc : c < 8) : cb d q c = 1 := by
  rw [cb_tb, ← hAt_bit hc, h]; rfl
theorem cb_one {d q c : Nat} (h : cb d q c = 1) (hc : c < 8) : (hAt d q).testBit c = true := by
  rw [cb_tb] at h; rw [hAt_bit hc]
  cases e : d.testBit (8 * q + c) with
  | true => rfl
  | false => rw [e] at h; cases h
theorem VD_one {n d a b c : Nat} (h : VD n d) (ha : a < 5) (hb : b < 5) (hc : c < 8) (h1 : cb d a c = 1) (h2 : cb d b c = 1) : a = b := by
  have h3 := h.1 c hc
  rcases (show a = 0 ∨ a = 1 ∨ a = 2 ∨ a = 3 ∨ a = 4 by omega) with rfl | rfl | rfl | rfl | rfl <;> rcases (show b = 0 ∨ b = 1 ∨ b = 2 ∨ b = 3 ∨ b = 4 by omega) with rfl | rfl | rfl | rfl | rfl <;> first | rfl | omega
/-- where a card lies -/
theorem VD_at {n d c : Nat} (hn : n = 3 ∨ n = 4) (h : VD n d) (hc : c < 8) : (∃ g, g < n ∧ cb d g c = 1) ∨ cb d 4 c = 1 := by
  have h3 := h.1 c hc
  have l0 := cb_le d 0 c
  have l1 := cb_le d 1 c
  have l2 := cb_le d 2 c
  have l3 := cb_le d 3 c
  have l4 := cb_le d 4 c
  by_cases e0 : cb d 0 c = 1
  · exact Or.inl ⟨0, by omega, e0⟩
  · by_cases e1 : cb d 1 c = 1
    · exact Or.inl ⟨1, by omega, e1⟩
    · by_cases e2 : cb d 2 c = 1
      · exact Or.inl ⟨2, by omega, e2⟩
      · by_cases e3 : cb d 3 c = 1
        · rcases hn with rfl | rfl
          · have z := h.2 3 (by decide)
            rw [pc8_cb] at z
            have z2 : szH 3 3 = 0 := rfl
            rw [z2] at z
            rcases (show c = 0 ∨ c = 1 ∨ c = 2 ∨ c = 3 ∨ c = 4 ∨ c = 5 ∨ c = 6 ∨ c = 7 by omega) with rfl | rfl | rfl | rfl | rfl | rfl | rfl | rfl <;> omega
          · exact Or.inl ⟨3, by decide, e3⟩
        · exact Or.inr (by omega)
theorem hd_disj {n : Nat} {hd : Nat → Nat} {c0 li : Nat} {L : List Nat} (h : LOk n hd c0 li L) (hh : ∀ g, hd g < 256) (hn : n ≤ 4) {k : Nat} (hk : k < n) : hd k &&& orN hd k = 0 := by
  obtain ⟨-, h2, e, h3, h4, -, -⟩ := h
  have hv := (h2 e h3).1
  apply Nat.eq_of_testBit_eq
  intro i
  rw [Nat.zero_testBit, Nat.testBit_and]
  rcases Nat.lt_or_ge i 8 with hi | hi
  · cases e1 : (hd k).testBit i with
    | false => rfl
    | true =>
      cases e2 : (orN hd k).testBit i with
      | false => rfl
      | true =>
        obtain ⟨j, j1, j2⟩ := (orN_tb hd i k).mp e2
        have q1 : cb e k i = 1 := tb_cb (by rw [h4 k hk]; exact e1) hi
        have q2 : cb e j i = 1 := tb_cb (by rw [h4 j (by omega)]; exact j2) hi
        have := VD_one hv (by omega) (by omega) hi q1 q2
        omega
  · rw [tb_256 (hh k) hi]; rfl
theorem or_full {n : Nat} {hd : Nat → Nat} {c0 li : Nat} {L : List Nat} (h : LOk n hd c0 li L) (hh : ∀ g, hd g < 256) (hn : n = 3 ∨ n = 4) (hc : c0 < 8) : orN hd n ||| 1 * 2 ^ c0 = 255 := by
  obtain ⟨-, h2, e, h3, h4, h5, -⟩ := h
  have hv := (h2 e h3).1
  apply Nat.eq_of_testBit_eq
  intro i
  rw [Nat.testBit_or, Nat.one_mul, Nat.testBit_two_pow]
  rcases Nat.lt_or_ge i 8 with hi | hi
  · have e255 : (255 : Nat).testBit i = true := by
      rcases (show i = 0 ∨ i = 1 ∨ i = 2 ∨ i = 3 ∨ i = 4 ∨ i = 5 ∨ i = 6 ∨ i = 7 by omega) with rfl | rfl | rfl | rfl | rfl | rfl | rfl | rfl <;> decide
    rw [e255, Bool.or_eq_true]
    rcases VD_at hn hv hi with ⟨g, g1, g2⟩ | g
    · left
      exact (orN_tb hd i n).mpr ⟨g, g1, by rw [← h4 g g1]; exact cb_one g2 hi⟩
    · right
      have := cb_one g hi
      rw [h5, Nat.testBit_two_pow] at this
      exact this
  · rw [tb_256 (orN_lt hh n) hi, tb_256 (by decide) hi, decide_eq_false (by omega)]; rfl
theorem no_cul {n : Nat} {hd : Nat → Nat} {c0 li : Nat} {L : List Nat} (h : LOk n hd c0 li L) (hn : n ≤ 4) (hc : c0 < 8) : orN hd n / 2 ^ c0 &&& 1 = 0 := by
  obtain ⟨-, h2, e, h3, h4, h5, -⟩ := h
  have hv := (h2 e h3).1
  have hb : ¬ (orN hd n).testBit c0 = true := fun z => by
    obtain ⟨j, j1, j2⟩ := (orN_tb hd c0 n).mp z
    have q1 : cb e j c0 = 1 := tb_cb (by rw [h4 j j1]; exact j2) hc
    have q2 : cb e 4 c0 = 1 := tb_cb (by rw [h5, Nat.testBit_two_pow, decide_eq_true rfl]) hc
    have := VD_one hv (by omega) (by decide) hc q1 q2
    omega
  rw [bit_q] at hb
  have := Nat.and_le_right (n := orN hd n / 2 ^ c0) (m := 1)
  have h9 : ¬ (orN hd n / 2 ^ c0 &&& 1 = 1) := fun z => hb (decide_eq_true z)
  omega
