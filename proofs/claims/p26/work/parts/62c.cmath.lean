/-! the law's counts over the possible deals -/
def wD (L : List Nat) (q c : Nat) : Nat := L.countP (fun d => d.testBit (8 * q + c))
theorem wD_le (L : List Nat) (q c : Nat) : wD L q c ≤ L.length := List.countP_le_length
theorem wD_cons (d : Nat) (L : List Nat) (q c : Nat) : wD (d :: L) q c = wD L q c + cb d q c := by
  unfold wD
  rw [List.countP_cons, cb_tb]
  cases d.testBit (8 * q + c) <;> rfl
theorem cb3_0 {d c : Nat} (h : VD 3 d) (hc : c < 8) : cb d 3 c = 0 := by
  have z := h.2 3 (by decide)
  rw [pc8_cb] at z
  have z2 : szH 3 3 = 0 := rfl
  rw [z2] at z
  rcases (show c = 0 ∨ c = 1 ∨ c = 2 ∨ c = 3 ∨ c = 4 ∨ c = 5 ∨ c = 6 ∨ c = 7 by omega) with rfl | rfl | rfl | rfl | rfl | rfl | rfl | rfl <;> omega
/-- every card lies somewhere -/
theorem held_all {n c : Nat} (hn : n = 3 ∨ n = 4) (hc : c < 8) : ∀ L : List Nat, (∀ d ∈ L, VD n d) → wD L 4 c + fb_sm (fun g => wD L g c) n = L.length
  | [], _ => by rcases hn with rfl | rfl <;> rfl
  | d :: L, h => by
    have ih := held_all hn hc L (fun e he => h e (List.mem_cons_of_mem _ he))
    have hd := h d List.mem_cons_self
    have h1 := hd.1 c hc
    rw [List.length_cons, wD_cons, fb_sm_cong (g := fun g => wD L g c + cb d g c) (fun k _ => wD_cons d L k c), fb_sm_add]
    rcases hn with rfl | rfl
    · have h3 := cb3_0 hd hc
      have e : fb_sm (fun g => cb d g c) 3 = 0 + cb d 0 c + cb d 1 c + cb d 2 c := rfl
      rw [e]; omega
    · have e : fb_sm (fun g => cb d g c) 4 = 0 + cb d 0 c + cb d 1 c + cb d 2 c + cb d 3 c := rfl
      rw [e]; omega
/-- every place has its number of cards -/
theorem sum_c {n q : Nat} (hq : q < 5) : ∀ L : List Nat, (∀ d ∈ L, VD n d) → fb_sm (fun c => wD L q c) 8 = L.length * szH n q
  | [], _ => by rw [List.length_nil, Nat.zero_mul]; rfl
  | d :: L, h => by
    have ih := sum_c hq L (fun e he => h e (List.mem_cons_of_mem _ he))
    have h2 := (h d List.mem_cons_self).2 q hq
    rw [pc8_cb] at h2
    rw [List.length_cons, fb_sm_cong (g := fun c => wD L q c + cb d q c) (fun k _ => wD_cons d L q k), fb_sm_add, ih, Nat.add_mul, Nat.one_mul]
    have e : fb_sm (fun c => cb d q c) 8 = 0 + cb d q 0 + cb d q 1 + cb d q 2 + cb d q 3 + cb d q 4 + cb d q 5 + cb d q 6 + cb d q 7 := rfl
    rw [e]; omega
/-- the cards that some have, as a set -/
def stS (W : Nat → Nat) : Nat → Nat
  | 0 => 0
  | c + 1 => stS W c ||| (if 0 < W c then 2 ^ c else 0)
def eqS (N : Nat) (W : Nat → Nat) : Nat → Nat
  | 0 => 0
  | c + 1 => eqS N W c ||| (if W c = N then 2 ^ c else 0)
theorem or_if {a k i : Nat} {P : Prop} [Decidable P] {Q : Prop} (h : a.testBit i = true ↔ i < k ∧ Q) (hP : i = k → (P ↔ Q)) : (a ||| (if P then 2 ^ k else 0)).testBit i = true ↔ i < k + 1 ∧ Q := by
  rw [Nat.testBit_or, Bool.or_eq_true, h]
  by_cases e : P
  · rw [if_pos e, Nat.testBit_two_pow, decide_eq_true_iff]
    constructor
    · rintro (w | w)
      · exact ⟨by omega, w.2⟩
      · exact ⟨by omega, (hP w.symm).mp e⟩
    · rintro ⟨w1, w2⟩
      by_cases w : i = k
      · exact Or.inr w.symm
      · exact Or.inl ⟨by omega, w2⟩
  · rw [if_neg e, Nat.zero_testBit]
    constructor
    · rintro (w | w)
      · exact ⟨by omega, w.2⟩
      · cases w
    · rintro ⟨w1, w2⟩
      by_cases w : i = k
      · exact absurd ((hP w).mpr w2) e
      · exact Or.inl ⟨by omega, w2⟩
theorem stS_tb (W : Nat → Nat) (i : Nat) : ∀ k, (stS W k).testBit i = true ↔ i < k ∧ 0 < W i
  | 0 => ⟨fun h => absurd h (by rw [stS, Nat.zero_testBit]; decide), fun h => absurd h.1 (Nat.not_lt_zero i)⟩
  | k + 1 => by
    rw [stS]
    exact or_if (stS_tb W i k) (fun e => by rw [e])
theorem eqS_tb (N : Nat) (W : Nat → Nat) (i : Nat) : ∀ k, (eqS N W k).testBit i = true ↔ i < k ∧ W i = N
  | 0 => ⟨fun h => absurd h (by rw [eqS, Nat.zero_testBit]; decide), fun h => absurd h.1 (Nat.not_lt_zero i)⟩
  | k + 1 => by
    rw [eqS]
    exact or_if (eqS_tb N W i k) (fun e => by rw [e])
theorem some_eq (L : List Nat) (q : Nat) : stS (fun c => wD L q c) 8 = hAt (orL L) q := by
  apply Nat.eq_of_testBit_eq
  intro i
  rw [Bool.eq_iff_iff, stS_tb, hAt_tb, Bool.and_eq_true, decide_eq_true_iff]
  unfold orL
  rw [or_tb, Nat.zero_testBit]
  constructor
  · rintro ⟨h1, h2⟩
    obtain ⟨d, d1, d2⟩ := List.countP_pos_iff.mp h2
    exact ⟨h1, Or.inr ⟨d, d1, d2⟩⟩
  · rintro ⟨h1, h2 | ⟨d, d1, d2⟩⟩
    · cases h2
    · exact ⟨h1, List.countP_pos_iff.mpr ⟨d, d1, d2⟩⟩
theorem all_eq {L : List Nat} {q : Nat} (hq : q < 5) : eqS L.length (fun c => wD L q c) 8 = hAt (andL L) q := by
  apply Nat.eq_of_testBit_eq
  intro i
  rw [Bool.eq_iff_iff, eqS_tb, hAt_tb, Bool.and_eq_true, decide_eq_true_iff]
  unfold andL
  rw [and_tb]
  constructor
  · rintro ⟨h1, h2⟩
    refine ⟨h1, ?_, fun d hd => List.countP_eq_length.mp h2 d hd⟩
    rw [show (18446744073709551615 : Nat) = 2 ^ 64 - 1 from rfl, Nat.testBit_two_pow_sub_one, decide_eq_true_iff]; omega
  · rintro ⟨h1, -, h2⟩
    exact ⟨h1, List.countP_eq_length.mpr h2⟩
/-- the best so far -/
def bsN (W : Nat → Nat) : Nat → Nat
  | 0 => 0
  | c + 1 => if W (bsN W c) < W c then c else bsN W c
theorem bsN_y {W : Nat → Nat} {c : Nat} (h : W (bsN W c) < W c) : bsN W (c + 1) = c := if_pos h
theorem bsN_n {W : Nat → Nat} {c : Nat} (h : W c ≤ W (bsN W c)) : bsN W (c + 1) = bsN W c := if_neg (Nat.not_lt.mpr h)
theorem bsN_le (W : Nat → Nat) : ∀ c, bsN W c ≤ c - 1
  | 0 => Nat.le_refl _
  | c + 1 => by
    have := bsN_le W c
    rw [bsN]; split <;> omega
theorem li_bs (W : Nat → Nat) : ∀ k, ((∀ i, i < k → W i = 0) ∧ bsN W k = 0 ∧ liH W k = (4294967295, 0)) ∨ (0 < W (bsN W k) ∧ liH W k = (bsN W k, W (bsN W k)))
  | 0 => Or.inl ⟨fun i h => absurd h (Nat.not_lt_zero i), rfl, rfl⟩
  | k + 1 => by
    rcases li_bs W k with ⟨h1, h2, h3⟩ | ⟨h1, h2⟩
    · by_cases e : 0 < W k
      · right
        have e1 : liH W (k + 1) = (k, W k) := liH_t (by rw [h3]; exact e)
        by_cases z : W (bsN W k) < W k
        · rw [bsN_y z]; exact ⟨e, e1⟩
        · have : bsN W k = k := by
            rw [h2] at z ⊢
            rcases Nat.eq_zero_or_pos k with w | w
            · exact w.symm
            · rw [h1 0 w] at z; exact absurd e z
          rw [bsN_n (Nat.not_lt.mp z), this]; exact ⟨e, e1⟩
      · left
        refine ⟨fun i hi => ?_, ?_, ?_⟩
        · by_cases w : i = k
          · rw [w]; omega
          · exact h1 i (by omega)
        · rw [bsN_n (by omega)]; exact h2
        · rw [liH_f (by rw [h3]; omega)]; exact h3
    · right
      by_cases z : W (bsN W k) < W k
      · rw [bsN_y z]
        exact ⟨by omega, liH_t (by rw [h2]; exact z)⟩
      · rw [bsN_n (Nat.not_lt.mp z)]
        exact ⟨h1, by rw [liH_f (by rw [h2]; exact Nat.not_lt.mp z)]; exact h2⟩
theorem li_pos {W : Nat → Nat} (h : 0 < fb_sm W 8) : (liH W 8).1 = bsN W 8 := by
  rcases li_bs W 8 with ⟨h1, -, -⟩ | ⟨-, h2⟩
  · rw [fb_sm_cong (g := fun _ => 0) h1, fb_sm_const] at h; omega
  · rw [h2]
theorem li_nil : (liH (fun q => ([] : List Nat).countP (fun d => d.testBit (8 * 4 + q))) 8).1 = 4294967295 := rfl
theorem E1_len {D : D7} (h : E1 D) : 0 < (dL D).length := by
  obtain ⟨-, -, -, -, -, -, -, -, -, e, h1, -⟩ := h
  exact List.length_pos_of_mem h1
theorem E1_VD {D : D7} (h : E1 D) : ∀ d ∈ dL D, VD (dX D 1) d := fun d hd => (h.2.2.2.2.2.2.2.2.1 d hd).1
theorem sz4 {n : Nat} (h : n = 3 ∨ n = 4) : szH n 4 = 1 := by rcases h with rfl | rfl <;> rfl
