/-! plain lemmas, as in the claim whole -/
theorem hAt_bit {d p c : Nat} (h : c < 8) : (hAt d p).testBit c = d.testBit (8 * p + c) := by
  unfold hAt
  rw [show (256 : Nat) = 2 ^ 8 from rfl, Nat.testBit_mod_two_pow, Nat.testBit_div_two_pow, decide_eq_true h, Bool.true_and, Nat.add_comm]
theorem stA_lt {g cards ans d e : Nat} (hg : g ≤ 3) (hd : d < 2 ^ 44) (h : stA g cards ans d = some e) : e < 2 ^ 44 := by
  unfold stA at h
  split at h
  · cases h; exact hd
  · split at h
    · cases h; exact Nat.or_lt_two_pow hd (Nat.pow_lt_pow_right (by decide) (by omega))
    · cases h
theorem stP_lt {b d e : Nat} {q : Bool} (hd : d < 2 ^ 44) (h : stP b q d = some e) : e < 2 ^ 44 := by
  unfold stP at h
  split at h
  · cases h; exact hd
  · cases h
theorem fm_44 {F : Nat → Option Nat} {L : List Nat} (hF : ∀ d e, d < 2 ^ 44 → F d = some e → e < 2 ^ 44) (h : ∀ e ∈ L, e < 2 ^ 44) : ∀ e ∈ L.filterMap F, e < 2 ^ 44 := by
  intro e he
  obtain ⟨d, h1, h2⟩ := List.mem_filterMap.mp he
  exact hF d e (h d h1) h2
theorem fm_len {F : Nat → Option Nat} {L : List Nat} (h : L.length ≤ 5040) : (L.filterMap F).length ≤ 5040 := Nat.le_trans (List.length_filterMap_le _ _) h
theorem li_16 {v g : Nat} (h : v < 16) (hg : g ≤ 3) : v ||| 1 * 2 ^ g < 16 := Nat.or_lt_two_pow (n := 4) h (by rw [Nat.one_mul]; exact Nat.pow_lt_pow_right (by decide) (by omega))
theorem i32_n (x : Int32) : ∃ k : Nat, x = nI k := ⟨x.toBitVec.toNat, by
  apply Int32.toBitVec_inj.mp
  show x.toBitVec = BitVec.ofNat 32 x.toBitVec.toNat
  rw [BitVec.ofNat_toNat, BitVec.setWidth_eq]⟩
theorem bit_q {d c : Nat} : d.testBit c = decide (d / 2 ^ c &&& 1 = 1) := by
  rw [Nat.testBit_eq_decide_div_mod_eq, Nat.and_one_is_mod]
theorem b_or4 : ∀ v, v < 16 → ∀ g, g < 4 → ∀ j, j < 4 → (v ||| 1 * 2 ^ g) / 2 ^ j % 2 = if j = g then 1 else v / 2 ^ j % 2 := by decide +kernel
theorem b_clr : ∀ v, v < 16 → ∀ g, g < 4 → ∀ j, j < 4 → clr v g / 2 ^ j % 2 = if j = g then 0 else v / 2 ^ j % 2 := by decide +kernel
theorem x7_16 {x : Nat → Nat} (h : x 1 = 0 ∨ x 1 = 3 ∨ x 1 = 4) (h7 : x 7 < 2 ^ x 1) : x 7 < 16 := Nat.lt_of_lt_of_le h7 (by rcases h with e | e | e <;> rw [e] <;> decide)
theorem qtN_cg {ag ag' : Nat → Nat} {g : Nat} : ∀ n, (∀ i, i < n → ag i = ag' i) → qtN ag n g = qtN ag' n g
  | 0, _ => rfl
  | n + 1, h => by
    by_cases e : ag n = g
    · rw [qtN_t e, qtN_t ((h n (by omega)) ▸ e), qtN_cg n (fun i hi => h i (by omega))]
    · rw [qtN_f e, qtN_f ((h n (by omega)) ▸ e), qtN_cg n (fun i hi => h i (by omega))]
theorem opD_ok {n : Nat} {x : Nat → Nat} {z : Int} (hn : n = 3 ∨ n = 4) : (opD n x z).1 < 2147483648 ∧ ∀ g, (opD n x z).2.1 g < 256 := by
  have h := dl_inv (n := n) (cul := opC x z) (s0 := lcg (opS x z)) (lcg_lt _) (drw_lt _ (by decide)) 8 (Nat.le_refl _)
  exact ⟨h.1, fun g => h.2.1 g⟩
theorem hAt_tb {d p i : Nat} : (hAt d p).testBit i = (decide (i < 8) && d.testBit (8 * p + i)) := by
  by_cases h : i < 8
  · rw [hAt_bit h, decide_eq_true h, Bool.true_and]
  · rw [decide_eq_false h, Bool.false_and]
    exact Nat.testBit_lt_two_pow (Nat.lt_of_lt_of_le (hAt_lt d p) (by show 2 ^ 8 ≤ 2 ^ i; exact Nat.pow_le_pow_right (by decide) (by omega)))
theorem hAt_an (a d g : Nat) : hAt (a &&& d) g = hAt a g &&& hAt d g := by
  apply Nat.eq_of_testBit_eq
  intro i
  rw [Nat.testBit_and, hAt_tb, hAt_tb, hAt_tb, Nat.testBit_and]
  cases decide (i < 8) <;> simp
theorem hAt_or (a d g : Nat) : hAt (a ||| d) g = hAt a g ||| hAt d g := by
  apply Nat.eq_of_testBit_eq
  intro i
  rw [Nat.testBit_or, hAt_tb, hAt_tb, hAt_tb, Nat.testBit_or]
  cases decide (i < 8) <;> simp
theorem fo_and (g : Nat) : ∀ (L : List Nat) (a : Nat), hAt (L.foldl (· &&& ·) a) g = L.foldl (fun a d => a &&& hAt d g) (hAt a g)
  | [], _ => rfl
  | x :: L, a => by
    show hAt (L.foldl (· &&& ·) (a &&& x)) g = L.foldl (fun a d => a &&& hAt d g) (hAt a g &&& hAt x g)
    rw [fo_and g L, hAt_an]
theorem fo_or (g : Nat) : ∀ (L : List Nat) (a : Nat), hAt (L.foldl (· ||| ·) a) g = L.foldl (fun a d => a ||| hAt d g) (hAt a g)
  | [], _ => rfl
  | x :: L, a => by
    show hAt (L.foldl (· ||| ·) (a ||| x)) g = L.foldl (fun a d => a ||| hAt d g) (hAt a g ||| hAt x g)
    rw [fo_or g L, hAt_or]
theorem and_tb (i : Nat) : ∀ (L : List Nat) (a : Nat), (L.foldl (· &&& ·) a).testBit i = true ↔ a.testBit i = true ∧ ∀ d ∈ L, d.testBit i = true
  | [], a => ⟨fun h => ⟨h, fun _ h => by cases h⟩, fun h => h.1⟩
  | x :: L, a => by
    show (L.foldl (· &&& ·) (a &&& x)).testBit i = true ↔ _
    rw [and_tb i L, Nat.testBit_and, Bool.and_eq_true]
    constructor
    · intro h
      refine ⟨h.1.1, fun d hd => ?_⟩
      rcases List.mem_cons.mp hd with e | e
      · rw [e]; exact h.1.2
      · exact h.2 d e
    · intro h
      exact ⟨⟨h.1, h.2 x List.mem_cons_self⟩, fun d hd => h.2 d (List.mem_cons_of_mem _ hd)⟩
theorem or_tb (i : Nat) : ∀ (L : List Nat) (a : Nat), (L.foldl (· ||| ·) a).testBit i = true ↔ a.testBit i = true ∨ ∃ d ∈ L, d.testBit i = true
  | [], a => ⟨fun h => Or.inl h, fun h => h.elim id (fun ⟨_, h, _⟩ => by cases h)⟩
  | x :: L, a => by
    show (L.foldl (· ||| ·) (a ||| x)).testBit i = true ↔ _
    rw [or_tb i L, Nat.testBit_or, Bool.or_eq_true]
    constructor
    · rintro ((h | h) | ⟨d, h1, h2⟩)
      · exact Or.inl h
      · exact Or.inr ⟨x, List.mem_cons_self, h⟩
      · exact Or.inr ⟨d, List.mem_cons_of_mem _ h1, h2⟩
    · rintro (h | ⟨d, h1, h2⟩)
      · exact Or.inl (Or.inl h)
      · rcases List.mem_cons.mp h1 with e | e
        · exact Or.inl (Or.inr (e ▸ h2))
        · exact Or.inr ⟨d, e, h2⟩
theorem cnt_add {p q r : Nat → Bool} (h1 : ∀ d, r d = (p d || q d)) (h2 : ∀ d, p d = true → q d = false) : ∀ L : List Nat, L.countP r = L.countP p + L.countP q
  | [] => rfl
  | x :: L => by
    rw [List.countP_cons, List.countP_cons, List.countP_cons, cnt_add h1 h2 L, h1 x]
    cases e : p x with
    | false => cases q x <;> simp <;> omega
    | true => rw [h2 x e]; simp; omega
theorem cnt_cg {p q : Nat → Bool} (h : ∀ d, p d = q d) (L : List Nat) : L.countP p = L.countP q := by
  rw [show p = q from funext h]
theorem bh_go (L : List Nat) (g : Nat) : ∀ k, fb_sm (bhN L g) k = L.countP (fun d => d.testBit (40 + g) && decide (hAt d g < k))
  | 0 => by
    rw [cnt_cg (p := fun d => d.testBit (40 + g) && decide (hAt d g < 0)) (q := fun _ => false) (fun d => by rw [decide_eq_false (Nat.not_lt_zero _), Bool.and_false]) L, List.countP_eq_zero.mpr (fun _ _ => by decide)]; rfl
  | k + 1 => by
    rw [fb_sm_succ, bh_go L g k]
    symm
    refine cnt_add (fun d => ?_) (fun d hd => ?_) L
    · cases d.testBit (40 + g) with
      | false => rfl
      | true =>
        simp only [Bool.true_and]
        rw [Bool.eq_iff_iff, Bool.or_eq_true, decide_eq_true_iff, decide_eq_true_iff, beq_iff_eq]; omega
    · simp only [Bool.and_eq_true, decide_eq_true_eq] at hd
      rw [hd.1, Bool.true_and]
      exact beq_false_of_ne (by omega)
theorem bh_le {L : List Nat} {g : Nat} (h : L.length ≤ 5040) : fb_sm (bhN L g) 256 ≤ 5040 ∧ stN L g ≤ 5040 := by
  rw [bh_go]
  exact ⟨Nat.le_trans List.countP_le_length h, Nat.le_trans List.countP_le_length h⟩
theorem bq_pos {M : Nat → Nat} : ∀ k, ¬ (bqN M k).1 = 0
  | 0 => by show ¬ 1 = 0; decide
  | k + 1 => by
    rw [bqN]; split
    · show ¬ k + 2 = 0; omega
    · exact bq_pos k
