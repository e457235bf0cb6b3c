/-! deals: each card at one place, each place with its number of cards -/
/-- whether the card c lies at the place q -/
def cb (d q c : Nat) : Nat := d / 2 ^ (8 * q + c) % 2
theorem cb_le (d q c : Nat) : cb d q c ≤ 1 := by unfold cb; omega
theorem cb_tb (d q c : Nat) : cb d q c = (d.testBit (8 * q + c)).toNat := by
  unfold cb; exact (Nat.toNat_testBit d (8 * q + c)).symm
theorem x8 (x : Nat) {c : Nat} (hc : c < 8) : x % 256 / 2 ^ c % 2 = x / 2 ^ c % 2 := by
  rcases (show c = 0 ∨ c = 1 ∨ c = 2 ∨ c = 3 ∨ c = 4 ∨ c = 5 ∨ c = 6 ∨ c = 7 by omega) with rfl | rfl | rfl | rfl | rfl | rfl | rfl | rfl <;> simp only [Nat.reducePow] <;> omega
theorem cb_hAt (d q : Nat) {c : Nat} (hc : c < 8) : hAt d q / 2 ^ c % 2 = cb d q c := by
  unfold hAt cb
  rw [x8 _ hc, Nat.div_div_eq_div_mul, ← Nat.pow_add]
theorem pc8_cb (d q : Nat) : pc8 (hAt d q) = cb d q 0 + cb d q 1 + cb d q 2 + cb d q 3 + cb d q 4 + cb d q 5 + cb d q 6 + cb d q 7 := by
  have h0 := cb_hAt d q (c := 0) (by decide)
  have h1 := cb_hAt d q (c := 1) (by decide)
  have h2 := cb_hAt d q (c := 2) (by decide)
  have h3 := cb_hAt d q (c := 3) (by decide)
  have h4 := cb_hAt d q (c := 4) (by decide)
  have h5 := cb_hAt d q (c := 5) (by decide)
  have h6 := cb_hAt d q (c := 6) (by decide)
  have h7 := cb_hAt d q (c := 7) (by decide)
  simp only [Nat.reducePow] at h0 h1 h2 h3 h4 h5 h6 h7
  unfold pc8
  omega
theorem cb_or (d : Nat) {q c q2 k : Nat} (hc : c < 8) (hk : k < 8) : cb (d ||| 2 ^ (8 * q + c)) q2 k = if q2 = q ∧ k = c then 1 else cb d q2 k := by
  rw [cb_tb, cb_tb, Nat.testBit_or, Nat.testBit_two_pow]
  by_cases h : q2 = q ∧ k = c
  · rw [if_pos h, h.1, h.2, decide_eq_true rfl, Bool.or_true]; rfl
  · rw [if_neg h, decide_eq_false (by omega), Bool.or_false]
theorem cb_ext {d e : Nat} (hd : d < 2 ^ 40) (he : e < 2 ^ 40) (h : ∀ q, q < 5 → ∀ k, k < 8 → cb d q k = cb e q k) : d = e := by
  apply Nat.eq_of_testBit_eq
  intro i
  rcases Nat.lt_or_ge i 40 with hi | hi
  · have h1 := h (i / 8) (by omega) (i % 8) (by omega)
    rw [cb_tb, cb_tb, Nat.div_add_mod] at h1
    cases e1 : d.testBit i <;> cases e2 : e.testBit i <;> rw [e1, e2] at h1 <;> first | rfl | (exact absurd h1 (by decide))
  · rw [Nat.testBit_lt_two_pow (Nat.lt_of_lt_of_le hd (Nat.pow_le_pow_right (by decide) hi)), Nat.testBit_lt_two_pow (Nat.lt_of_lt_of_le he (Nat.pow_le_pow_right (by decide) hi))]
/-- the first c cards are dealt -/
def Pd (n c d : Nat) : Prop := d < 2 ^ 40 ∧ (∀ k, k < 8 → cb d 0 k + cb d 1 k + cb d 2 k + cb d 3 k + cb d 4 k = if k < c then 1 else 0) ∧ ∀ q, q < 5 → pc8 (hAt d q) ≤ szH n q
/-- a deal, whatever its marks -/
def VD (n d : Nat) : Prop := (∀ k, k < 8 → cb d 0 k + cb d 1 k + cb d 2 k + cb d 3 k + cb d 4 k = 1) ∧ ∀ q, q < 5 → pc8 (hAt d q) = szH n q
theorem Pd_VD {n d : Nat} (hn : n = 3 ∨ n = 4) (h : Pd n 8 d) : VD n d := by
  obtain ⟨-, h2, h3⟩ := h
  have h2 : ∀ k, k < 8 → cb d 0 k + cb d 1 k + cb d 2 k + cb d 3 k + cb d 4 k = 1 := fun k hk => by have := h2 k hk; rw [if_pos hk] at this; exact this
  refine ⟨h2, ?_⟩
  have a0 := h2 0 (by decide)
  have a1 := h2 1 (by decide)
  have a2 := h2 2 (by decide)
  have a3 := h2 3 (by decide)
  have a4 := h2 4 (by decide)
  have a5 := h2 5 (by decide)
  have a6 := h2 6 (by decide)
  have a7 := h2 7 (by decide)
  have s0 := h3 0 (by decide)
  have s1 := h3 1 (by decide)
  have s2 := h3 2 (by decide)
  have s3 := h3 3 (by decide)
  have s4 := h3 4 (by decide)
  have p0 := pc8_cb d 0
  have p1 := pc8_cb d 1
  have p2 := pc8_cb d 2
  have p3 := pc8_cb d 3
  have p4 := pc8_cb d 4
  have z : szH n 0 + szH n 1 + szH n 2 + szH n 3 + szH n 4 = 8 := by rcases hn with rfl | rfl <;> rfl
  intro q hq
  rcases (show q = 0 ∨ q = 1 ∨ q = 2 ∨ q = 3 ∨ q = 4 by omega) with rfl | rfl | rfl | rfl | rfl <;> omega
theorem pc8_or1 {d q c : Nat} (hc : c < 8) (h : cb d q c = 0) : pc8 (hAt (d ||| 2 ^ (8 * q + c)) q) = pc8 (hAt d q) + 1 := by
  rw [pc8_cb, pc8_cb]
  have e : ∀ k, k < 8 → cb (d ||| 2 ^ (8 * q + c)) q k = if k = c then 1 else cb d q k := fun k hk => by
    rw [cb_or d hc hk]
    by_cases z : k = c
    · rw [if_pos ⟨rfl, z⟩, if_pos z]
    · rw [if_neg (fun w => z w.2), if_neg z]
  rw [e 0 (by decide), e 1 (by decide), e 2 (by decide), e 3 (by decide), e 4 (by decide), e 5 (by decide), e 6 (by decide), e 7 (by decide)]
  rcases (show c = 0 ∨ c = 1 ∨ c = 2 ∨ c = 3 ∨ c = 4 ∨ c = 5 ∨ c = 6 ∨ c = 7 by omega) with rfl | rfl | rfl | rfl | rfl | rfl | rfl | rfl <;> simp <;> omega
theorem pc8_orn {d q q2 c : Nat} (hc : c < 8) (h : q2 ≠ q) : pc8 (hAt (d ||| 2 ^ (8 * q + c)) q2) = pc8 (hAt d q2) := by
  rw [pc8_cb, pc8_cb]
  have e : ∀ k, k < 8 → cb (d ||| 2 ^ (8 * q + c)) q2 k = cb d q2 k := fun k hk => by
    rw [cb_or d hc hk, if_neg (fun z => h z.1)]
  rw [e 0 (by decide), e 1 (by decide), e 2 (by decide), e 3 (by decide), e 4 (by decide), e 5 (by decide), e 6 (by decide), e 7 (by decide)]
theorem Pd_step {n c d q : Nat} (hc : c < 8) (hq : q < 5) (h : Pd n c d) (hs : pc8 (hAt d q) < szH n q) : Pd n (c + 1) (d ||| 2 ^ (8 * q + c)) := by
  obtain ⟨h1, h2, h3⟩ := h
  have hz : cb d q c = 0 := by
    have := h2 c hc
    rw [if_neg (Nat.lt_irrefl c)] at this
    rcases (show q = 0 ∨ q = 1 ∨ q = 2 ∨ q = 3 ∨ q = 4 by omega) with rfl | rfl | rfl | rfl | rfl <;> omega
  refine ⟨or_40 h1 (by omega), ?_, ?_⟩
  · intro k hk
    have := h2 k hk
    rw [cb_or d hc hk, cb_or d hc hk, cb_or d hc hk, cb_or d hc hk, cb_or d hc hk]
    by_cases e : k = c
    · subst e
      rw [if_pos (Nat.lt_succ_self k)]
      rw [if_neg (Nat.lt_irrefl k)] at this
      rcases (show q = 0 ∨ q = 1 ∨ q = 2 ∨ q = 3 ∨ q = 4 by omega) with rfl | rfl | rfl | rfl | rfl <;> simp <;> omega
    · have e2 : ∀ r, ¬ (r = q ∧ k = c) := fun r z => e z.2
      rw [if_neg (e2 0), if_neg (e2 1), if_neg (e2 2), if_neg (e2 3), if_neg (e2 4), this]
      by_cases e3 : k < c
      · rw [if_pos e3, if_pos (by omega)]
      · rw [if_neg e3, if_neg (by omega)]
  · intro r hr
    by_cases e : r = q
    · subst e; rw [pc8_or1 hc hz]; omega
    · rw [pc8_orn hc e]; exact h3 r hr
theorem extS_mem {E : Nat → List Nat} {n c d e : Nat} : ∀ i, e ∈ extS E n c d i ↔ ∃ q, q < i ∧ pc8 (hAt d q) < szH n q ∧ e ∈ E (d ||| 2 ^ (8 * q + c))
  | 0 => ⟨fun h => absurd h List.not_mem_nil, fun ⟨q, h, _⟩ => absurd h (Nat.not_lt_zero q)⟩
  | i + 1 => by
    rw [extS, List.mem_append, extS_mem i]
    constructor
    · rintro (⟨q, h1, h2⟩ | h)
      · exact ⟨q, by omega, h2⟩
      · by_cases e1 : pc8 (hAt d i) < szH n i
        · rw [if_pos e1] at h; exact ⟨i, by omega, e1, h⟩
        · rw [if_neg e1] at h; exact absurd h List.not_mem_nil
    · rintro ⟨q, h1, h2, h3⟩
      by_cases e1 : q = i
      · subst e1; right; rw [if_pos h2]; exact h3
      · left; exact ⟨q, by omega, h2, h3⟩
theorem ext_Pd {n : Nat} : ∀ m, m ≤ 8 → ∀ d, Pd n (8 - m) d → ∀ e, e ∈ ext n m d → Pd n 8 e
  | 0, _, d, h, e, he => by
    rw [ext, List.mem_singleton] at he
    subst he; exact h
  | m + 1, hm, d, h, e, he => by
    rw [ext, extS_mem] at he
    obtain ⟨q, h1, h2, h3⟩ := he
    refine ext_Pd m (by omega) _ ?_ e h3
    have := Pd_step (c := 7 - m) (by omega) h1 (by rw [show 7 - m = 8 - (m + 1) by omega]; exact h) h2
    rw [show 7 - m + 1 = 8 - m by omega] at this
    exact this
theorem Pd_0 (n : Nat) : Pd n 0 0 := by
  refine ⟨by decide, fun k _ => ?_, fun q _ => ?_⟩
  · have : ∀ q k, cb 0 q k = 0 := fun q k => by unfold cb; rw [Nat.zero_div]
    rw [this, this, this, this, this]; rfl
  · have : hAt 0 q = 0 := by unfold hAt; rw [Nat.zero_div]
    rw [this]; exact Nat.zero_le _
/-- every deal of the full row is one -/
theorem ext_VD {n : Nat} (hn : n = 3 ∨ n = 4) {e : Nat} (h : e ∈ ext n 8 0) : VD n e ∧ e < 2 ^ 40 :=
  have h1 := ext_Pd (n := n) 8 (Nat.le_refl _) 0 (Pd_0 n) e h
  ⟨Pd_VD hn h1, h1.1⟩
theorem ext_all {n e : Nat} (he : Pd n 8 e) : ∀ m, m ≤ 8 → ∀ d, d < 2 ^ 40 → (∀ q, q < 5 → ∀ k, k < 8 → cb d q k = if k < 8 - m then cb e q k else 0) → e ∈ ext n m d
  | 0, _, d, hd, h => by
    rw [ext, List.mem_singleton]
    refine cb_ext he.1 hd (fun q hq k hk => ?_)
    rw [h q hq k hk, if_pos hk]
  | m + 1, hm, d, hd, h => by
    obtain ⟨he1, he2, he3⟩ := id he
    have hc : 7 - m < 8 := by omega
    obtain ⟨q, hq, h1, ho⟩ : ∃ q, q < 5 ∧ cb e q (7 - m) = 1 ∧ ∀ r, r < 5 → r ≠ q → cb e r (7 - m) = 0 := by
      have h9 := he2 (7 - m) hc
      rw [if_pos hc] at h9
      have l0 := cb_le e 0 (7 - m)
      have l1 := cb_le e 1 (7 - m)
      have l2 := cb_le e 2 (7 - m)
      have l3 := cb_le e 3 (7 - m)
      have l4 := cb_le e 4 (7 - m)
      have pick : ∀ q, q < 5 → cb e q (7 - m) = 1 → ∃ q, q < 5 ∧ cb e q (7 - m) = 1 ∧ ∀ r, r < 5 → r ≠ q → cb e r (7 - m) = 0 := fun q hq h1 => ⟨q, hq, h1, fun r hr hn => by
        rcases (show q = 0 ∨ q = 1 ∨ q = 2 ∨ q = 3 ∨ q = 4 by omega) with rfl | rfl | rfl | rfl | rfl <;> rcases (show r = 0 ∨ r = 1 ∨ r = 2 ∨ r = 3 ∨ r = 4 by omega) with rfl | rfl | rfl | rfl | rfl <;> omega⟩
      rcases (show cb e 0 (7 - m) = 1 ∨ cb e 1 (7 - m) = 1 ∨ cb e 2 (7 - m) = 1 ∨ cb e 3 (7 - m) = 1 ∨ cb e 4 (7 - m) = 1 by omega) with z | z | z | z | z
      · exact pick 0 (by decide) z
      · exact pick 1 (by decide) z
      · exact pick 2 (by decide) z
      · exact pick 3 (by decide) z
      · exact pick 4 (by decide) z
    have hn : ∀ r, r < 5 → ∀ k, k < 8 → cb (d ||| 2 ^ (8 * q + (7 - m))) r k = if k < 8 - m then cb e r k else 0 := by
      intro r hr k hk
      rw [cb_or d hc hk]
      by_cases z : r = q ∧ k = 7 - m
      · rw [if_pos z, if_pos (by omega), z.1, z.2, h1]
      · rw [if_neg z, h r hr k hk]
        by_cases z2 : k < 8 - (m + 1)
        · rw [if_pos z2, if_pos (by omega)]
        · rw [if_neg z2]
          by_cases z3 : k < 8 - m
          · rw [if_pos z3]
            have z4 : k = 7 - m := by omega
            subst z4
            exact (ho r hr (fun w => z ⟨w, rfl⟩)).symm
          · rw [if_neg z3]
    have h0 : cb d q (7 - m) = 0 := by rw [h q hq _ hc, if_neg (by omega)]
    rw [ext, extS_mem]
    refine ⟨q, hq, ?_, ext_all he m (by omega) _ (or_40 hd (by omega)) hn⟩
    have p1 := pc8_or1 hc h0
    have p2 : pc8 (hAt (d ||| 2 ^ (8 * q + (7 - m))) q) ≤ pc8 (hAt e q) := by
      rw [pc8_cb, pc8_cb]
      have le : ∀ k, k < 8 → cb (d ||| 2 ^ (8 * q + (7 - m))) q k ≤ cb e q k := fun k hk => by
        rw [hn q hq k hk]; split
        · exact Nat.le_refl _
        · exact Nat.zero_le _
      have l0 := le 0 (by decide)
      have l1 := le 1 (by decide)
      have l2 := le 2 (by decide)
      have l3 := le 3 (by decide)
      have l4 := le 4 (by decide)
      have l5 := le 5 (by decide)
      have l6 := le 6 (by decide)
      have l7 := le 7 (by decide)
      omega
    have p3 := he3 q hq
    omega
theorem ext_in {n e : Nat} (he : Pd n 8 e) : e ∈ ext n 8 0 := ext_all he 8 (Nat.le_refl _) 0 (by decide) (fun q _ k _ => by
  rw [if_neg (by omega)]; unfold cb; rw [Nat.zero_div])
/-! the real deal -/
def rdl (hd : Nat → Nat) (cu : Nat) : Nat := hd 0 + 256 * hd 1 + 65536 * hd 2 + 16777216 * hd 3 + 4294967296 * 2 ^ cu
theorem p2_256 {c : Nat} (h : c < 8) : 2 ^ c ≤ 128 := by
  rcases (show c = 0 ∨ c = 1 ∨ c = 2 ∨ c = 3 ∨ c = 4 ∨ c = 5 ∨ c = 6 ∨ c = 7 by omega) with rfl | rfl | rfl | rfl | rfl | rfl | rfl | rfl <;> decide
theorem rdl_at {hd : Nat → Nat} {cu : Nat} (hh : ∀ g, hd g < 256) (hc : cu < 8) : hAt (rdl hd cu) 0 = hd 0 ∧ hAt (rdl hd cu) 1 = hd 1 ∧ hAt (rdl hd cu) 2 = hd 2 ∧ hAt (rdl hd cu) 3 = hd 3 ∧ hAt (rdl hd cu) 4 = 2 ^ cu ∧ rdl hd cu < 2 ^ 40 := by
  have h0 := hh 0
  have h1 := hh 1
  have h2 := hh 2
  have h3 := hh 3
  have h4 := p2_256 hc
  unfold rdl hAt
  generalize 2 ^ cu = v at h4
  simp only [Nat.reduceMul, Nat.reducePow]
  omega
/-- a card in a hand -/
def hb (h k : Nat) : Nat := h / 2 ^ k % 2
theorem hb_tb (h k : Nat) : hb h k = (h.testBit k).toNat := by unfold hb; exact (Nat.toNat_testBit h k).symm
theorem hb_or (h : Nat) (c k : Nat) : hb (h ||| 1 * 2 ^ c) k = if k = c then 1 else hb h k := by
  rw [hb_tb, hb_tb, Nat.one_mul, Nat.testBit_or, Nat.testBit_two_pow]
  by_cases e : k = c
  · rw [if_pos e, e, decide_eq_true rfl, Bool.or_true]; rfl
  · rw [if_neg e, decide_eq_false (by omega), Bool.or_false]
theorem hb_p2 (c k : Nat) : hb (2 ^ c) k = if k = c then 1 else 0 := by
  rw [hb_tb, Nat.testBit_two_pow]
  by_cases e : k = c
  · rw [if_pos e, e, decide_eq_true rfl]; rfl
  · rw [if_neg e, decide_eq_false (by omega)]; rfl
/-- how many places are free from the guest g on -/
def fre (n : Nat) (hd : Nat → Nat) : Nat → Nat → Nat
  | 0, _ => 0
  | k + 1, g => (szH n g - pc8 (hd g)) + fre n hd k (g + 1)
theorem hoG_lt {n : Nat} {hd : Nat → Nat} {pl : Nat} : ∀ k g b, pl < b + fre n hd k g → hoG n hd pl k g b < g + k ∧ g ≤ hoG n hd pl k g b ∨ pl < b
  | 0, g, b, h => Or.inr (by have : fre n hd 0 g = 0 := rfl; omega)
  | k + 1, g, b, h => by
    by_cases e : pl < b + (szH n g - pc8 (hd g))
    · rw [hoG_t (by omega) e]; exact Or.inl ⟨by omega, Nat.le_refl _⟩
    · rw [hoG_s (by omega) (by omega)]
      have h2 : fre n hd (k + 1) g = (szH n g - pc8 (hd g)) + fre n hd k (g + 1) := rfl
      have h3 : k + 1 - 1 = k := rfl
      rw [h3]
      rcases hoG_lt (n := n) (hd := hd) (pl := pl) k (g + 1) (b + (szH n g - pc8 (hd g))) (by omega) with z | z
      · exact Or.inl ⟨by omega, by omega⟩
      · omega
/-- what dealing keeps: each dealt card in one hand -/
def dlJ (n cul c : Nat) (hd : Nat → Nat) : Prop := (∀ k, k < 8 → hb (hd 0) k + hb (hd 1) k + hb (hd 2) k + hb (hd 3) k = if k < c ∧ k ≠ cul then 1 else 0) ∧ (∀ g, n ≤ g → hd g = 0) ∧ pc8 (hd 0) + pc8 (hd 1) + pc8 (hd 2) + pc8 (hd 3) + (if cul < c then 1 else 0) = c
theorem dl_own {n cul s0 : Nat} (hn : n = 3 ∨ n = 4) (hs : s0 < 2147483648) (hc : cul < 8) : ∀ c, c ≤ 8 → dlJ n cul c (dlS n cul s0 c).2.1
  | 0, _ => ⟨fun k hk => by
      rw [if_neg (by omega)]
      show hb 0 k + hb 0 k + hb 0 k + hb 0 k = 0
      unfold hb; rw [Nat.zero_div], fun _ _ => rfl, by rw [if_neg (Nat.not_lt_zero cul)]; show pc8 0 + pc8 0 + pc8 0 + pc8 0 + 0 = 0; decide⟩
  | c + 1, hle => by
    obtain ⟨j1, j2, j3⟩ := dl_own hn hs hc c (by omega)
    obtain ⟨i1, i2, i3, i4⟩ := dl_inv (n := n) hs hc c (by omega)
    by_cases e : c = cul
    · rw [dlS_c e]
      refine ⟨fun k hk => ?_, j2, ?_⟩
      · rw [j1 k hk]
        by_cases z : k < c ∧ k ≠ cul
        · rw [if_pos z, if_pos ⟨by omega, z.2⟩]
        · rw [if_neg z, if_neg (by omega)]
      · rw [if_neg (by omega)] at j3
        rw [if_pos (by omega)]; omega
    · rw [dlS_n e]
      show dlJ n cul (c + 1) (giv n (dlS n cul s0 c).2.1 c (drw (dlS n cul s0 c).1 (dlS n cul s0 c).2.2))
      generalize (dlS n cul s0 c).2.1 = hd at j1 j2 j3 i2 i3
      generalize drw (dlS n cul s0 c).1 (dlS n cul s0 c).2.2 = pl, (drw_lt (dlS n cul s0 c).1 (m := (dlS n cul s0 c).2.2) (by rw [i4]; split <;> omega)) = hpl
      rw [i4] at hpl
      have hfr : fre n hd n 0 = 7 + (if cul < c then 1 else 0) - c := by
        rcases hn with rfl | rfl
        · have s0 := i3 0 (by decide)
          have s1 := i3 1 (by decide)
          have s2 := i3 2 (by decide)
          have z3 : pc8 (hd 3) = 0 := by rw [j2 3 (Nat.le_refl _)]; rfl
          show (3 - pc8 (hd 0)) + ((2 - pc8 (hd 1)) + ((2 - pc8 (hd 2)) + 0)) = _
          have e0 : szH 3 0 = 3 := rfl
          have e1 : szH 3 1 = 2 := rfl
          have e2 : szH 3 2 = 2 := rfl
          rw [e0] at s0; rw [e1] at s1; rw [e2] at s2
          split at j3 <;> simp only [*, if_true, if_false] <;> omega
        · have s0 := i3 0 (by decide)
          have s1 := i3 1 (by decide)
          have s2 := i3 2 (by decide)
          have s3 := i3 3 (by decide)
          show (2 - pc8 (hd 0)) + ((2 - pc8 (hd 1)) + ((2 - pc8 (hd 2)) + ((1 - pc8 (hd 3)) + 0))) = _
          have e0 : szH 4 0 = 2 := rfl
          have e1 : szH 4 1 = 2 := rfl
          have e2 : szH 4 2 = 2 := rfl
          have e3 : szH 4 3 = 1 := rfl
          rw [e0] at s0; rw [e1] at s1; rw [e2] at s2; rw [e3] at s3
          split at j3 <;> simp only [*, if_true, if_false] <;> omega
      obtain ⟨hg, -⟩ : hoG n hd pl n 0 0 < 0 + n ∧ 0 ≤ hoG n hd pl n 0 0 := (hoG_lt n 0 0 (by omega)).elim id (fun z => absurd z (Nat.not_lt_zero _))
      rw [Nat.zero_add] at hg
      rw [giv_t rfl hg]
      generalize hoG n hd pl n 0 0 = g at hg
      have hgl : g < 4 := by omega
      have hp : pc8 (hd g ||| 1 * 2 ^ c) = pc8 (hd g) + 1 := pc8_or (by omega) (i2 g)
      refine ⟨fun k hk => ?_, fun r hr => ?_, ?_⟩
      · have q1 := j1 k hk
        have q2 : ∀ r, hb (va_up hd g (hd g ||| 1 * 2 ^ c) r) k = if r = g ∧ k = c then 1 else hb (hd r) k := fun r => by
          unfold va_up
          by_cases z : r = g
          · rw [if_pos z, hb_or, z]
            by_cases w : k = c
            · rw [if_pos w, if_pos ⟨rfl, w⟩]
            · rw [if_neg w, if_neg (fun v => w v.2)]
          · rw [if_neg z, if_neg (fun v => z v.1)]
        rw [q2, q2, q2, q2]
        by_cases w : k = c
        · subst w
          rw [if_neg (by omega)] at q1
          rw [if_pos (show k < k + 1 ∧ k ≠ cul from ⟨by omega, e⟩)]
          rcases (show g = 0 ∨ g = 1 ∨ g = 2 ∨ g = 3 by omega) with rfl | rfl | rfl | rfl <;> simp <;> omega
        · have w2 : ∀ r, ¬ (r = g ∧ k = c) := fun r z => w z.2
          rw [if_neg (w2 0), if_neg (w2 1), if_neg (w2 2), if_neg (w2 3), q1]
          by_cases z : k < c ∧ k ≠ cul
          · rw [if_pos z, if_pos ⟨by omega, z.2⟩]
          · rw [if_neg z, if_neg (by omega)]
      · unfold va_up; rw [if_neg (by omega)]; exact j2 r hr
      · have e9 : (if cul < c + 1 then 1 else 0) = (if cul < c then 1 else 0) := by
          by_cases z : cul < c
          · rw [if_pos z, if_pos (by omega)]
          · rw [if_neg z, if_neg (by omega)]
        rw [e9]
        have q2 : ∀ r, pc8 (va_up hd g (hd g ||| 1 * 2 ^ c) r) = if r = g then pc8 (hd g) + 1 else pc8 (hd r) := fun r => by
          unfold va_up
          by_cases z : r = g
          · rw [if_pos z, if_pos z, hp]
          · rw [if_neg z, if_neg z]
        rw [q2, q2, q2, q2]
        rcases (show g = 0 ∨ g = 1 ∨ g = 2 ∨ g = 3 by omega) with rfl | rfl | rfl | rfl <;> simp <;> omega
theorem pc8_p2 : ∀ c, c < 8 → pc8 (2 ^ c) = 1 := by decide
/-- the real deal is one of the full row -/
theorem rdl_Pd {n cul s0 : Nat} (hn : n = 3 ∨ n = 4) (hs : s0 < 2147483648) (hc : cul < 8) : Pd n 8 (rdl (dlS n cul s0 8).2.1 cul) := by
  obtain ⟨j1, j2, -⟩ := dl_own hn hs hc 8 (Nat.le_refl _)
  obtain ⟨-, i2, i3, -⟩ := dl_inv (n := n) hs hc 8 (Nat.le_refl _)
  generalize (dlS n cul s0 8).2.1 = hd at j1 j2 i2 i3
  obtain ⟨r0, r1, r2, r3, r4, r5⟩ := rdl_at (hd := hd) i2 hc
  have hq : ∀ k, k < 8 → ∀ q, cb (rdl hd cul) q k = hb (hAt (rdl hd cul) q) k := fun k hk q => (cb_hAt _ _ hk).symm
  refine ⟨r5, fun k hk => ?_, fun q hq => ?_⟩
  · rw [hq k hk, hq k hk, hq k hk, hq k hk, hq k hk, r0, r1, r2, r3, r4, j1 k hk, hb_p2, if_pos hk]
    by_cases z : k = cul
    · rw [if_neg (by omega), if_pos z]
    · rw [if_pos ⟨hk, z⟩, if_neg z]
  · have hsz : ∀ g, g < 4 → pc8 (hd g) ≤ szH n g := fun g hg => by
      rcases Nat.lt_or_ge g n with z | z
      · exact i3 g z
      · rw [j2 g z]; exact Nat.zero_le _
    rcases (show q = 0 ∨ q = 1 ∨ q = 2 ∨ q = 3 ∨ q = 4 by omega) with rfl | rfl | rfl | rfl | rfl
    · rw [r0]; exact hsz 0 (by decide)
    · rw [r1]; exact hsz 1 (by decide)
    · rw [r2]; exact hsz 2 (by decide)
    · rw [r3]; exact hsz 3 (by decide)
    · rw [r4, pc8_p2 cul hc]; rcases hn with rfl | rfl <;> decide
