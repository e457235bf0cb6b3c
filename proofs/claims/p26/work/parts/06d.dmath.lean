/-! plain words of an evening -/
theorem fit01 {x : Nat} (h : x ≤ 1) : fits .boolean (.int (nI x)) = true := by
  rcases (show x = 0 ∨ x = 1 by omega) with rfl | rfl <;> decide
theorem hg_nat {g n : Nat} (hg : g < 2 ^ 31) : (0 ≤ (nI g).toInt ∧ (nI g).toInt < (n : Int)) ↔ g < n := by
  rw [nI_toInt hg]; omega
/-- one bit of a set taken out -/
def clr (v g : Nat) : Nat := v - v / 2 ^ g % 2 * 2 ^ g
theorem clr_ok : ∀ v, v < 16 → ∀ g, g < 4 → nI v &&& (nI (1 * 2 ^ g) ^^^ iZ (-1)) = nI (clr v g) := by decide +kernel
theorem clr_lt (v g : Nat) (h : v < 16) : clr v g < 16 := Nat.lt_of_le_of_lt (Nat.sub_le _ _) h
theorem sub10 (a : Nat) : nI a - nI 10 = nI (a + 4294967286) := by
  rw [← nI_add, Int32.sub_eq_add_neg]; congr 1
theorem sub10Z (a : Nat) : iZ ((a : Int) - ((10 : Nat) : Int)) = nI (a + 4294967286) := by
  rw [← iZ_isub, ← iZ_nat, ← iZ_nat]; exact sub10 a
theorem m1_nI : iZ (-1) = nI 4294967295 := by decide
def qtN (ag : Nat → Nat) (n g : Nat) : Nat := fb_ct (fun i => decide (ag i = g)) n
theorem qtN_t {ag : Nat → Nat} {i g : Nat} (h : ag i = g) : qtN ag (i + 1) g = qtN ag i g + 1 := by
  unfold qtN; rw [fb_ct_succ]; simp [h]
theorem qtN_f {ag : Nat → Nat} {i g : Nat} (h : ¬ ag i = g) : qtN ag (i + 1) g = qtN ag i g := by
  unfold qtN; rw [fb_ct_succ]; simp [h]
theorem qtN_le (ag : Nat → Nat) (n g : Nat) : qtN ag n g ≤ n := fb_ct_le _ n
def lcg (s : Nat) : Nat := (1103515245 * s + 12345) % 2147483648
theorem lcg_lt (s : Nat) : lcg s < 2147483648 := Nat.mod_lt _ (by decide)
def drw (s m : Nat) : Nat := lcg s / 65536 % m
/-- the answer of a guest with this hand -/
def ansN (hd sz cards : Nat) (lies : Prop) [Decidable lies] : Nat := if lies then (if sz < pc8 (hd &&& cards) + 1 ∨ pc8 cards < pc8 (hd &&& cards) + 1 then 0 else pc8 (hd &&& cards) + 1) else pc8 (hd &&& cards)
theorem ansN_le {hd sz cards : Nat} {lies : Prop} [Decidable lies] (hs : sz ≤ 3) : ansN hd sz cards lies ≤ 8 := by
  unfold ansN
  have := pc8_le (hd &&& cards)
  split
  · split <;> omega
  · exact this
/-- about the house -/
def abH (x : Nat → Nat) (w : Nat) : Nat := match w with
  | 0 => x 1
  | 1 => x 2
  | 2 => x 12
  | 3 => x 10
  | 4 => x 4
  | 5 => x 5
  | 6 => x 6
  | 7 => x 0
  | 8 => pc8 (x 7)
  | _ => if x 2 = 1 ∨ x 4 = 0 then 4294967295 else x 3
/-- about a guest -/
def abG (x hd pb ag : Nat → Nat) (L : List Nat) (g w : Nat) : Nat := match w with
  | 0 => szH (x 1) g
  | 1 => x 7 / 2 ^ g &&& 1
  | 2 => qtN ag (x 12) g
  | 3 => pb g
  | 4 => if L.length = 0 then 0 else hAt (andL L) g
  | 5 => hAt (orL L) g
  | 6 => if 0 < L.length ∧ (andL L).testBit (40 + g) = true then 1 else 0
  | _ => if x 2 = 1 then 4294967295 else hd g
def abQ (ag ac an : Nat → Nat) (q w : Nat) : Nat := match w with
  | 0 => ag q
  | 1 => ac q
  | _ => an q
/-- which guest has the place: the first whose free places, with those ahead, are more -/
def hoG (n : Nat) (hd : Nat → Nat) (pl : Nat) : Nat → Nat → Nat → Nat
  | 0, g, _ => g
  | k + 1, g, b => if pl < b + (szH n g - pc8 (hd g)) then g else hoG n hd pl k (g + 1) (b + (szH n g - pc8 (hd g)))
/-- the card is given there -/
def giv (n : Nat) (hd : Nat → Nat) (c pl : Nat) : Nat → Nat := let g := hoG n hd pl n 0 0; if g < n then va_up hd g (hd g ||| 1 * 2 ^ c) else hd
/-- the first cards are dealt: the number s, the hands, the places left -/
def dlS (n cul s0 : Nat) : Nat → Nat × (Nat → Nat) × Nat
  | 0 => (s0, fun _ => 0, 7)
  | c + 1 => if c = cul then dlS n cul s0 c else (lcg (dlS n cul s0 c).1, giv n (dlS n cul s0 c).2.1 c (drw (dlS n cul s0 c).1 (dlS n cul s0 c).2.2), (dlS n cul s0 c).2.2 - 1)
theorem hoG_t {n : Nat} {hd : Nat → Nat} {pl k g b : Nat} (hk : 0 < k) (h : pl < b + (szH n g - pc8 (hd g))) : hoG n hd pl k g b = g := by
  obtain ⟨j, rfl⟩ : ∃ j, k = j + 1 := ⟨k - 1, by omega⟩
  exact if_pos h
theorem hoG_s {n : Nat} {hd : Nat → Nat} {pl k g b : Nat} (hk : 0 < k) (h : b + (szH n g - pc8 (hd g)) ≤ pl) : hoG n hd pl k g b = hoG n hd pl (k - 1) (g + 1) (b + (szH n g - pc8 (hd g))) := by
  obtain ⟨j, rfl⟩ : ∃ j, k = j + 1 := ⟨k - 1, by omega⟩
  exact if_neg (Nat.not_lt.mpr h)
theorem giv_t {n : Nat} {hd : Nat → Nat} {c pl g : Nat} (e : hoG n hd pl n 0 0 = g) (h : g < n) : giv n hd c pl = va_up hd g (hd g ||| 1 * 2 ^ c) := by
  unfold giv; rw [e]; exact if_pos h
theorem giv_f {n : Nat} {hd : Nat → Nat} {c pl g : Nat} (e : hoG n hd pl n 0 0 = g) (h : n ≤ g) : giv n hd c pl = hd := by
  unfold giv; rw [e]; exact if_neg (Nat.not_lt.mpr h)
theorem dlS_c {n cul s0 c : Nat} (h : c = cul) : dlS n cul s0 (c + 1) = dlS n cul s0 c := if_pos h
theorem dlS_n {n cul s0 c : Nat} (h : ¬ c = cul) : dlS n cul s0 (c + 1) = (lcg (dlS n cul s0 c).1, giv n (dlS n cul s0 c).2.1 c (drw (dlS n cul s0 c).1 (dlS n cul s0 c).2.2), (dlS n cul s0 c).2.2 - 1) := if_neg h
theorem ansN_0 {hd sz cards : Nat} {lies : Prop} [Decidable lies] (hl : lies) (h : sz < pc8 (hd &&& cards) + 1 ∨ pc8 cards < pc8 (hd &&& cards) + 1) : ansN hd sz cards lies = 0 := by
  unfold ansN; rw [if_pos hl, if_pos h]
theorem ansN_1 {hd sz cards : Nat} {lies : Prop} [Decidable lies] (hl : lies) (h : ¬ (sz < pc8 (hd &&& cards) + 1 ∨ pc8 cards < pc8 (hd &&& cards) + 1)) : ansN hd sz cards lies = pc8 (hd &&& cards) + 1 := by
  unfold ansN; rw [if_pos hl, if_neg h]
theorem ansN_n {hd sz cards : Nat} {lies : Prop} [Decidable lies] (hl : ¬ lies) : ansN hd sz cards lies = pc8 (hd &&& cards) := by
  unfold ansN; rw [if_neg hl]
theorem drw_lt (s : Nat) {m : Nat} (h : 0 < m) : drw s m < m := Nat.mod_lt _ h
/-- what dealing keeps: the number s is small, the hands fit, the places left are those that remain -/
def dlI (n cul c : Nat) (p : Nat × (Nat → Nat) × Nat) : Prop := p.1 < 2147483648 ∧ (∀ g, p.2.1 g < 2 ^ c) ∧ (∀ g, g < n → pc8 (p.2.1 g) ≤ szH n g) ∧ p.2.2 = 7 + (if cul < c then 1 else 0) - c
theorem pc8_or {h c : Nat} (hc : c < 8) (hh : h < 2 ^ c) : pc8 (h ||| 1 * 2 ^ c) = pc8 h + 1 := by
  have key : ∀ c, c < 8 → ∀ h, h < 2 ^ c → pc8 (h ||| 1 * 2 ^ c) = pc8 h + 1 := by decide +kernel
  exact key c hc h hh
theorem hoG_in {n : Nat} {hd : Nat → Nat} {pl : Nat} : ∀ k g b, hoG n hd pl k g b < g + k → pc8 (hd (hoG n hd pl k g b)) < szH n (hoG n hd pl k g b) ∨ pl < b := by
  intro k
  induction k with
  | zero => intro g b h; exact absurd h (by simp [hoG])
  | succ k ih =>
    intro g b h
    by_cases e : pl < b + (szH n g - pc8 (hd g))
    · rw [hoG_t (by omega) e]
      rcases Nat.lt_or_ge (pc8 (hd g)) (szH n g) with q | q
      · exact Or.inl q
      · right; omega
    · rw [hoG_s (by omega) (by omega)] at h ⊢
      have h2 := ih (g + 1) (b + (szH n g - pc8 (hd g))) (by have e2 : k + 1 - 1 = k := rfl; rw [e2] at h; omega)
      rcases h2 with q | q
      · exact Or.inl q
      · right; omega
theorem dl_inv {n cul s0 : Nat} (hs : s0 < 2147483648) (hc : cul < 8) : ∀ c, c ≤ 8 → dlI n cul c (dlS n cul s0 c) := by
  intro c
  induction c with
  | zero => intro _; exact ⟨hs, fun g => by show (0 : Nat) < 2 ^ 0; decide, fun g _ => by show pc8 0 ≤ _; exact Nat.zero_le _, rfl⟩
  | succ c ih =>
    intro hle
    obtain ⟨i1, i2, i3, i4⟩ := ih (by omega)
    by_cases e : c = cul
    · rw [dlS_c e]
      refine ⟨i1, fun g => Nat.lt_of_lt_of_le (i2 g) (Nat.pow_le_pow_right (by decide) (by omega)), i3, ?_⟩
      rw [i4, if_neg (show ¬ cul < c by omega), if_pos (show cul < c + 1 by omega)]; omega
    · rw [dlS_n e]
      refine ⟨lcg_lt _, ?_, ?_, ?_⟩
      · intro g
        show giv n _ c _ g < _
        have h2 : ∀ g, (dlS n cul s0 c).2.1 g < 2 ^ (c + 1) := fun g => Nat.lt_of_lt_of_le (i2 g) (Nat.pow_le_pow_right (by decide) (by omega))
        unfold giv
        split
        · unfold va_up; split
          · refine Nat.or_lt_two_pow (h2 _) ?_
            rw [Nat.one_mul]; exact Nat.pow_lt_pow_right (by decide) (by omega)
          · exact h2 g
        · exact h2 g
      · intro g hg
        show pc8 (giv n _ c _ g) ≤ _
        unfold giv
        split
        · rename_i hlt
          unfold va_up; split
          · rename_i eg
            subst eg
            rw [pc8_or (by omega) (i2 _)]
            rcases hoG_in n 0 0 (Nat.lt_of_lt_of_eq hlt (Nat.zero_add n).symm) with q | q
            · exact q
            · omega
          · exact i3 g hg
        · exact i3 g hg
      · show (dlS n cul s0 c).2.2 - 1 = _
        rw [i4]
        by_cases h : cul < c
        · rw [if_pos h, if_pos (show cul < c + 1 by omega)]; omega
        · rw [if_neg h, if_neg (show ¬ cul < c + 1 by omega)]; omega
theorem dl_pos {n cul c : Nat} {p : Nat × (Nat → Nat) × Nat} (h : dlI n cul c p) (e : ¬ c = cul) (h1 : c < 8) (h2 : cul < 8) : 0 < p.2.2 ∧ p.2.2 ≤ 8 ∧ p.2.2 < 2 ^ 31 := by
  obtain ⟨-, -, -, q⟩ := h
  rw [q]; split <;> omega
/-- an evening's beginning -/
def opS (x : Nat → Nat) (z : Int) : Nat := if z = -1 then x 0 else z.toNat
def opC (x : Nat → Nat) (z : Int) : Nat := drw (opS x z) 8
def opD (n : Nat) (x : Nat → Nat) (z : Int) : Nat × (Nat → Nat) × Nat := dlS n (opC x z) (lcg (opS x z)) 8
def opX (n : Nat) (x : Nat → Nat) (z : Int) : Nat → Nat := fun k => match k with
  | 0 => (opD n x z).1
  | 1 => n
  | 2 => 1
  | 3 => opC x z
  | 4 => x 4
  | 5 => x 5
  | 6 => x 6
  | 7 => 1 * 2 ^ n - 1
  | _ => 0
def opY (n : Nat) (x : Nat → Nat) (z : Int) : Nat → Nat := fun k => match k with
  | 0 => opS x z
  | 1 => n
  | 2 => 1
  | 3 => x 3
  | 4 => x 4
  | 5 => x 5
  | 6 => x 6
  | 7 => 1 * 2 ^ n - 1
  | _ => 0
