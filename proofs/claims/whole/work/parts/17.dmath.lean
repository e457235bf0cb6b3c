/-! plain words of an evening -/
theorem hg_nat {g n : Nat} (hg : g < 2 ^ 31) : (0 ≤ (nI g).toInt ∧ (nI g).toInt < (n : Int)) ↔ g < n := by
  rw [nI_toInt hg]; omega
/-- one bit of a set taken out -/
def clr (v g : Nat) : Nat := v - v / 2 ^ g % 2 * 2 ^ g
theorem clr_ok : ∀ v, v < 16 → ∀ g, g < 4 → nI v &&& (nI (1 * 2 ^ g) ^^^ iZ (-1)) = nI (clr v g) := by decide +kernel
theorem clr_lt (v g : Nat) (h : v < 16) : clr v g < 16 := Nat.lt_of_le_of_lt (Nat.sub_le _ _) h
theorem sub10 (a : Nat) : nI a - nI 10 = nI (a + 4294967286) := by
  rw [← nI_add, Int32.sub_eq_add_neg]; congr 1
theorem sub10Z (a : Nat) : iZ ((a : Int) - ((10 : Nat) : Int)) = nI (a + 4294967286) := by
  rw [← iZ_isub, ← iZ_nat, ← iZ_nat]; exact sub10 a
theorem m1_nI : iZ (-1) = nI 4294967295 := by decide
def qtN (ag : Nat → Nat) (n g : Nat) : Nat := fb_ct (fun i => decide (ag i = g)) n
theorem qtN_t {ag : Nat → Nat} {i g : Nat} (h : ag i = g) : qtN ag (i + 1) g = qtN ag i g + 1 := by
  unfold qtN; rw [fb_ct_succ]; simp [h]
theorem qtN_f {ag : Nat → Nat} {i g : Nat} (h : ¬ ag i = g) : qtN ag (i + 1) g = qtN ag i g := by
  unfold qtN; rw [fb_ct_succ]; simp [h]
theorem qtN_le (ag : Nat → Nat) (n g : Nat) : qtN ag n g ≤ n := fb_ct_le _ n
def lcg (s : Nat) : Nat := (1103515245 * s + 12345) % 2147483648
theorem lcg_lt (s : Nat) : lcg s < 2147483648 := Nat.mod_lt _ (by decide)
def drw (s m : Nat) : Nat := lcg s / 65536 % m
/-- the answer of a guest with this hand -/
def ansN (hd sz cards : Nat) (lies : Prop) [Decidable lies] : Nat := if lies then (if sz < pc8 (hd &&& cards) + 1 ∨ pc8 cards < pc8 (hd &&& cards) + 1 then 0 else pc8 (hd &&& cards) + 1) else pc8 (hd &&& cards)
theorem ansN_le {hd sz cards : Nat} {lies : Prop} [Decidable lies] (hs : sz ≤ 3) : ansN hd sz cards lies ≤ 8 := by
  unfold ansN
  have := pc8_le (hd &&& cards)
  split
  · split <;> omega
  · exact this
/-- about the house -/
def abH (x : Nat → Nat) (w : Nat) : Nat := match w with
  | 0 => x 1
  | 1 => x 2
  | 2 => x 12
  | 3 => x 10
  | 4 => x 4
  | 5 => x 5
  | 6 => x 6
  | 7 => x 0
  | 8 => pc8 (x 7)
  | _ => if x 2 = 1 ∨ x 4 = 0 then 4294967295 else x 3
/-- about a guest -/
def abG (x hd pb ag : Nat → Nat) (L : List Nat) (g w : Nat) : Nat := match w with
  | 0 => szH (x 1) g
  | 1 => x 7 / 2 ^ g &&& 1
  | 2 => qtN ag (x 12) g
  | 3 => pb g
  | 4 => if L.length = 0 then 0 else hAt (andL L) g
  | 5 => hAt (orL L) g
  | 6 => if 0 < L.length ∧ (andL L).testBit (40 + g) = true then 1 else 0
  | _ => if x 2 = 1 then 4294967295 else hd g
def abQ (ag ac an : Nat → Nat) (q w : Nat) : Nat := match w with
  | 0 => ag q
  | 1 => ac q
  | _ => an q
/-- which guest has the place: the first whose free places, with those ahead, are more -/
def hoG (n : Nat) (hd : Nat → Nat) (pl : Nat) : Nat → Nat → Nat → Nat
  | 0, g, _ => g
  | k + 1, g, b => if pl < b + (szH n g - pc8 (hd g)) then g else hoG n hd pl k (g + 1) (b + (szH n g - pc8 (hd g)))
/-- the card is given there -/
def giv (n : Nat) (hd : Nat → Nat) (c pl : Nat) : Nat → Nat := let g := hoG n hd pl n 0 0; if g < n then va_up hd g (hd g ||| 1 * 2 ^ c) else hd
/-- the first cards are dealt: the number s, the hands, the places left -/
def dlS (n cul s0 : Nat) : Nat → Nat × (Nat → Nat) × Nat
  | 0 => (s0, fun _ => 0, 7)
  | c + 1 => if c = cul then dlS n cul s0 c else (lcg (dlS n cul s0 c).1, giv n (dlS n cul s0 c).2.1 c (drw (dlS n cul s0 c).1 (dlS n cul s0 c).2.2), (dlS n cul s0 c).2.2 - 1)
