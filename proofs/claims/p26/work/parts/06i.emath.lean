/-! an evening: what stands through all moves -/
/-- the questions asked -/
def QOk (n m : Nat) (ag ac an : Nat → Nat) : Prop := ∀ i, i < m → ag i < n ∧ (1 ≤ ac i ∧ ac i ≤ 255) ∧ an i ≤ pc8 (ac i) ∧ an i ≤ szH n (ag i)
/-- the possible deals: deals all, the real one among them -/
def LOk (n : Nat) (hd : Nat → Nat) (c0 li : Nat) (L : List Nat) : Prop := L.length ≤ (if n = 3 then 1680 else 5040) ∧ (∀ d ∈ L, VD n d ∧ d < 2 ^ 44) ∧ ∃ e, e ∈ L ∧ (∀ g, g < n → hAt e g = hd g) ∧ hAt e 4 = 2 ^ c0 ∧ ∀ g, g < n → e.testBit (40 + g) = true → li.testBit g = true
/-- a dinner in which nothing has begun -/
def E0 (D : D7) : Prop := dX D 1 = 0 ∧ dX D 2 = 0 ∧ dX D 4 = 0 ∧ dX D 5 = 0 ∧ dX D 7 = 0 ∧ dX D 10 = 0 ∧ dX D 12 = 0 ∧ dL D = []
/-- an evening that goes on, or is over -/
def E1 (D : D7) : Prop := (dX D 1 = 3 ∨ dX D 1 = 4) ∧ dX D 7 < 2 ^ dX D 1 ∧ dX D 12 ≤ 20 ∧ dX D 5 ≤ dX D 4 ∧ (dX D 2 = 0 → 1 ≤ dX D 4) ∧ fb_sm (dPb D) (dX D 1) = dX D 10 ∧ QOk (dX D 1) (dX D 12) (dAg D) (dAc D) (dAn D) ∧ LOk (dX D 1) (dHd D) (dX D 3) (dX D 8) (dL D)
def EI (D : D7) : Prop := (dX D 0 < 2147483648 ∧ dX D 2 ≤ 1 ∧ dX D 3 < 8 ∧ dX D 8 < 16 ∧ ∀ g, dHd D g < 256) ∧ (E0 D ∨ E1 D)
theorem EI_1 {D : D7} (h : EI D) : dX D 1 = 0 ∨ dX D 1 = 3 ∨ dX D 1 = 4 := by
  rcases h.2 with z | z
  · exact Or.inl z.1
  · exact Or.inr z.1
theorem EI_y {D : D7} (h : EI D) (h1 : ¬ dX D 1 = 0) : E1 D := h.2.elim (fun z => absurd z.1 h1) id
theorem EI_n {D : D7} (h : EI D) (h1 : dX D 1 = 0) : E0 D := h.2.elim id (fun z => by have := z.1; omega)
theorem EI_g {D : D7} (h : EI D) (h2 : dX D 2 = 1) : E1 D := h.2.elim (fun z => by have := z.2.1; omega) id
theorem EI_4 {D : D7} (h : EI D) : dX D 1 ≤ 4 := by have := EI_1 h; omega
theorem EI_34 {D : D7} {g : Nat} (h : EI D) (hg : g < dX D 1) : dX D 1 = 3 ∨ dX D 1 = 4 := by have := EI_1 h; omega
theorem EI_2 {D : D7} (h : EI D) : dX D 2 ≤ 1 := h.1.2.1
theorem EI_7 {D : D7} (h : EI D) : dX D 7 < 16 := by
  rcases h.2 with z | z
  · have := z.2.2.2.2.1; omega
  · exact x7_16 (Or.inr z.1) z.2.1
theorem EI_12 {D : D7} (h : EI D) : dX D 12 ≤ 20 := by
  rcases h.2 with z | z
  · have := z.2.2.2.2.2.2.1; omega
  · exact z.2.2.1
theorem EI_54 {D : D7} (h : EI D) : dX D 5 ≤ dX D 4 := by
  rcases h.2 with z | z
  · have := z.2.2.2.1; omega
  · exact z.2.2.2.1
theorem EI_ag {D : D7} (h : EI D) : ∀ i, i < dX D 12 → dAg D i < 4 := by
  intro i hi
  rcases h.2 with z | z
  · have := z.2.2.2.2.2.2.1; omega
  · have h1 := z.1
    have := (z.2.2.2.2.2.2.1 i hi).1
    omega
theorem EI_len {D : D7} (h : EI D) : (dL D).length ≤ 5040 := by
  rcases h.2 with z | z
  · rw [z.2.2.2.2.2.2.2]; exact Nat.zero_le _
  · have := z.2.2.2.2.2.2.2.1
    split at this <;> omega
theorem EI_44 {D : D7} (h : EI D) : ∀ d ∈ dL D, d < 2 ^ 44 := by
  intro d hd
  rcases h.2 with z | z
  · rw [z.2.2.2.2.2.2.2] at hd; cases hd
  · exact (z.2.2.2.2.2.2.2.2.1 d hd).2
/-! the moves -/
theorem tb_hi {d g : Nat} (h : d < 2 ^ 40) : d.testBit (40 + g) = false := Nat.testBit_lt_two_pow (Nat.lt_of_lt_of_le h (Nat.pow_le_pow_right (by decide) (by omega)))
theorem EI_open {D : D7} {n : Nat} {z : Int} (h : EI D) (hn : n = 3 ∨ n = 4) : EI (opX n (dX D) z, (opD n (dX D) z).2.1, (fun _ => 0), dAg D, dAc D, dAn D, ext n 8 0) := by
  obtain ⟨o1, o2⟩ := opD_ok (n := n) (x := dX D) (z := z) hn
  have hc : opC (dX D) z < 8 := drw_lt _ (by decide)
  refine ⟨⟨o1, Nat.le_refl 1, hc, by show (0 : Nat) < 16; decide, o2⟩, Or.inr ⟨hn, ?_, by show (0 : Nat) ≤ 20; decide, (show dX D 5 ≤ dX D 4 from EI_54 h), fun z => absurd z (by show ¬ (1 : Nat) = 0; decide), ?_, fun i hi => absurd hi (Nat.not_lt_zero i), ?_, ?_, ?_⟩⟩
  · show 1 * 2 ^ n - 1 < 2 ^ n
    rcases hn with rfl | rfl <;> decide
  · show fb_sm (fun _ => 0) n = 0
    rw [fb_sm_const, Nat.mul_zero]
  · show (ext n 8 0).length ≤ if n = 3 then 1680 else 5040
    rcases hn with rfl | rfl
    · rw [ext3_len]; decide
    · rw [ext4_len]; decide
  · intro d hd
    obtain ⟨v1, v2⟩ := ext_VD hn hd
    exact ⟨v1, Nat.lt_trans v2 (by decide)⟩
  · have hp := rdl_Pd (n := n) (cul := opC (dX D) z) (s0 := lcg (opS (dX D) z)) hn (lcg_lt _) hc
    obtain ⟨r0, r1, r2, r3, r4, r5⟩ := rdl_at (hd := (opD n (dX D) z).2.1) o2 hc
    refine ⟨rdl (opD n (dX D) z).2.1 (opC (dX D) z), ext_in hp, fun g hg => ?_, r4, fun g _ hb => ?_⟩
    · have hg : g < n := hg
      rcases (show g = 0 ∨ g = 1 ∨ g = 2 ∨ g = 3 by omega) with rfl | rfl | rfl | rfl
      · exact r0
      · exact r1
      · exact r2
      · exact r3
    · rw [tb_hi r5] at hb; cases hb
theorem cb_hi {d q k b : Nat} (hq : q < 5) (hk : k < 8) (hb : 40 ≤ b) : cb (d ||| 2 ^ b) q k = cb d q k := by
  rw [cb_tb, cb_tb, Nat.testBit_or, Nat.testBit_two_pow, decide_eq_false (by omega), Bool.or_false]
theorem hAt_hi {d q b : Nat} (hq : q < 5) (hb : 40 ≤ b) : hAt (d ||| 2 ^ b) q = hAt d q := by
  apply Nat.eq_of_testBit_eq
  intro i
  rw [hAt_tb, hAt_tb]
  by_cases h : i < 8
  · rw [Nat.testBit_or, Nat.testBit_two_pow, decide_eq_false (show ¬ b = 8 * q + i by omega), Bool.or_false]
  · rw [decide_eq_false h]; rfl
theorem VD_hi {n d b : Nat} (hb : 40 ≤ b) (h : VD n d) : VD n (d ||| 2 ^ b) := by
  refine ⟨fun k hk => ?_, fun q hq => ?_⟩
  · rw [cb_hi (by decide) hk hb, cb_hi (by decide) hk hb, cb_hi (by decide) hk hb, cb_hi (by decide) hk hb, cb_hi (by decide) hk hb]; exact h.1 k hk
  · rw [hAt_hi hq hb]; exact h.2 q hq
theorem hb_and_le (a b k : Nat) : hb (a &&& b) k ≤ hb a k ∧ hb (a &&& b) k ≤ hb b k := by
  rw [hb_tb, hb_tb, hb_tb, Nat.testBit_and]
  cases a.testBit k <;> cases b.testBit k <;> decide
theorem pc8_hb (x : Nat) : pc8 x = hb x 0 + hb x 1 + hb x 2 + hb x 3 + hb x 4 + hb x 5 + hb x 6 + hb x 7 := by
  unfold pc8 hb; simp only [Nat.reducePow, Nat.div_one]
theorem pc8_and (a b : Nat) : pc8 (a &&& b) ≤ pc8 a ∧ pc8 (a &&& b) ≤ pc8 b := by
  rw [pc8_hb, pc8_hb a, pc8_hb b]
  have h0 := hb_and_le a b 0
  have h1 := hb_and_le a b 1
  have h2 := hb_and_le a b 2
  have h3 := hb_and_le a b 3
  have h4 := hb_and_le a b 4
  have h5 := hb_and_le a b 5
  have h6 := hb_and_le a b 6
  have h7 := hb_and_le a b 7
  omega
theorem pc8_pos : ∀ c, c < 256 → 1 ≤ c → 1 ≤ pc8 c := by decide +kernel
theorem szH_pos {n g : Nat} (hn : n = 3 ∨ n = 4) (hg : g < n) : 1 ≤ szH n g := by
  rcases hn with rfl | rfl
  · rcases (show g = 0 ∨ g = 1 ∨ g = 2 by omega) with rfl | rfl | rfl <;> decide
  · rcases (show g = 0 ∨ g = 1 ∨ g = 2 ∨ g = 3 by omega) with rfl | rfl | rfl | rfl <;> decide
/-- an answer fits; a lie is none that is true -/
theorem ans_fit {hd sz c : Nat} {Lp : Prop} [Decidable Lp] (hs : pc8 hd = sz) : ansN hd sz c Lp ≤ pc8 c ∧ ansN hd sz c Lp ≤ sz := by
  have h := pc8_and hd c
  unfold ansN
  split
  · split
    · exact ⟨Nat.zero_le _, Nat.zero_le _⟩
    · rename_i h2; omega
  · omega
theorem ans_lie {hd sz c : Nat} {Lp : Prop} [Decidable Lp] (h : Lp) (hs : 1 ≤ sz) (hc : 1 ≤ pc8 c) : ¬ pc8 (hd &&& c) = ansN hd sz c Lp := by
  unfold ansN
  rw [if_pos h]
  split
  · rename_i h2; omega
  · omega
/-- the dinner behind an answer, a proof, a leaving, an accusation -/
def askD (D : D7) (g c : Nat) (Lp : Prop) [Decidable Lp] : D7 := (va_up (va_up (dX D) 8 (if Lp then dX D 8 ||| 1 * 2 ^ g else dX D 8)) 12 (dX D 12 + 1), dHd D, dPb D, va_up (dAg D) (dX D 12) g, va_up (dAc D) (dX D 12) c, va_up (dAn D) (dX D 12) (ansN (dHd D g) (szH (dX D 1) g) c Lp), (dL D).filterMap (stA g c (ansN (dHd D g) (szH (dX D 1) g) c Lp)))
def prvD (D : D7) (g c : Nat) : D7 := (va_up (dX D) 10 (dX D 10 + 1), dHd D, va_up (dPb D) g (dPb D g + 1), dAg D, dAc D, dAn D, (dL D).filterMap (stP (8 * g + c) (decide (dHd D g / 2 ^ c &&& 1 = 1))))
def lvD (D : D7) (g : Nat) : D7 := (va_up (dX D) 7 (clr (dX D 7) g), dHd D, dPb D, dAg D, dAc D, dAn D, dL D)
def acD (D : D7) (c : Nat) : D7 := (va_up (va_up (va_up (va_up (dX D) 2 0) 4 (dX D 4 + 1)) 5 (if c = dX D 3 then dX D 5 + 1 else dX D 5)) 6 (if c = dX D 3 then dX D 6 + (21 - dX D 12) else dX D 6 + 4294967286), dHd D, dPb D, dAg D, dAc D, dAn D, dL D)
def opnD (D : D7) (n : Nat) (z : Int) : D7 := (opX n (dX D) z, (opD n (dX D) z).2.1, (fun _ => 0), dAg D, dAc D, dAn D, ext n 8 0)
theorem real_sz {n : Nat} {hd : Nat → Nat} {c0 li : Nat} {L : List Nat} (h : LOk n hd c0 li L) {g : Nat} (hg : g < n) (hn : n ≤ 4) : pc8 (hd g) = szH n g := by
  obtain ⟨-, h2, e, h3, h4, -, -⟩ := h
  rw [← h4 g hg]
  exact (h2 e h3).1.2 g (by omega)
theorem EI_ask {D : D7} {g c : Nat} {Lp : Prop} [Decidable Lp] (h : EI D) (hg : g < dX D 1) (hc : 1 ≤ c ∧ c ≤ 255) (h2 : dX D 2 = 1) (h12 : dX D 12 < 20) (hl : ¬ (Lp ∧ dX D 8 / 2 ^ g &&& 1 = 1)) : EI (askD D g c Lp) := by
  have hy := EI_g h h2
  obtain ⟨⟨a0, a2, a3, a8, ah⟩, -⟩ := id h
  obtain ⟨y1, y7, y12, y5, y2, yp, yq, yl⟩ := id hy
  have hn4 : dX D 1 ≤ 4 := by omega
  have hs := real_sz yl hg hn4
  obtain ⟨f1, f2⟩ := ans_fit (c := c) (Lp := Lp) hs
  have hg4 : g < 4 := by omega
  have a8' : (if Lp then dX D 8 ||| 1 * 2 ^ g else dX D 8) < 16 := by split; exact li_16 a8 (by omega); exact a8
  refine ⟨⟨a0, a2, a3, a8', ah⟩, Or.inr ⟨y1, y7, Nat.succ_le_of_lt h12, y5, y2, yp, ?_, ?_⟩⟩
  · intro i hi
    have hi : i < dX D 12 + 1 := hi
    show va_up (dAg D) (dX D 12) g i < dX D 1 ∧ (1 ≤ va_up (dAc D) (dX D 12) c i ∧ va_up (dAc D) (dX D 12) c i ≤ 255) ∧ va_up (dAn D) (dX D 12) (ansN (dHd D g) (szH (dX D 1) g) c Lp) i ≤ pc8 (va_up (dAc D) (dX D 12) c i) ∧ va_up (dAn D) (dX D 12) (ansN (dHd D g) (szH (dX D 1) g) c Lp) i ≤ szH (dX D 1) (va_up (dAg D) (dX D 12) g i)
    unfold va_up
    by_cases e : i = dX D 12
    · rw [if_pos e, if_pos e, if_pos e]; exact ⟨hg, hc, f1, f2⟩
    · rw [if_neg e, if_neg e, if_neg e]; exact yq i (by omega)
  · obtain ⟨l1, l2, e, l3, l4, l5, l6⟩ := id yl
    generalize hans : ansN (dHd D g) (szH (dX D 1) g) c Lp = ans
    show LOk (dX D 1) (dHd D) (dX D 3) (if Lp then dX D 8 ||| 1 * 2 ^ g else dX D 8) ((dL D).filterMap (stA g c (ansN (dHd D g) (szH (dX D 1) g) c Lp)))
    rw [hans]
    refine ⟨Nat.le_trans (List.length_filterMap_le _ _) l1, ?_, ?_⟩
    · intro d hd
      obtain ⟨d0, q1, q2⟩ := List.mem_filterMap.mp hd
      obtain ⟨v1, v2⟩ := l2 d0 q1
      refine ⟨?_, stA_lt (by omega) v2 q2⟩
      unfold stA at q2
      split at q2
      · cases q2; exact v1
      · split at q2
        · cases q2; exact VD_hi (by omega) v1
        · cases q2
    · have hh : pc8 (hAt e g &&& c) = pc8 (dHd D g &&& c) := by rw [l4 g hg]
      by_cases hL : Lp
      · have hw : ¬ pc8 (hAt e g &&& c) = ans := by rw [hh, ← hans]; exact ans_lie hL (szH_pos y1 hg) (pc8_pos c (by omega) hc.1)
        have hb : e.testBit (40 + g) = false := by
          cases q : e.testBit (40 + g) with
          | false => rfl
          | true =>
            have q2 := l6 g hg q
            rw [bit_q] at q2
            exact absurd ⟨hL, of_decide_eq_true q2⟩ hl
        refine ⟨e ||| 2 ^ (40 + g), List.mem_filterMap.mpr ⟨e, l3, ?_⟩, fun r hr => ?_, ?_, fun r hr q => ?_⟩
        · unfold stA; rw [if_neg hw, if_pos hb]
        · rw [hAt_hi (by omega) (by omega)]; exact l4 r hr
        · rw [hAt_hi (by decide) (by omega)]; exact l5
        · rw [if_pos hL, Nat.one_mul, Nat.testBit_or, Nat.testBit_two_pow]
          rw [Nat.testBit_or, Nat.testBit_two_pow] at q
          by_cases w : r = g
          · rw [w, decide_eq_true rfl, Bool.or_true]
          · rw [decide_eq_false (by omega), Bool.or_false] at q
            rw [l6 r hr q, Bool.true_or]
      · have hw : pc8 (hAt e g &&& c) = ans := by rw [hh, ← hans]; exact (ansN_n hL).symm
        refine ⟨e, List.mem_filterMap.mpr ⟨e, l3, stA_e hw⟩, l4, l5, fun r hr q => ?_⟩
        rw [if_neg hL]; exact l6 r hr q
theorem va_up3 (f : Nat → Nat) (g v : Nat) : ∀ n, fb_sm (va_up f g v) n = fb_sm (fun k => if k = g then v else f k) n := fun n => fb_sm_cong (fun k _ => rfl)
theorem EI_prv {D : D7} {g c : Nat} (h : EI D) (hg : g < dX D 1) (hc : c ≤ 7) (h2 : dX D 2 = 1) : EI (prvD D g c) := by
  have hy := EI_g h h2
  obtain ⟨⟨a0, a2, a3, a8, ah⟩, -⟩ := id h
  obtain ⟨y1, y7, y12, y5, y2, yp, yq, yl⟩ := id hy
  refine ⟨⟨a0, a2, a3, a8, ah⟩, Or.inr ⟨y1, y7, y12, y5, y2, ?_, yq, ?_⟩⟩
  · show fb_sm (va_up (dPb D) g (dPb D g + 1)) (dX D 1) = dX D 10 + 1
    rw [va_up3]
    have := fb_sm_upd (dPb D) (dPb D g + 1) hg
    omega
  · obtain ⟨l1, l2, e, l3, l4, l5, l6⟩ := id yl
    refine ⟨Nat.le_trans (List.length_filterMap_le _ _) l1, ?_, e, List.mem_filterMap.mpr ⟨e, l3, ?_⟩, l4, l5, l6⟩
    · intro d hd
      obtain ⟨d0, q1, q2⟩ := List.mem_filterMap.mp hd
      unfold stP at q2
      split at q2
      · cases q2; exact l2 _ q1
      · cases q2
    · unfold stP
      refine if_pos ?_
      rw [← hAt_bit (show c < 8 by omega), l4 g hg, bit_q]
theorem clr_le (v g : Nat) : clr v g ≤ v := Nat.sub_le _ _
theorem EI_lv {D : D7} {g : Nat} (h : EI D) (h2 : dX D 2 = 1) : EI (lvD D g) := by
  have hy := EI_g h h2
  obtain ⟨⟨a0, a2, a3, a8, ah⟩, -⟩ := id h
  obtain ⟨y1, y7, y12, y5, y2, yp, yq, yl⟩ := id hy
  exact ⟨⟨a0, a2, a3, a8, ah⟩, Or.inr ⟨y1, Nat.lt_of_le_of_lt (clr_le _ _) y7, y12, y5, y2, yp, yq, yl⟩⟩
theorem EI_ac {D : D7} {c : Nat} (h : EI D) (h2 : dX D 2 = 1) : EI (acD D c) := by
  have hy := EI_g h h2
  obtain ⟨⟨a0, a2, a3, a8, ah⟩, -⟩ := id h
  obtain ⟨y1, y7, y12, y5, y2, yp, yq, yl⟩ := id hy
  refine ⟨⟨a0, Nat.zero_le 1, a3, a8, ah⟩, Or.inr ⟨y1, y7, y12, ?_, fun _ => Nat.succ_le_succ (Nat.zero_le _), yp, yq, yl⟩⟩
  show (if c = dX D 3 then dX D 5 + 1 else dX D 5) ≤ dX D 4 + 1
  split <;> omega
/-! the house: its state stands well; the latest saved dinner -/
def SKd (D : D7) (f : Nat → Int64) : Prop := (dL D).length ≤ 5040 ∧ dX D 2 ≤ 1 ∧ DRep (dL D) f
def LAk (n : Nat) (L : List Nat) (f : Nat → Int64) : Prop := (L = [] ∨ L = ext n 8 0) ∧ DRep L f
def G (b : Nat) (S : ST) : Prop := stSc S ≤ 4 ∧ EI (stD S) ∧ dX (stD S) 4 ≤ b ∧ DRep (dL (stD S)) (stF S) ∧ (∀ k, k < 4 → SKd (stSD S k) (stSf S k)) ∧ LAk 3 (stL3 S) (stF3 S) ∧ LAk 4 (stL4 S) (stF4 S)
def Sav (D : D7) (S : ST) : Prop := 0 < stSc S ∧ stSD S (stSc S - 1) = D
theorem G_sc {b : Nat} {S : ST} (h : G b S) : stSc S ≤ 4 := h.1
theorem G_E {b : Nat} {S : ST} (h : G b S) : EI (stD S) := h.2.1
theorem G_b {b : Nat} {S : ST} (h : G b S) : dX (stD S) 4 ≤ b := h.2.2.1
theorem G_r {b : Nat} {S : ST} (h : G b S) : DRep (dL (stD S)) (stF S) := h.2.2.2.1
theorem G_sL {b : Nat} {S : ST} (h : G b S) : ∀ k, k < 4 → (sdL (stSD S) k).length ≤ 5040 := fun k hk => (h.2.2.2.2.1 k hk).1
theorem G_s2 {b : Nat} {S : ST} (h : G b S) : ∀ k, k < 4 → sdX (stSD S) k 2 ≤ 1 := fun k hk => (h.2.2.2.2.1 k hk).2.1
theorem G_mono {b b' : Nat} {S : ST} (hb : b ≤ b') (h : G b S) : G b' S := ⟨h.1, h.2.1, Nat.le_trans h.2.2.1 hb, h.2.2.2⟩
theorem cpy_DR {L : List Nat} {f g : Nat → Int64} (h : DRep L f) : DRep L (va_cpy f g 0 0 L.length) := fun i hi => by
  rw [pk_cpy_in (Nat.zero_le _) (by omega), show 0 + (i - 0) = i by omega]; exact h i hi
theorem sav_ok {b b' : Nat} {S : ST} {D : D7} {f : Nat → Int64} (h : G b S) (hD : EI D) (hb : dX D 4 ≤ b') (hf : DRep (dL D) f) : G b' (sav S D f) ∧ Sav (stD S) (sav S D f) := by
  obtain ⟨h1, h2, h3, h4, h5, h6, h7⟩ := h
  have k0 : SKd (stD S) (va_cpy (stF S) (svP (stSc S) (stSf S)) 0 0 (dL (stD S)).length) := ⟨EI_len h2, EI_2 h2, cpy_DR h4⟩
  refine ⟨⟨?_, hD, hb, hf, ?_, h6, h7⟩, ?_, ?_⟩
  · show svN (stSc S) ≤ 4
    unfold svN; split <;> omega
  · intro k hk
    show SKd (svV (stSc S) (sdX (stSD S)) (dX (stD S)) k, svV (stSc S) (sdHd (stSD S)) (dHd (stD S)) k, svV (stSc S) (sdPb (stSD S)) (dPb (stD S)) k, svV (stSc S) (sdAg (stSD S)) (dAg (stD S)) k, svV (stSc S) (sdAc (stSD S)) (dAc (stD S)) k, svV (stSc S) (sdAn (stSD S)) (dAn (stD S)) k, svV (stSc S) (sdL (stSD S)) (dL (stD S)) k) (svV (stSc S) (stSf S) (va_cpy (stF S) (svP (stSc S) (stSf S)) 0 0 (dL (stD S)).length) k)
    unfold svV
    by_cases e : stSc S = 4
    · simp only [if_pos e]
      by_cases e3 : k = 3
      · simp only [if_pos e3]; exact k0
      · simp only [if_neg e3]; exact h5 (k + 1) (by omega)
    · simp only [if_neg e]
      by_cases e3 : k = stSc S
      · simp only [if_pos e3]; exact k0
      · simp only [if_neg e3]; exact h5 k hk
  · show 0 < svN (stSc S)
    unfold svN; split <;> omega
  · show (svV (stSc S) (sdX (stSD S)) (dX (stD S)) (svN (stSc S) - 1), svV (stSc S) (sdHd (stSD S)) (dHd (stD S)) (svN (stSc S) - 1), svV (stSc S) (sdPb (stSD S)) (dPb (stD S)) (svN (stSc S) - 1), svV (stSc S) (sdAg (stSD S)) (dAg (stD S)) (svN (stSc S) - 1), svV (stSc S) (sdAc (stSD S)) (dAc (stD S)) (svN (stSc S) - 1), svV (stSc S) (sdAn (stSD S)) (dAn (stD S)) (svN (stSc S) - 1), svV (stSc S) (sdL (stSD S)) (dL (stD S)) (svN (stSc S) - 1)) = stD S
    unfold svN svV
    by_cases e : stSc S = 4
    · simp only [if_pos e, Nat.reduceSub, if_true]
    · simp only [if_neg e, Nat.add_sub_cancel, if_true]
theorem und_ok {b b' : Nat} {S : ST} {D : D7} (h : G b S) (hS : Sav D S) (hD : EI D) (hb : dX D 4 ≤ b') : G b' (und S) ∧ stD (und S) = D := by
  obtain ⟨h1, h2, h3, h4, h5, h6, h7⟩ := h
  obtain ⟨s1, s2⟩ := hS
  have e : stD (und S) = D := s2
  have k := h5 (stSc S - 1) (by omega)
  refine ⟨⟨?_, by rw [e]; exact hD, by rw [e]; exact hb, ?_, h5, h6, h7⟩, e⟩
  · show stSc S - 1 ≤ 4
    omega
  · exact cpy_DR k.2.2
