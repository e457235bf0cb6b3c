/-! class and reference: one dinner, one row -/
def RA (x nw : Nat → Nat) : Prop := nw 0 = x 1 ∧ nw 1 = x 2 ∧ nw 3 = x 0 ∧ nw 4 = x 4 ∧ nw 5 = x 5 ∧ nw 6 = x 6 ∧ nw 7 = x 12 ∧ nw 8 = x 10
def RB (t : Nat) (x : Nat → Nat) : Prop := (x 1 = 0 ∨ x 1 = 3 ∨ x 1 = 4) ∧ x 0 < 2147483648 ∧ x 2 ≤ 1 ∧ x 3 < 8 ∧ x 4 ≤ t ∧ x 7 < 2 ^ x 1 ∧ x 8 < 16 ∧ x 12 ≤ 20
def RC (x : Nat → Nat) (L : List Nat) (nw : Nat → Nat) : Prop := (x 1 = 0 → x 2 = 0 ∧ x 4 = 0 ∧ nw 2 = 4294967295 ∧ x 12 = 0 ∧ L = []) ∧ (¬ x 1 = 0 → nw 2 = x 3 ∧ (x 2 = 0 → 0 < x 4))
def RG (x hd pb ag nw : Nat → Nat) : Prop := ∀ g, g < 4 → nw (9 + g) = (if g < x 1 then szH (x 1) g else 0) ∧ nw (13 + g) = hd g ∧ nw (17 + g) = x 7 / 2 ^ g % 2 ∧ nw (21 + g) = x 8 / 2 ^ g % 2 ∧ nw (25 + g) = qtN ag (x 12) g ∧ nw (29 + g) = pb g ∧ nw (33 + g) < 256 ∧ nw (37 + g) < 256
def RQ (x ag ac an nw : Nat → Nat) : Prop := ∀ i, i < x 12 → nw (41 + 3 * i) = ag i ∧ nw (41 + 3 * i + 1) = ac i ∧ nw (41 + 3 * i + 2) = an i ∧ ag i < x 1 ∧ 1 ≤ ac i ∧ ac i < 256 ∧ an i ≤ 8
def RLx (x : Nat → Nat) (L : List Nat) (nw : Nat → Nat) : Prop := ¬ x 1 = 0 → L = (ext (x 1) 8 0).filterMap (mkN nw)
def RR (x hd nw : Nat → Nat) : Prop := ¬ x 1 = 0 → pk4 (x 3) hd ∈ ext (x 1) 8 0 ∧ ∀ g, g < x 1 → nw (33 + g) &&& nt (hd g) = 0 ∧ nw (37 + g) &&& hd g = 0 ∧ wrK nw hd g (nw 7) ≤ nw (21 + g)
def RelD (t : Nat) (hd : Nat → Nat) (d : DT) (nw : Nat → Nat) : Prop := RA d.1 nw ∧ RB t d.1 ∧ RC d.1 d.2.2.2.2.2 nw ∧ RG d.1 hd d.2.1 d.2.2.1 nw ∧ RQ d.1 d.2.2.1 d.2.2.2.1 d.2.2.2.2.1 nw ∧ RLx d.1 d.2.2.2.2.2 nw ∧ RR d.1 hd nw ∧ ∀ g, hd g < 256
theorem b_or4 : ∀ v, v < 16 → ∀ g, g < 4 → ∀ j, j < 4 → (v ||| 1 * 2 ^ g) / 2 ^ j % 2 = if j = g then 1 else v / 2 ^ j % 2 := by decide +kernel
theorem b_clr : ∀ v, v < 16 → ∀ g, g < 4 → ∀ j, j < 4 → clr v g / 2 ^ j % 2 = if j = g then 0 else v / 2 ^ j % 2 := by decide +kernel
theorem x7_16 {x : Nat → Nat} (h : x 1 = 0 ∨ x 1 = 3 ∨ x 1 = 4) (h7 : x 7 < 2 ^ x 1) : x 7 < 16 := Nat.lt_of_lt_of_le h7 (by rcases h with e | e | e <;> rw [e] <;> decide)
theorem ask_lo {nw : Nat → Nat} {g cards ans j : Nat} {Lp : Prop} [Decidable Lp] (hg : g ≤ 3) (h : j < 21 ∧ ¬ j = 7 ∨ 29 ≤ j ∧ j < 41) : askN nw g cards ans Lp j = nw j := by
  rw [askN_at hg, if_neg (by omega), if_neg (by omega), if_neg (by omega), if_neg (by omega), if_neg (by omega), if_neg (by omega)]
theorem qtN_cg {ag ag' : Nat → Nat} {g : Nat} : ∀ n, (∀ i, i < n → ag i = ag' i) → qtN ag n g = qtN ag' n g
  | 0, _ => rfl
  | n + 1, h => by
    by_cases e : ag n = g
    · rw [qtN_t e, qtN_t ((h n (by omega)) ▸ e), qtN_cg n (fun i hi => h i (by omega))]
    · rw [qtN_f e, qtN_f ((h n (by omega)) ▸ e), qtN_cg n (fun i hi => h i (by omega))]
theorem Rel_ask {t : Nat} {hd : Nat → Nat} {d : DT} {nw : Nat → Nat} {g c : Nat} {Lp : Prop} [Decidable Lp] (R : RelD t hd d nw) (hg : g < d.1 1) (hc : 1 ≤ c ∧ c ≤ 255) (h12 : d.1 12 < 20) (hl : Lp → d.1 8 / 2 ^ g % 2 = 0) : RelD t hd (piA hd d g c Lp) (askN nw g c (ansN (nw (13 + g)) (nw (9 + g)) c Lp) Lp) := by
  obtain ⟨⟨a0, a1, a3, a4, a5, a6, a7, a8⟩, ⟨b1, b0, b2, b3, b4, b7, b8, b12⟩, ⟨c1, c2⟩, G, Qn, hL, hR, h256⟩ := R
  have hg3 : g ≤ 3 := by omega
  have hn0 : ¬ d.1 1 = 0 := by omega
  have eA : ansN (nw (13 + g)) (nw (9 + g)) c Lp = ansN (hd g) (szH (d.1 1) g) c Lp := by
    rw [(G g (by omega)).2.1, (G g (by omega)).1, if_pos hg]
  rw [eA]
  have hA8 : ansN (hd g) (szH (d.1 1) g) c Lp ≤ 8 := ansN_le (szH_le _ _)
  have hAt : ¬ Lp → pc8 (hd g &&& c) = ansN (hd g) (szH (d.1 1) g) c Lp := fun z => (ansN_n z).symm
  obtain ⟨A, eA2⟩ : ∃ A, A = ansN (hd g) (szH (d.1 1) g) c Lp := ⟨_, rfl⟩
  have ed : piA hd d g c Lp = (va_up (va_up d.1 8 (if Lp then d.1 8 ||| 1 * 2 ^ g else d.1 8)) 12 (d.1 12 + 1), d.2.1, va_up d.2.2.1 (d.1 12) g, va_up d.2.2.2.1 (d.1 12) c, va_up d.2.2.2.2.1 (d.1 12) A, d.2.2.2.2.2.filterMap (stA g c A)) := by rw [eA2]; rfl
  rw [← eA2] at hA8 hAt ⊢
  rw [ed]
  have q7 : askN nw g c A Lp 7 = nw 7 + 1 := ask_7 hg3
  refine ⟨⟨?_, ?_, ?_, ?_, ?_, ?_, ?_, ?_⟩, ⟨b1, b0, b2, b3, b4, b7, ?_, ?_⟩, ⟨fun z => absurd z hn0, fun _ => ⟨?_, (c2 hn0).2⟩⟩, ?_, ?_, ?_, ?_, h256⟩
  · rw [ask_lo hg3 (by omega)]; exact a0
  · rw [ask_lo hg3 (by omega)]; exact a1
  · rw [ask_lo hg3 (by omega)]; exact a3
  · rw [ask_lo hg3 (by omega)]; exact a4
  · rw [ask_lo hg3 (by omega)]; exact a5
  · rw [ask_lo hg3 (by omega)]; exact a6
  · rw [q7, a7]; rfl
  · rw [ask_lo hg3 (by omega)]; exact a8
  · show (if Lp then d.1 8 ||| 1 * 2 ^ g else d.1 8) < 16
    split
    · exact li_16 b8 hg3
    · exact b8
  · show d.1 12 + 1 ≤ 20
    omega
  · rw [ask_lo hg3 (by omega)]; exact (c2 hn0).1
  · intro j hj
    obtain ⟨g1, g2, g3, g4, g5, g6, g7, g8⟩ := G j hj
    refine ⟨?_, ?_, ?_, ?_, ?_, ?_, ?_, ?_⟩
    · rw [ask_lo hg3 (by omega)]; exact g1
    · rw [ask_lo hg3 (by omega)]; exact g2
    · rw [ask_lo hg3 (by omega)]; exact g3
    · show _ = (if Lp then d.1 8 ||| 1 * 2 ^ g else d.1 8) / 2 ^ j % 2
      rw [askN_at hg3, if_neg (by omega), if_neg (by omega), if_neg (by omega), if_neg (by omega), if_neg (by omega)]
      by_cases h : Lp
      · rw [if_pos h, b_or4 _ b8 g (by omega) j hj]
        by_cases e : j = g
        · rw [if_pos ⟨h, by omega⟩, if_pos e]
        · rw [if_neg (fun z => e (by omega)), if_neg e]; exact g4
      · rw [if_neg (fun z => h z.1), if_neg h]; exact g4
    · show _ = qtN (va_up d.2.2.1 (d.1 12) g) (d.1 12 + 1) j
      have hq : qtN (va_up d.2.2.1 (d.1 12) g) (d.1 12) j = qtN d.2.2.1 (d.1 12) j := qtN_cg _ (fun i hi => vuN (by omega))
      rw [askN_at hg3]
      by_cases e : j = g
      · subst e; rw [if_pos rfl, qtN_t (vuS _ _ _), hq, g5]
      · rw [if_neg (by omega), if_neg (by omega), if_neg (by omega), if_neg (by omega), if_neg (by omega), if_neg (by omega), qtN_f (by rw [vuS]; omega), hq]; exact g5
    · rw [ask_lo hg3 (by omega)]; exact g6
    · rw [ask_lo hg3 (by omega)]; exact g7
    · rw [ask_lo hg3 (by omega)]; exact g8
  · intro i hi
    have hi2 : i < d.1 12 + 1 := hi
    show askN nw g c A Lp (41 + 3 * i) = va_up d.2.2.1 (d.1 12) g i ∧ askN nw g c A Lp (41 + 3 * i + 1) = va_up d.2.2.2.1 (d.1 12) c i ∧ askN nw g c A Lp (41 + 3 * i + 2) = va_up d.2.2.2.2.1 (d.1 12) A i ∧ va_up d.2.2.1 (d.1 12) g i < d.1 1 ∧ 1 ≤ va_up d.2.2.2.1 (d.1 12) c i ∧ va_up d.2.2.2.1 (d.1 12) c i < 256 ∧ va_up d.2.2.2.2.1 (d.1 12) A i ≤ 8
    by_cases e : i = d.1 12
    · subst e
      rw [vuS, vuS, vuS]
      refine ⟨?_, ?_, ?_, hg, hc.1, by omega, hA8⟩
      · rw [askN_at hg3, if_neg (by omega), if_neg (by omega), if_neg (by omega), if_neg (by omega), if_pos (by omega)]
      · rw [askN_at hg3, if_neg (by omega), if_neg (by omega), if_neg (by omega), if_pos (by omega)]
      · rw [askN_at hg3, if_neg (by omega), if_neg (by omega), if_pos (by omega)]
    · rw [vuN e, vuN e, vuN e]
      obtain ⟨q1, q2, q3, q4⟩ := Qn i (by omega)
      refine ⟨?_, ?_, ?_, q4⟩
      · rw [askN_at hg3, if_neg (by omega), if_neg (by omega), if_neg (by omega), if_neg (by omega), if_neg (by omega), if_neg (by omega)]; exact q1
      · rw [askN_at hg3, if_neg (by omega), if_neg (by omega), if_neg (by omega), if_neg (by omega), if_neg (by omega), if_neg (by omega)]; exact q2
      · rw [askN_at hg3, if_neg (by omega), if_neg (by omega), if_neg (by omega), if_neg (by omega), if_neg (by omega), if_neg (by omega)]; exact q3
  · intro _
    show d.2.2.2.2.2.filterMap (stA g c A) = (ext (d.1 1) 8 0).filterMap (mkN (askN nw g c A Lp))
    rw [hL hn0, List.filterMap_filterMap]
    exact fm_cg _ (fun D hD => mk_ask (okD_n (by omega) hD).2 (by omega) (by omega))
  · intro _
    refine ⟨(hR hn0).1, fun j hj => ?_⟩
    have hj : j < d.1 1 := hj
    obtain ⟨r1, r2, r3⟩ := (hR hn0).2 j hj
    refine ⟨?_, ?_, ?_⟩
    · rw [ask_lo hg3 (by omega)]; exact r1
    · rw [ask_lo hg3 (by omega)]; exact r2
    · have e21 : askN nw g c A Lp (21 + j) = if Lp ∧ 21 + j = 21 + g then 1 else nw (21 + j) := by rw [askN_at hg3, if_neg (by omega), if_neg (by omega), if_neg (by omega), if_neg (by omega), if_neg (by omega)]
      rw [q7, wrK_ask hg3 (by omega), e21]
      by_cases h : Lp
      · by_cases e : j = g
        · subst e
          rw [if_pos (show Lp ∧ 21 + j = 21 + j from ⟨h, rfl⟩)]
          have h0 := hl h
          rw [(G j (by omega)).2.2.2.1, h0] at r3
          split <;> omega
        · rw [if_neg (fun z => e z.1.symm), if_neg (fun z => e (by omega))]; exact r3
      · rw [if_neg (fun z => by obtain ⟨z1, z2⟩ := z; subst z1; exact z2 (hAt h)), if_neg (fun z => h z.1)]; exact r3
theorem Rel_prv {t : Nat} {hd : Nat → Nat} {d : DT} {nw : Nat → Nat} {g c : Nat} (R : RelD t hd d nw) (hg : g < d.1 1) (hc : c ≤ 7) : RelD t hd (piP hd d g c) (prvN nw g c) := by
  obtain ⟨⟨a0, a1, a3, a4, a5, a6, a7, a8⟩, ⟨b1, b0, b2, b3, b4, b7, b8, b12⟩, ⟨c1, c2⟩, G, Qn, hL, hR, h256⟩ := R
  have hg3 : g ≤ 3 := by omega
  have hn0 : ¬ d.1 1 = 0 := by omega
  have eh : nw (13 + g) = hd g := (G g (by omega)).2.1
  have p2c : 1 * 2 ^ c < 256 := by rw [Nat.one_mul]; exact Nat.lt_of_lt_of_le (Nat.pow_lt_pow_right (by decide) (show c < 8 by omega)) (by decide)
  have o256 : ∀ A, A < 256 → A ||| 1 * 2 ^ c < 256 := fun A h => Nat.or_lt_two_pow (n := 8) h p2c
  have e7 : prvN nw g c 7 = nw 7 := prv_o hg3 (by omega) (by omega) (by omega)
  refine ⟨⟨?_, ?_, ?_, ?_, ?_, ?_, ?_, ?_⟩, ⟨b1, b0, b2, b3, b4, b7, b8, b12⟩, ⟨fun z => absurd z hn0, fun _ => ⟨?_, (c2 hn0).2⟩⟩, ?_, ?_, ?_, ?_, h256⟩
  · rw [prv_o hg3 (by omega) (by omega) (by omega)]; exact a0
  · rw [prv_o hg3 (by omega) (by omega) (by omega)]; exact a1
  · rw [prv_o hg3 (by omega) (by omega) (by omega)]; exact a3
  · rw [prv_o hg3 (by omega) (by omega) (by omega)]; exact a4
  · rw [prv_o hg3 (by omega) (by omega) (by omega)]; exact a5
  · rw [prv_o hg3 (by omega) (by omega) (by omega)]; exact a6
  · rw [e7]; exact a7
  · rw [prvN_at hg3, if_pos rfl, a8]; rfl
  · rw [prv_o hg3 (by omega) (by omega) (by omega)]; exact (c2 hn0).1
  · intro j hj
    obtain ⟨g1, g2, g3, g4, g5, g6, g7, g8⟩ := G j hj
    refine ⟨?_, ?_, ?_, ?_, ?_, ?_, ?_, ?_⟩
    · rw [prv_o hg3 (by omega) (by omega) (by omega)]; exact g1
    · rw [prv_o hg3 (by omega) (by omega) (by omega)]; exact g2
    · rw [prv_o hg3 (by omega) (by omega) (by omega)]; exact g3
    · rw [prv_o hg3 (by omega) (by omega) (by omega)]; exact g4
    · rw [prv_o hg3 (by omega) (by omega) (by omega)]; exact g5
    · show _ = va_up d.2.1 g (d.2.1 g + 1) j
      rw [prvN_at hg3, if_neg (by omega)]
      by_cases e : j = g
      · subst e; rw [if_pos rfl, vuS, g6]
      · rw [if_neg (by omega), if_neg (by split <;> omega), vuN e]; exact g6
    · rw [(prv_33 hg3 hj).1]
      split
      · exact o256 _ g7
      · exact g7
    · rw [(prv_33 hg3 hj).2]
      split
      · exact o256 _ g8
      · exact g8
  · intro i hi
    have hi : i < d.1 12 := hi
    obtain ⟨q1, q2, q3, q4⟩ := Qn i hi
    refine ⟨?_, ?_, ?_, q4⟩
    · rw [prv_o hg3 (by omega) (by omega) (by omega)]; exact q1
    · rw [prv_o hg3 (by omega) (by omega) (by omega)]; exact q2
    · rw [prv_o hg3 (by omega) (by omega) (by omega)]; exact q3
  · intro _
    show d.2.2.2.2.2.filterMap (stP (8 * g + c) (decide (hd g / 2 ^ c &&& 1 = 1))) = (ext (d.1 1) 8 0).filterMap (mkN (prvN nw g c))
    rw [hL hn0, List.filterMap_filterMap, ← eh]
    exact fm_cg _ (fun D hD => mk_prv (okD_n (by omega) hD).2 (by omega) (by omega) (by omega))
  · intro _
    refine ⟨(hR hn0).1, fun j hj => ?_⟩
    have hj : j < d.1 1 := hj
    obtain ⟨r1, r2, r3⟩ := (hR hn0).2 j hj
    have hposs : ∀ i, i < nw 0 → nw (33 + i) &&& nt (hd i) = 0 ∧ nw (37 + i) &&& hd i = 0 := fun i hi => ⟨((hR hn0).2 i (by omega)).1, ((hR hn0).2 i (by omega)).2.1⟩
    rw [(prv_33 hg3 (show j < 4 by omega)).1, (prv_33 hg3 (show j < 4 by omega)).2]
    refine ⟨?_, ?_, ?_⟩
    · by_cases e : j = g ∧ nw (13 + g) / 2 ^ c &&& 1 = 1
      · obtain ⟨e1, e2⟩ := e
        subst e1
        rw [if_pos ⟨rfl, e2⟩, Nat.one_mul, or_and_0, p2_and, nt_bit (by omega), Bool.not_eq_false', bit_q]
        rw [eh] at e2
        exact ⟨r1, decide_eq_true e2⟩
      · rw [if_neg e]; exact r1
    · by_cases e : j = g ∧ ¬ nw (13 + g) / 2 ^ c &&& 1 = 1
      · obtain ⟨e1, e2⟩ := e
        subst e1
        rw [if_pos ⟨rfl, e2⟩, Nat.one_mul, or_and_0, p2_and, bit_q]
        rw [eh] at e2
        exact ⟨r2, decide_eq_false e2⟩
      · rw [if_neg e]; exact r2
    · rw [e7, prv_o (j := 21 + j) hg3 (by omega) (by omega) (by omega), wrK_nw (nw := prvN nw g c) (nw' := nw) (nw 7) (fun i _ => ⟨prv_o hg3 (by omega) (by omega) (by omega), prv_o hg3 (by omega) (by omega) (by omega), prv_o hg3 (by omega) (by omega) (by omega)⟩)]
      exact r3
/-- a change of numbers that the deals don't see -/
theorem RLx_cg {x x' nw nw' : Nat → Nat} {L : List Nat} (h : RLx x L nw) (e1 : x' 1 = x 1) (h0 : nw 0 = nw' 0) (h7 : nw 7 = nw' 7) (hh : ∀ g, g < nw 0 → nw (33 + g) = nw' (33 + g) ∧ nw (37 + g) = nw' (37 + g)) (hq : ∀ i, i < nw 7 → nw (41 + 3 * i) = nw' (41 + 3 * i) ∧ nw (41 + 3 * i + 1) = nw' (41 + 3 * i + 1) ∧ nw (41 + 3 * i + 2) = nw' (41 + 3 * i + 2)) : RLx x' L nw' := by
  intro hn
  rw [e1] at hn ⊢
  rw [h hn]
  exact fm_cg _ (fun D _ => mkN_nw h0 h7 hh hq D)
theorem Rel_lv {t : Nat} {hd : Nat → Nat} {d : DT} {nw : Nat → Nat} {g : Nat} (R : RelD t hd d nw) (hg : g < d.1 1) : RelD t hd (piG d g) (va_up nw (17 + g) 0) := by
  obtain ⟨⟨a0, a1, a3, a4, a5, a6, a7, a8⟩, ⟨b1, b0, b2, b3, b4, b7, b8, b12⟩, ⟨c1, c2⟩, G, Qn, hL, hR, h256⟩ := R
  have hg3 : g ≤ 3 := by omega
  have hn0 : ¬ d.1 1 = 0 := by omega
  have h16 := x7_16 b1 b7
  have ev : ∀ j, ¬ j = 17 + g → va_up nw (17 + g) 0 j = nw j := fun j hj => vuN hj
  refine ⟨⟨by rw [ev 0 (by omega)]; exact a0, by rw [ev 1 (by omega)]; exact a1, by rw [ev 3 (by omega)]; exact a3, by rw [ev 4 (by omega)]; exact a4, by rw [ev 5 (by omega)]; exact a5, by rw [ev 6 (by omega)]; exact a6, by rw [ev 7 (by omega)]; exact a7, by rw [ev 8 (by omega)]; exact a8⟩, ⟨b1, b0, b2, b3, b4, Nat.lt_of_le_of_lt (Nat.sub_le _ _) b7, b8, b12⟩, ⟨fun z => absurd z hn0, fun _ => by rw [ev 2 (by omega)]; exact c2 hn0⟩, ?_, ?_, ?_, ?_, h256⟩
  · intro j hj
    obtain ⟨g1, g2, g3, g4, g5, g6, g7, g8⟩ := G j hj
    refine ⟨?_, ?_, ?_, ?_, ?_, ?_, ?_, ?_⟩
    · rw [vuN (by omega)]; exact g1
    · rw [vuN (by omega)]; exact g2
    · show _ = clr (d.1 7) g / 2 ^ j % 2
      rw [b_clr _ h16 g (by omega) j hj]
      by_cases e : j = g
      · subst e; rw [vuS, if_pos rfl]
      · rw [vuN (by omega), if_neg e]; exact g3
    · rw [vuN (by omega)]; exact g4
    · rw [vuN (by omega)]; exact g5
    · rw [vuN (by omega)]; exact g6
    · rw [vuN (by omega)]; exact g7
    · rw [vuN (by omega)]; exact g8
  · intro i hi
    have hi : i < d.1 12 := hi
    obtain ⟨q1, q2, q3, q4⟩ := Qn i hi
    rw [vuN (by omega), vuN (by omega), vuN (by omega)]
    exact ⟨q1, q2, q3, q4⟩
  · exact RLx_cg (x := d.1) hL rfl (vuN (by omega)).symm (vuN (by omega)).symm (fun j hj => ⟨(vuN (by omega)).symm, (vuN (by omega)).symm⟩) (fun i _ => ⟨(vuN (by omega)).symm, (vuN (by omega)).symm, (vuN (by omega)).symm⟩)
  · intro _
    refine ⟨(hR hn0).1, fun j hj => ?_⟩
    have hj : j < d.1 1 := hj
    obtain ⟨r1, r2, r3⟩ := (hR hn0).2 j hj
    rw [vuN (by omega), vuN (by omega), vuN (show ¬ 21 + j = 17 + g by omega), vuN (show ¬ 7 = 17 + g by omega), wrK_nw (nw := va_up nw (17 + g) 0) (nw' := nw) (nw 7) (fun i _ => ⟨vuN (by omega), vuN (by omega), vuN (by omega)⟩)]
    exact ⟨r1, r2, r3⟩
theorem acN_at (nw : Nat → Nat) (c j : Nat) : acN nw c j = if j = 6 then (if c = nw 2 then nw 6 + (21 - nw 7) else nw 6 + 4294967286) else if j = 5 then (if c = nw 2 then nw 5 + 1 else nw 5 + 0) else if j = 4 then nw 4 + 1 else if j = 1 then 0 else nw j := by
  unfold acN
  by_cases h : c = nw 2
  · rw [if_pos h, if_pos h, if_pos h]
    show va_up (va_up (va_up (va_up nw 1 0) 4 (nw 4 + 1)) 5 (nw 5 + 1)) 6 (nw 6 + (21 - nw 7)) j = _
    unfold va_up; rfl
  · rw [if_neg h, if_neg h, if_neg h]
    show va_up (va_up (va_up (va_up nw 1 0) 4 (nw 4 + 1)) 5 (nw 5 + 0)) 6 (nw 6 + 4294967286) j = _
    unfold va_up; rfl
def acX (x : Nat → Nat) (c : Nat) : Nat → Nat := va_up (va_up (va_up (va_up x 2 0) 4 (x 4 + 1)) 5 (if c = x 3 then x 5 + 1 else x 5)) 6 (if c = x 3 then x 6 + (21 - x 12) else x 6 + 4294967286)
theorem Rel_ac {t : Nat} {hd : Nat → Nat} {d : DT} {nw : Nat → Nat} {c : Nat} (R : RelD t hd d nw) (hgo : d.1 2 = 1) : RelD (t + 1) hd (acX d.1 c, d.2) (acN nw c) := by
  obtain ⟨⟨a0, a1, a3, a4, a5, a6, a7, a8⟩, ⟨b1, b0, b2, b3, b4, b7, b8, b12⟩, ⟨c1, c2⟩, G, Qn, hL, hR, h256⟩ := R
  have hn0 : ¬ d.1 1 = 0 := fun z => by have := (c1 z).1; omega
  have ej : ∀ j, ¬ j = 6 → ¬ j = 5 → ¬ j = 4 → ¬ j = 1 → acN nw c j = nw j := fun j h6 h5 h4 h1 => by rw [acN_at, if_neg h6, if_neg h5, if_neg h4, if_neg h1]
  have e2 := (c2 hn0).1
  refine ⟨⟨?_, ?_, ?_, ?_, ?_, ?_, ?_, ?_⟩, ⟨b1, b0, Nat.zero_le 1, b3, ?_, b7, b8, b12⟩, ⟨fun z => absurd z hn0, fun _ => ⟨?_, fun _ => ?_⟩⟩, ?_, ?_, ?_, ?_, h256⟩
  · rw [ej 0 (by omega) (by omega) (by omega) (by omega)]; exact a0
  · rw [acN_at, if_neg (by decide), if_neg (by decide), if_neg (by decide), if_pos rfl]; rfl
  · rw [ej 3 (by omega) (by omega) (by omega) (by omega)]; exact a3
  · rw [acN_at, if_neg (by decide), if_neg (by decide), if_pos rfl, a4]; rfl
  · rw [acN_at, if_neg (by decide), if_pos rfl, e2, a5]
    show _ = acX d.1 c 5
    unfold acX
    rw [vuN (by decide), vuS]
    split <;> rfl
  · rw [acN_at, if_pos rfl, e2, a6, a7]
    show _ = acX d.1 c 6
    unfold acX
    rw [vuS]
  · rw [ej 7 (by omega) (by omega) (by omega) (by omega)]; exact a7
  · rw [ej 8 (by omega) (by omega) (by omega) (by omega)]; exact a8
  · show d.1 4 + 1 ≤ t + 1; omega
  · rw [ej 2 (by omega) (by omega) (by omega) (by omega)]; exact e2
  · show 0 < d.1 4 + 1; omega
  · intro j hj
    rw [ej (9 + j) (by omega) (by omega) (by omega) (by omega), ej (13 + j) (by omega) (by omega) (by omega) (by omega), ej (17 + j) (by omega) (by omega) (by omega) (by omega), ej (21 + j) (by omega) (by omega) (by omega) (by omega), ej (25 + j) (by omega) (by omega) (by omega) (by omega), ej (29 + j) (by omega) (by omega) (by omega) (by omega), ej (33 + j) (by omega) (by omega) (by omega) (by omega), ej (37 + j) (by omega) (by omega) (by omega) (by omega)]
    exact G j hj
  · intro i hi
    rw [ej (41 + 3 * i) (by omega) (by omega) (by omega) (by omega), ej (41 + 3 * i + 1) (by omega) (by omega) (by omega) (by omega), ej (41 + 3 * i + 2) (by omega) (by omega) (by omega) (by omega)]
    exact Qn i hi
  · exact RLx_cg (x := d.1) hL rfl (ej 0 (by omega) (by omega) (by omega) (by omega)).symm (ej 7 (by omega) (by omega) (by omega) (by omega)).symm (fun j _ => ⟨(ej (33 + j) (by omega) (by omega) (by omega) (by omega)).symm, (ej (37 + j) (by omega) (by omega) (by omega) (by omega)).symm⟩) (fun i _ => ⟨(ej (41 + 3 * i) (by omega) (by omega) (by omega) (by omega)).symm, (ej (41 + 3 * i + 1) (by omega) (by omega) (by omega) (by omega)).symm, (ej (41 + 3 * i + 2) (by omega) (by omega) (by omega) (by omega)).symm⟩)
  · intro _
    refine ⟨(hR hn0).1, fun j hj => ?_⟩
    rw [ej (33 + j) (by omega) (by omega) (by omega) (by omega), ej (37 + j) (by omega) (by omega) (by omega) (by omega), ej (21 + j) (by omega) (by omega) (by omega) (by omega), ej 7 (by omega) (by omega) (by omega) (by omega), wrK_nw (nw := acN nw c) (nw' := nw) (nw 7) (fun i _ => ⟨ej _ (by omega) (by omega) (by omega) (by omega), ej _ (by omega) (by omega) (by omega) (by omega), ej _ (by omega) (by omega) (by omega) (by omega)⟩)]
    exact (hR hn0).2 j hj
