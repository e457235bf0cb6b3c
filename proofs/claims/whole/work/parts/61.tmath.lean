/-! what an answer, a proof does to the possible deals: the same on both sides -/
theorem askN_at {nw : Nat → Nat} {g cards ans : Nat} {Lp : Prop} [Decidable Lp] (hg : g ≤ 3) (j : Nat) : askN nw g cards ans Lp j = if j = 25 + g then nw (25 + g) + 1 else if j = 7 then nw 7 + 1 else if j = 41 + 3 * nw 7 + 2 then ans else if j = 41 + 3 * nw 7 + 1 then cards else if j = 41 + 3 * nw 7 then g else if Lp ∧ j = 21 + g then 1 else nw j := by
  have e7 := lieN_7 nw g Lp
  have el : ∀ i, lieN nw g Lp i = if Lp ∧ i = 21 + g then 1 else nw i := by
    intro i
    by_cases h : Lp
    · rw [show lieN nw g Lp = va_up nw (21 + g) 1 from if_pos h]
      by_cases e : i = 21 + g
      · subst e; rw [vuS, if_pos ⟨h, rfl⟩]
      · rw [vuN e, if_neg (fun z => e z.2)]
    · rw [show lieN nw g Lp = nw from if_neg h, if_neg (fun z => h z.1)]
  unfold askN
  rw [e7]
  unfold asB
  have h7 : asA (lieN nw g Lp) (41 + 3 * nw 7) g cards ans 7 = nw 7 := by
    unfold asA; rw [vuN (by omega), vuN (by omega), vuN (by omega), e7]
  have h25 : asA (lieN nw g Lp) (41 + 3 * nw 7) g cards ans (25 + g) = nw (25 + g) := by
    unfold asA; rw [vuN (by omega), vuN (by omega), vuN (by omega), el, if_neg (by omega)]
  rw [h7, vuN (show ¬ 25 + g = 7 by omega), h25]
  by_cases a1 : j = 25 + g
  · rw [if_pos a1, a1, vuS]
  · rw [if_neg a1, vuN a1]
    by_cases a2 : j = 7
    · rw [if_pos a2, a2, vuS]
    · rw [if_neg a2, vuN a2]
      unfold asA
      by_cases a3 : j = 41 + 3 * nw 7 + 2
      · rw [if_pos a3, a3, vuS]
      · rw [if_neg a3, vuN a3]
        by_cases a4 : j = 41 + 3 * nw 7 + 1
        · rw [if_pos a4, a4, vuS]
        · rw [if_neg a4, vuN a4]
          by_cases a5 : j = 41 + 3 * nw 7
          · rw [if_pos a5, a5, vuS]
          · rw [if_neg a5, vuN a5, el]
theorem prvN_at {nw : Nat → Nat} {g c0 : Nat} (hg : g ≤ 3) (j : Nat) : prvN nw g c0 j = if j = 8 then nw 8 + 1 else if j = 29 + g then nw (29 + g) + 1 else if j = (if nw (13 + g) / 2 ^ c0 &&& 1 = 1 then 33 + g else 37 + g) then nw j ||| 1 * 2 ^ c0 else nw j := by
  unfold prvN pvB pvA
  generalize hi : (if nw (13 + g) / 2 ^ c0 &&& 1 = 1 then 33 + g else 37 + g) = I
  have h33 : 33 ≤ I := by rw [← hi]; split <;> omega
  rw [vuN (show ¬ 8 = 29 + g by omega), vuN (show ¬ 8 = I by omega), vuN (show ¬ 29 + g = I by omega)]
  by_cases a1 : j = 8
  · rw [if_pos a1, a1, vuS]
  · rw [if_neg a1, vuN a1]
    by_cases a2 : j = 29 + g
    · rw [if_pos a2, a2, vuS]
    · rw [if_neg a2, vuN a2]
      by_cases a3 : j = I
      · rw [if_pos a3, a3, vuS]
      · rw [if_neg a3, vuN a3]
theorem wrK_ask {nw dl : Nat → Nat} {g cards ans g' : Nat} {Lp : Prop} [Decidable Lp] (hg : g ≤ 3) (hg' : g' ≤ 3) : wrK (askN nw g cards ans Lp) dl g' (nw 7 + 1) = wrK nw dl g' (nw 7) + (if g = g' ∧ ¬ pc8 (dl g' &&& cards) = ans then 1 else 0) := by
  show wrK (askN nw g cards ans Lp) dl g' (nw 7) + _ = _
  have e1 : askN nw g cards ans Lp (41 + 3 * nw 7) = g := by
    rw [askN_at hg, if_neg (by omega), if_neg (by omega), if_neg (by omega), if_neg (by omega), if_pos rfl]
  have e2 : askN nw g cards ans Lp (41 + 3 * nw 7 + 1) = cards := by
    rw [askN_at hg, if_neg (by omega), if_neg (by omega), if_neg (by omega), if_pos rfl]
  have e3 : askN nw g cards ans Lp (41 + 3 * nw 7 + 2) = ans := by
    rw [askN_at hg, if_neg (by omega), if_neg (by omega), if_pos rfl]
  rw [e1, e2, e3, wrK_nw (nw := askN nw g cards ans Lp) (nw' := nw) (nw 7) (fun i hi => ?_)]
  refine ⟨?_, ?_, ?_⟩ <;> rw [askN_at hg, if_neg (by omega), if_neg (by omega), if_neg (by omega), if_neg (by omega), if_neg (by omega), if_neg (by omega)]
theorem ask_0 {nw : Nat → Nat} {g cards ans : Nat} {Lp : Prop} [Decidable Lp] (hg : g ≤ 3) : askN nw g cards ans Lp 0 = nw 0 := by
  rw [askN_at hg, if_neg (by omega), if_neg (by omega), if_neg (by omega), if_neg (by omega), if_neg (by omega), if_neg (by omega)]
theorem ask_7 {nw : Nat → Nat} {g cards ans : Nat} {Lp : Prop} [Decidable Lp] (hg : g ≤ 3) : askN nw g cards ans Lp 7 = nw 7 + 1 := by
  rw [askN_at hg, if_neg (by omega), if_pos rfl]
theorem ask_33 {nw : Nat → Nat} {g cards ans j : Nat} {Lp : Prop} [Decidable Lp] (hg : g ≤ 3) (h : j < 4) : askN nw g cards ans Lp (33 + j) = nw (33 + j) ∧ askN nw g cards ans Lp (37 + j) = nw (37 + j) := by
  constructor <;> rw [askN_at hg, if_neg (by omega), if_neg (by omega), if_neg (by omega), if_neg (by omega), if_neg (by omega), if_neg (by omega)]
theorem possD_ask {nw dl : Nat → Nat} {g cards ans : Nat} {Lp : Prop} [Decidable Lp] (hg : g ≤ 3) (hn : nw 0 ≤ 4) : possD (askN nw g cards ans Lp) dl ↔ (∀ j, j < nw 0 → nw (33 + j) &&& nt (dl j) = 0 ∧ nw (37 + j) &&& dl j = 0) ∧ ∀ j, j < nw 0 → wrK nw dl j (nw 7) + (if g = j ∧ ¬ pc8 (dl j &&& cards) = ans then 1 else 0) ≤ 1 := by
  unfold possD
  rw [ask_0 hg, ask_7 hg]
  constructor
  · intro z
    refine ⟨fun j hj => ?_, fun j hj => ?_⟩
    · rw [← (ask_33 (nw := nw) (cards := cards) (ans := ans) (Lp := Lp) hg (show j < 4 by omega)).1, ← (ask_33 (nw := nw) (cards := cards) (ans := ans) (Lp := Lp) hg (show j < 4 by omega)).2]; exact z.1 j hj
    · rw [← wrK_ask (Lp := Lp) hg (by omega)]; exact z.2 j hj
  · intro z
    refine ⟨fun j hj => ?_, fun j hj => ?_⟩
    · rw [(ask_33 hg (show j < 4 by omega)).1, (ask_33 hg (show j < 4 by omega)).2]; exact z.1 j hj
    · rw [wrK_ask hg (by omega)]; exact z.2 j hj
theorem mk_ask {nw : Nat → Nat} {D g cards ans : Nat} {Lp : Prop} [Decidable Lp] (hD : D < 2 ^ 40) (hn : nw 0 ≤ 4) (hg : g < nw 0) : (mkN nw D).bind (stA g cards ans) = mkN (askN nw g cards ans Lp) D := by
  have hg3 : g ≤ 3 := by omega
  by_cases hp : possD nw (hAt D)
  · rw [mkN_y hp]
    have hw : ∀ j, j < nw 0 → wrK nw (hAt D) j (nw 7) ≤ 1 := hp.2
    show stA g cards ans (D + 1099511627776 * wsm (fun g => wrK nw (hAt D) g (nw 7)) (nw 0)) = _
    have hv : hAt (D + 1099511627776 * wsm (fun g => wrK nw (hAt D) g (nw 7)) (nw 0)) g = hAt D g := hAt_v hD (by omega)
    have hb : (D + 1099511627776 * wsm (fun g => wrK nw (hAt D) g (nw 7)) (nw 0)).testBit (40 + g) = decide (wrK nw (hAt D) g (nw 7) = 1) := bit_v (d := fun _ => 0) (w := fun g => wrK nw (hAt D) g (nw 7)) hD hn hw hg
    by_cases he : pc8 (hAt D g &&& cards) = ans
    · have h0 : ∀ j, j < nw 0 → (if g = j ∧ ¬ pc8 (hAt D j &&& cards) = ans then 1 else 0) = 0 := fun j hj => if_neg (fun z => by obtain ⟨z1, z2⟩ := z; subst z1; exact z2 he)
      have hp2 : possD (askN nw g cards ans Lp) (hAt D) := (possD_ask hg3 hn).mpr ⟨hp.1, fun j hj => by rw [h0 j hj]; exact hw j hj⟩
      rw [stA_e (by rw [hv]; exact he), mkN_y hp2, ask_0 hg3, ask_7 hg3, wsm_cg (w := fun g_1 => wrK (askN nw g cards ans Lp) (hAt D) g_1 (nw 7 + 1)) (w' := fun g => wrK nw (hAt D) g (nw 7)) (nw 0) (fun j hj => by rw [wrK_ask hg3 (by omega), h0 j hj]; rfl)]
    · by_cases h1 : wrK nw (hAt D) g (nw 7) = 1
      · have hn2 : ¬ possD (askN nw g cards ans Lp) (hAt D) := fun z => by
          have h9 := ((possD_ask hg3 hn).mp z).2 g hg
          rw [if_pos ⟨rfl, he⟩, h1] at h9; omega
        rw [mkN_n hn2]
        unfold stA
        rw [hv, if_neg he, hb, decide_eq_true h1, if_neg (by decide)]
      · have h2 : wrK nw (hAt D) g (nw 7) = 0 := by have := hw g hg; omega
        have e1 : ∀ j, j < nw 0 → wrK nw (hAt D) j (nw 7) + (if g = j ∧ ¬ pc8 (hAt D j &&& cards) = ans then 1 else 0) = va_up (fun g => wrK nw (hAt D) g (nw 7)) g 1 j := fun j hj => by
          by_cases e : g = j
          · subst e; rw [if_pos ⟨rfl, he⟩, vuS, h2]
          · rw [if_neg (fun z => e z.1), vuN (fun z => e z.symm)]; rfl
        have hp2 : possD (askN nw g cards ans Lp) (hAt D) := (possD_ask hg3 hn).mpr ⟨hp.1, fun j hj => by
          rw [e1 j hj]
          by_cases e : j = g
          · subst e; rw [vuS]; exact Nat.le_refl _
          · rw [vuN e]; exact hw j hj⟩
        have hb2 : (D + 1099511627776 * wsm (fun g => wrK nw (hAt D) g (nw 7)) (nw 0)).testBit (40 + g) = false := by rw [hb]; exact decide_eq_false h1
        rw [mkN_y hp2, ask_0 hg3, ask_7 hg3, wsm_cg (w := fun g_1 => wrK (askN nw g cards ans Lp) (hAt D) g_1 (nw 7 + 1)) (w' := va_up (fun g => wrK nw (hAt D) g (nw 7)) g 1) (nw 0) (fun j hj => by rw [wrK_ask hg3 (by omega), e1 j hj]), wsm_up (w := fun g => wrK nw (hAt D) g (nw 7)) (g := g) h2 (nw 0) hg]
        unfold stA
        rw [hv, if_neg he, if_pos hb2, or_bit hb2, Nat.mul_add, ← Nat.add_assoc, Nat.pow_add]
  · rw [mkN_n hp, mkN_n (fun z => hp ?_)]
    · rfl
    · have h9 := (possD_ask hg3 hn).mp z
      exact ⟨h9.1, fun j hj => Nat.le_trans (Nat.le_add_right _ _) (h9.2 j hj)⟩
theorem and_0 {a b : Nat} : a &&& b = 0 ↔ ∀ i, a.testBit i = true → b.testBit i = false := by
  constructor
  · intro h i hi
    have h1 : (a &&& b).testBit i = false := by rw [h]; exact Nat.zero_testBit i
    rw [Nat.testBit_and, hi, Bool.true_and] at h1
    exact h1
  · intro h
    apply Nat.eq_of_testBit_eq
    intro i
    rw [Nat.zero_testBit, Nat.testBit_and]
    cases e : a.testBit i with
    | false => rfl
    | true => rw [h i e]; rfl
theorem or_and_0 {a b c : Nat} : (a ||| c) &&& b = 0 ↔ a &&& b = 0 ∧ c &&& b = 0 := by
  rw [and_0, and_0, and_0]
  constructor
  · intro h
    exact ⟨fun i hi => h i (by rw [Nat.testBit_or, hi]; rfl), fun i hi => h i (by rw [Nat.testBit_or, hi, Bool.or_true])⟩
  · intro h i hi
    rw [Nat.testBit_or, Bool.or_eq_true] at hi
    rcases hi with q | q
    · exact h.1 i q
    · exact h.2 i q
theorem p2_and {b c : Nat} : 2 ^ c &&& b = 0 ↔ b.testBit c = false := by
  rw [and_0]
  constructor
  · intro h; exact h c (by rw [Nat.testBit_two_pow]; exact decide_eq_true rfl)
  · intro h i hi
    rw [Nat.testBit_two_pow] at hi
    rw [← of_decide_eq_true hi]; exact h
theorem nt_bit {d c : Nat} (hc : c < 32) : (nt d).testBit c = !d.testBit c := by
  unfold nt
  rw [show (4294967295 : Nat) = 2 ^ 32 - 1 from rfl, Nat.testBit_xor, Nat.testBit_two_pow_sub_one, decide_eq_true hc, Bool.true_xor]
theorem bit_q {d c : Nat} : d.testBit c = decide (d / 2 ^ c &&& 1 = 1) := by
  rw [Nat.testBit_eq_decide_div_mod_eq, Nat.and_one_is_mod]
theorem prv_o {nw : Nat → Nat} {g c0 j : Nat} (hg : g ≤ 3) (h8 : ¬ j = 8) (h29 : ¬ j = 29 + g) (h33 : j < 33 ∨ 41 ≤ j) : prvN nw g c0 j = nw j := by
  rw [prvN_at hg, if_neg h8, if_neg h29, if_neg (by split <;> omega)]
theorem prv_33 {nw : Nat → Nat} {g c0 j : Nat} (hg : g ≤ 3) (hj : j < 4) : prvN nw g c0 (33 + j) = (if j = g ∧ nw (13 + g) / 2 ^ c0 &&& 1 = 1 then nw (33 + j) ||| 1 * 2 ^ c0 else nw (33 + j)) ∧ prvN nw g c0 (37 + j) = (if j = g ∧ ¬ nw (13 + g) / 2 ^ c0 &&& 1 = 1 then nw (37 + j) ||| 1 * 2 ^ c0 else nw (37 + j)) := by
  constructor
  · rw [prvN_at hg, if_neg (by omega), if_neg (by omega)]
    by_cases h : nw (13 + g) / 2 ^ c0 &&& 1 = 1
    · rw [if_pos h]
      by_cases e : j = g
      · rw [if_pos (by omega), if_pos ⟨e, h⟩]
      · rw [if_neg (by omega), if_neg (fun z => e z.1)]
    · rw [if_neg h, if_neg (by omega), if_neg (fun z => h z.2)]
  · rw [prvN_at hg, if_neg (by omega), if_neg (by omega)]
    by_cases h : nw (13 + g) / 2 ^ c0 &&& 1 = 1
    · rw [if_pos h, if_neg (by omega), if_neg (fun z => z.2 h)]
    · rw [if_neg h]
      by_cases e : j = g
      · rw [if_pos (by omega), if_pos ⟨e, h⟩]
      · rw [if_neg (by omega), if_neg (fun z => e z.1)]
theorem possD_prv {nw dl : Nat → Nat} {g c0 : Nat} (hg : g < nw 0) (hn : nw 0 ≤ 4) (hc : c0 < 8) : possD (prvN nw g c0) dl ↔ possD nw dl ∧ (dl g).testBit c0 = decide (nw (13 + g) / 2 ^ c0 &&& 1 = 1) := by
  have hg3 : g ≤ 3 := by omega
  have e0 : prvN nw g c0 0 = nw 0 := prv_o hg3 (by omega) (by omega) (by omega)
  have e7 : prvN nw g c0 7 = nw 7 := prv_o hg3 (by omega) (by omega) (by omega)
  have eq : ∀ j, wrK (prvN nw g c0) dl j (nw 7) = wrK nw dl j (nw 7) := fun j => wrK_nw _ (fun i _ => ⟨prv_o hg3 (by omega) (by omega) (by omega), prv_o hg3 (by omega) (by omega) (by omega), prv_o hg3 (by omega) (by omega) (by omega)⟩)
  have hb : ∀ A : Nat, (A ||| 1 * 2 ^ c0) &&& nt (dl g) = 0 ↔ A &&& nt (dl g) = 0 ∧ (dl g).testBit c0 = true := fun A => by
    rw [Nat.one_mul, or_and_0, p2_and, nt_bit (by omega), Bool.not_eq_false']
  have hb2 : ∀ A : Nat, (A ||| 1 * 2 ^ c0) &&& dl g = 0 ↔ A &&& dl g = 0 ∧ (dl g).testBit c0 = false := fun A => by
    rw [Nat.one_mul, or_and_0, p2_and]
  unfold possD
  rw [e0, e7]
  constructor
  · intro z
    have zg := z.1 g hg
    rw [(prv_33 hg3 (show g < 4 by omega)).1, (prv_33 hg3 (show g < 4 by omega)).2] at zg
    refine ⟨⟨fun j hj => ?_, fun j hj => by rw [← eq]; exact z.2 j hj⟩, ?_⟩
    · have zj := z.1 j hj
      rw [(prv_33 hg3 (show j < 4 by omega)).1, (prv_33 hg3 (show j < 4 by omega)).2] at zj
      by_cases e : j = g
      · subst e
        by_cases h : nw (13 + j) / 2 ^ c0 &&& 1 = 1
        · rw [if_pos ⟨rfl, h⟩, if_neg (fun q => q.2 h)] at zj
          exact ⟨((hb _).mp zj.1).1, zj.2⟩
        · rw [if_neg (fun q => h q.2), if_pos ⟨rfl, h⟩] at zj
          exact ⟨zj.1, ((hb2 _).mp zj.2).1⟩
      · rw [if_neg (fun q => e q.1), if_neg (fun q => e q.1)] at zj
        exact zj
    · by_cases h : nw (13 + g) / 2 ^ c0 &&& 1 = 1
      · rw [if_pos ⟨rfl, h⟩] at zg
        rw [((hb _).mp zg.1).2, decide_eq_true h]
      · rw [if_pos (show g = g ∧ ¬ nw (13 + g) / 2 ^ c0 &&& 1 = 1 from ⟨rfl, h⟩)] at zg
        rw [((hb2 _).mp zg.2).2, decide_eq_false h]
  · rintro ⟨z, hz⟩
    refine ⟨fun j hj => ?_, fun j hj => by rw [eq]; exact z.2 j hj⟩
    have zj := z.1 j hj
    rw [(prv_33 hg3 (show j < 4 by omega)).1, (prv_33 hg3 (show j < 4 by omega)).2]
    by_cases e : j = g
    · subst e
      by_cases h : nw (13 + j) / 2 ^ c0 &&& 1 = 1
      · rw [decide_eq_true h] at hz
        rw [if_pos ⟨rfl, h⟩, if_neg (fun q => q.2 h)]
        exact ⟨(hb _).mpr ⟨zj.1, hz⟩, zj.2⟩
      · rw [decide_eq_false h] at hz
        rw [if_neg (fun q => h q.2), if_pos ⟨rfl, h⟩]
        exact ⟨zj.1, (hb2 _).mpr ⟨zj.2, hz⟩⟩
    · rw [if_neg (fun q => e q.1), if_neg (fun q => e q.1)]
      exact zj
theorem mk_prv {nw : Nat → Nat} {D g c0 : Nat} (hD : D < 2 ^ 40) (hn : nw 0 ≤ 4) (hg : g < nw 0) (hc : c0 < 8) : (mkN nw D).bind (stP (8 * g + c0) (decide (nw (13 + g) / 2 ^ c0 &&& 1 = 1))) = mkN (prvN nw g c0) D := by
  have hg3 : g ≤ 3 := by omega
  by_cases hp : possD nw (hAt D)
  · rw [mkN_y hp]
    show stP (8 * g + c0) _ (D + 1099511627776 * wsm (fun g => wrK nw (hAt D) g (nw 7)) (nw 0)) = _
    have hv : (D + 1099511627776 * wsm (fun g => wrK nw (hAt D) g (nw 7)) (nw 0)).testBit (8 * g + c0) = (hAt D g).testBit c0 := by
      rw [← hAt_bit hc, hAt_v hD (by omega)]
    unfold stP
    rw [hv]
    by_cases h : (hAt D g).testBit c0 = decide (nw (13 + g) / 2 ^ c0 &&& 1 = 1)
    · have hp2 : possD (prvN nw g c0) (hAt D) := (possD_prv hg hn hc).mpr ⟨hp, h⟩
      rw [if_pos h, mkN_y hp2, prv_o (j := 0) hg3 (by omega) (by omega) (by omega), prv_o (j := 7) hg3 (by omega) (by omega) (by omega)]
      rw [wsm_cg (w := fun g_1 => wrK (prvN nw g c0) (hAt D) g_1 (nw 7)) (w' := fun g => wrK nw (hAt D) g (nw 7)) (nw 0) (fun j _ => wrK_nw _ (fun i _ => ⟨prv_o hg3 (by omega) (by omega) (by omega), prv_o hg3 (by omega) (by omega) (by omega), prv_o hg3 (by omega) (by omega) (by omega)⟩))]
    · rw [if_neg h, mkN_n (fun z => h ((possD_prv hg hn hc).mp z).2)]
  · rw [mkN_n hp, mkN_n (fun z => hp ((possD_prv hg hn hc).mp z).1)]
    rfl
