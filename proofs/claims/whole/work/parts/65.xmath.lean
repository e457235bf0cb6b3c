/-! what is told: the same on both sides -/
theorem pr_pc : ∀ n, n ≤ 4 → ∀ v, v < 2 ^ n → ∀ nw : Nat → Nat, (∀ g, g < n → nw (17 + g) = v / 2 ^ g % 2) → prN nw n = pc8 v := by
  have key : ∀ n, n ≤ 4 → ∀ v, v < 2 ^ n → prN (fun j => v / 2 ^ (j - 17) % 2) n = pc8 v := by decide +kernel
  intro n hn v hv nw h
  rw [← key n hn v hv]
  have cg : ∀ k, k ≤ n → prN nw k = prN (fun j => v / 2 ^ (j - 17) % 2) k := by
    intro k
    induction k with
    | zero => intro _; rfl
    | succ k ih =>
      intro hk
      show prN nw k + nw (17 + k) = prN _ k + v / 2 ^ (17 + k - 17) % 2
      rw [ih (by omega), h k (by omega), show 17 + k - 17 = k by omega]
  exact cg n (Nat.le_refl _)
theorem tv_eq {t : Nat} {hd : Nat → Nat} {d : DT} {nw : Nat → Nat} (R : RelD t hd d nw) {w : Nat} (hw : w ≤ 9) : tvN nw w = abH d.1 w := by
  obtain ⟨⟨a0, a1, a3, a4, a5, a6, a7, a8⟩, ⟨b1, b0, b2, b3, b4, b7, b8, b12⟩, ⟨c1, c2⟩, G, Qn, hL, hR, h256⟩ := R
  rcases (show w = 0 ∨ w = 1 ∨ w = 2 ∨ w = 3 ∨ w = 4 ∨ w = 5 ∨ w = 6 ∨ w = 7 ∨ w = 8 ∨ w = 9 by omega) with rfl | rfl | rfl | rfl | rfl | rfl | rfl | rfl | rfl | rfl
  · exact a0
  · exact a1
  · exact a7
  · exact a8
  · exact a4
  · exact a5
  · exact a6
  · exact a3
  · show prN nw (nw 0) = pc8 (d.1 7)
    exact pr_pc (nw 0) (by omega) (d.1 7) (by rw [a0]; exact b7) nw (fun g hg => (G g (by omega)).2.2.1)
  · show (if nw 1 = 1 then 4294967295 else nw 2) = if d.1 2 = 1 ∨ d.1 4 = 0 then 4294967295 else d.1 3
    by_cases h : d.1 1 = 0
    · obtain ⟨e2, e4, e5, _⟩ := c1 h
      rw [if_neg (by omega), if_pos (Or.inr e4), e5]
    · obtain ⟨e1, e2⟩ := c2 h
      by_cases g1 : d.1 2 = 1
      · rw [if_pos (by omega), if_pos (Or.inl g1)]
      · have := e2 (by omega)
        rw [if_neg (by omega), if_neg (by omega), e1]
theorem tg_eq {t : Nat} {hd : Nat → Nat} {d : DT} {nw : Nat → Nat} (R : RelD t hd d nw) {g w : Nat} (hg : g < d.1 1) (hw : w ≤ 7) : tgN nw (crA nw) g w = abG d.1 hd d.2.1 d.2.2.1 d.2.2.2.2.2 g w := by
  have hp := Rel_perm R
  obtain ⟨⟨a0, a1, a3, a4, a5, a6, a7, a8⟩, ⟨b1, b0, b2, b3, b4, b7, b8, b12⟩, ⟨c1, c2⟩, G, Qn, hL, hR, h256⟩ := R
  have hg4 : g < 4 := by omega
  obtain ⟨g1, g2, g3, g4, g5, g6, g7, g8⟩ := G g hg4
  rcases (show w = 0 ∨ w = 1 ∨ w = 2 ∨ w = 3 ∨ w = 4 ∨ w = 5 ∨ w = 6 ∨ w = 7 by omega) with rfl | rfl | rfl | rfl | rfl | rfl | rfl | rfl
  · show nw (9 + g) = szH (d.1 1) g
    rw [g1, if_pos hg]
  · show nw (17 + g) = d.1 7 / 2 ^ g &&& 1
    rw [g3, Nat.and_one_is_mod]
  · exact g5
  · exact g6
  · show (if (crA nw).length = 0 then 0 else sS (nw 0) (crA nw) g) = if d.2.2.2.2.2.length = 0 then 0 else hAt (andL d.2.2.2.2.2) g
    rw [hp.length_eq, sS_eq hp (by omega) hg4]
  · show sM (nw 0) (crA nw) g = hAt (orL d.2.2.2.2.2) g
    exact sM_eq hp (by omega)
  · show (if 0 < (crA nw).length ∧ sL (nw 0) (crA nw) g = (crA nw).length then 1 else 0) = if 0 < d.2.2.2.2.2.length ∧ (andL d.2.2.2.2.2).testBit (40 + g) = true then 1 else 0
    have h := sL_eq (n := nw 0) hp (by omega) hg4
    by_cases q : 0 < (crA nw).length ∧ sL (nw 0) (crA nw) g = (crA nw).length
    · rw [if_pos q, if_pos (h.mp q)]
    · rw [if_neg q, if_neg (fun z => q (h.mpr z))]
  · show (if nw 1 = 1 then 4294967295 else nw (13 + g)) = if d.1 2 = 1 then 4294967295 else hd g
    rw [a1, g2]
theorem qu_eq {t : Nat} {hd : Nat → Nat} {d : DT} {nw : Nat → Nat} (R : RelD t hd d nw) {q w : Nat} (hq : q < d.1 12) (hw : w ≤ 2) : nw (41 + 3 * q + w) = abQ d.2.2.1 d.2.2.2.1 d.2.2.2.2.1 q w := by
  obtain ⟨_, _, _, G, Qn, _⟩ := R
  obtain ⟨q1, q2, q3, _⟩ := Qn q hq
  rcases (show w = 0 ∨ w = 1 ∨ w = 2 by omega) with rfl | rfl | rfl
  · exact q1
  · exact q2
  · exact q3
/-! what the contracts want of the row -/
theorem Rel_GN {t : Nat} {hd : Nat → Nat} {d : DT} {nw : Nat → Nat} (R : RelD t hd d nw) : GN nw := by
  obtain ⟨⟨a0, a1, a3, a4, a5, a6, a7, a8⟩, ⟨b1, b0, b2, b3, b4, b7, b8, b12⟩, ⟨c1, c2⟩, G, Qn, hL, hR, h256⟩ := R
  refine ⟨by omega, fun k hk => ?_, fun g hg => ?_, fun g hg => ?_⟩
  · rcases hk with rfl | rfl | ⟨h1, h2⟩
    · rw [a1]; omega
    · rw [a7]; omega
    · rcases (show k < 21 ∨ 21 ≤ k by omega) with q | q
      · have h := (G (k - 17) (by omega)).2.2.1
        rw [show 17 + (k - 17) = k by omega] at h
        rw [h]; omega
      · have h := (G (k - 21) (by omega)).2.2.2.1
        rw [show 21 + (k - 21) = k by omega] at h
        rw [h]; omega
  · rw [(G g hg).1]; split
    · exact szH_le _ _
    · exact Nat.zero_le _
  · rw [(G g hg).2.1]; exact h256 g
theorem Rel_MI {t : Nat} {hd : Nat → Nat} {d : DT} {nw : Nat → Nat} (R : RelD t hd d nw) : MI nw := by
  obtain ⟨⟨a0, a1, a3, a4, a5, a6, a7, a8⟩, ⟨b1, b0, b2, b3, b4, b7, b8, b12⟩, ⟨c1, c2⟩, G, Qn, hL, hR, h256⟩ := R
  refine ⟨by omega, fun g hg => ⟨(G g hg).2.2.2.2.2.2.1, (G g hg).2.2.2.2.2.2.2⟩, by omega, fun k hk => ?_⟩
  obtain ⟨q1, q2, q3, q4, q5, q6, q7⟩ := Qn k (by omega)
  rw [q1, q2, q3]
  exact ⟨by omega, q6, q7⟩
theorem Rel_P {t : Nat} {hd : Nat → Nat} {d : DT} {nw : Nat → Nat} (R : RelD t hd d nw) : (crA nw).length ≤ 5040 := by
  rw [(Rel_perm R).length_eq]; exact (Rel_B R).1
theorem Rel_K {t : Nat} {hd : Nat → Nat} {d : DT} {nw : Nat → Nat} (R : RelD t hd d nw) : piK d := by
  have hB := Rel_B R
  obtain ⟨_, ⟨b1, b0, b2, b3, b4, b7, b8, b12⟩, _⟩ := R
  exact ⟨b1, b2, x7_16 b1 b7, b8, b12, hB⟩
theorem Rel_ag {t : Nat} {hd : Nat → Nat} {d : DT} {nw : Nat → Nat} (R : RelD t hd d nw) : ∀ i, i < d.1 12 → d.2.2.1 i < 4 := by
  obtain ⟨_, ⟨b1, _⟩, _, _, Qn, _⟩ := R
  intro i hi
  have h := (Qn i hi).2.2.2.1
  omega
theorem Rel_mono {t t' : Nat} {hd : Nat → Nat} {d : DT} {nw : Nat → Nat} (h : t ≤ t') (R : RelD t hd d nw) : RelD t' hd d nw := by
  obtain ⟨A, ⟨b1, b0, b2, b3, b4, b7, b8, b12⟩, rest⟩ := R
  exact ⟨A, ⟨b1, b0, b2, b3, by omega, b7, b8, b12⟩, rest⟩
/-- only the row's first 101 places count -/
theorem Rel_row {t : Nat} {hd : Nat → Nat} {d : DT} {nw nw' : Nat → Nat} (h : ∀ j, j < 101 → nw j = nw' j) (R : RelD t hd d nw) : RelD t hd d nw' := by
  obtain ⟨⟨a0, a1, a3, a4, a5, a6, a7, a8⟩, ⟨b1, b0, b2, b3, b4, b7, b8, b12⟩, ⟨c1, c2⟩, G, Qn, hL, hR, h256⟩ := R
  have hq : ∀ i, i < nw 7 → nw (41 + 3 * i) = nw' (41 + 3 * i) ∧ nw (41 + 3 * i + 1) = nw' (41 + 3 * i + 1) ∧ nw (41 + 3 * i + 2) = nw' (41 + 3 * i + 2) := fun i hi => ⟨h _ (by omega), h _ (by omega), h _ (by omega)⟩
  refine ⟨⟨by rw [← h 0 (by decide)]; exact a0, by rw [← h 1 (by decide)]; exact a1, by rw [← h 3 (by decide)]; exact a3, by rw [← h 4 (by decide)]; exact a4, by rw [← h 5 (by decide)]; exact a5, by rw [← h 6 (by decide)]; exact a6, by rw [← h 7 (by decide)]; exact a7, by rw [← h 8 (by decide)]; exact a8⟩, ⟨b1, b0, b2, b3, b4, b7, b8, b12⟩, ⟨by rw [← h 2 (by decide)]; exact c1, by rw [← h 2 (by decide)]; exact c2⟩, fun g hg => ?_, fun i hi => ?_, ?_, fun hn => ?_, h256⟩
  · rw [← h (9 + g) (by omega), ← h (13 + g) (by omega), ← h (17 + g) (by omega), ← h (21 + g) (by omega), ← h (25 + g) (by omega), ← h (29 + g) (by omega), ← h (33 + g) (by omega), ← h (37 + g) (by omega)]
    exact G g hg
  · rw [← h (41 + 3 * i) (by omega), ← h (41 + 3 * i + 1) (by omega), ← h (41 + 3 * i + 2) (by omega)]
    exact Qn i hi
  · exact RLx_cg (x := d.1) hL rfl (h 0 (by decide)) (h 7 (by decide)) (fun g hg => ⟨h _ (by omega), h _ (by omega)⟩) hq
  · refine ⟨(hR hn).1, fun g hg => ?_⟩
    rw [← h (33 + g) (by omega), ← h (37 + g) (by omega), ← h (21 + g) (by omega), ← h 7 (by decide), ← wrK_nw (nw := nw) (nw' := nw') (nw 7) hq]
    exact (hR hn).2 g hg
/-! a text is played on both sides -/
theorem dgs_ge2 (c : Nat → Int) : ∀ (m i : Nat) (la : Int) (cs : Nat), cs ≤ (dgs c m i la cs).2.2
  | 0, _, _, _ => Nat.le_refl _
  | m + 1, i, la, cs => by
    unfold dgs; split
    · exact Nat.le_refl _
    · exact Nat.le_trans Nat.left_le_or (dgs_ge2 c m (i + 1) (c i - 48) _)
theorem dgs_pos {c : Nat → Int} {m i : Nat} {la : Int} {cs : Nat} (h : i < (dgs c m i la cs).1) : 1 ≤ (dgs c m i la cs).2.2 := by
  cases m with
  | zero => exact absurd h (Nat.lt_irrefl _)
  | succ m =>
    by_cases e : c i - 48 ≤ la ∨ 8 ≤ c i - 48
    · rw [dgs_e (Nat.succ_pos _) e] at h; exact absurd h (Nat.lt_irrefl _)
    · rw [dgs_s (Nat.succ_pos _) (by omega) (by omega)]
      refine Nat.le_trans ?_ (dgs_ge2 c _ _ _ _)
      refine Nat.le_trans ?_ Nat.right_le_or
      rw [Nat.one_mul]; exact Nat.one_le_two_pow
theorem itD_pos {c : Nat → Int} {i : Nat} (ho : itO c i = true) (h : ¬ c i = 103) : 1 ≤ (itD c i).2.2 := dgs_pos (Decidable.byContradiction fun z => itO_nd h z ho)
theorem bit01 {v g : Nat} : (v / 2 ^ g &&& 1 = 1) ↔ v / 2 ^ g % 2 = 1 := by rw [Nat.and_one_is_mod]
theorem pl_pi {t : Nat} {hd : Nat → Nat} {d : DT} {nw : Nat → Nat} (R : RelD t hd d nw) {lt wh : Nat} (hl : lt = 97 ∨ lt = 108 ∨ lt = 112 ∨ lt = 103) : piC d.1 lt wh ↔ plC nw lt wh := by
  obtain ⟨⟨a0, a1, a3, a4, a5, a6, a7, a8⟩, ⟨b1, b0, b2, b3, b4, b7, b8, b12⟩, ⟨c1, c2⟩, G, Qn, hL, hR, h256⟩ := R
  unfold piC piT plC
  by_cases hw : wh < d.1 1
  · obtain ⟨g1, g2, g3, g4, g5, g6, g7, g8⟩ := G wh (by omega)
    rw [bit01, bit01, ← g3, ← g4, ← a1, ← a0, ← a7]
    have hw2 : wh < nw 0 := by omega
    rcases hl with rfl | rfl | rfl | rfl
    · constructor
      · rintro (⟨_, ⟨p1, p2, p3⟩, p4, p5⟩ | ⟨p0, _⟩)
        · exact ⟨hw2, Or.inr ⟨by omega, p1, p3, p4, p5⟩⟩
        · omega
      · rintro ⟨_, ⟨p0, _⟩ | ⟨_, p1, p3, p4, p5⟩⟩
        · omega
        · exact Or.inl ⟨by omega, ⟨p1, hw2, p3⟩, p4, p5⟩
    · constructor
      · rintro (⟨_, ⟨p1, p2, p3⟩, p4, p5⟩ | ⟨p0, _⟩)
        · exact ⟨hw2, Or.inr ⟨by omega, p1, p3, p4, p5⟩⟩
        · omega
      · rintro ⟨_, ⟨p0, _⟩ | ⟨_, p1, p3, p4, p5⟩⟩
        · omega
        · exact Or.inl ⟨by omega, ⟨p1, hw2, p3⟩, p4, p5⟩
    · constructor
      · rintro (⟨p0, _⟩ | ⟨_, p1, p2, p3⟩)
        · omega
        · exact ⟨hw2, Or.inl ⟨by omega, p1, p3⟩⟩
      · rintro ⟨_, ⟨_, p1, p3⟩ | ⟨p0, _⟩⟩
        · exact Or.inr ⟨by omega, p1, hw2, p3⟩
        · omega
    · constructor
      · rintro (⟨p0, _⟩ | ⟨_, p1, p2, p3⟩)
        · omega
        · exact ⟨hw2, Or.inl ⟨by omega, p1, p3⟩⟩
      · rintro ⟨_, ⟨_, p1, p3⟩ | ⟨p0, _⟩⟩
        · exact Or.inr ⟨by omega, p1, hw2, p3⟩
        · omega
  · constructor
    · rintro (⟨_, ⟨_, p2, _⟩, _⟩ | ⟨_, _, p2, _⟩) <;> exact absurd p2 hw
    · rintro ⟨p1, _⟩; omega
theorem play_rel {C : Nat → Int} {n t : Nat} {hd : Nat → Nat} : ∀ (f i : Nat) (d : DT) (nw : Nat → Nat), feN C n f i = -1 → RelD t hd d nw → (piR C n hd f i d).1 = (plR C n f i nw).1 ∧ RelD t hd (piR C n hd f i d).2 (plR C n f i nw).2
  | 0, _, _, _, _, R => ⟨rfl, R⟩
  | f + 1, i, d, nw, hf, R => by
    by_cases hi : i < n
    · have ho := feN_o (Nat.succ_pos f) hi hf
      have hgs := itO_gs ho
      have hlt := hgs.1
      have hgt := hgs.2
      unfold lett at hlt
      unfold gst at hgt
      have hl : (C i).toNat = 97 ∨ (C i).toNat = 108 ∨ (C i).toNat = 112 ∨ (C i).toNat = 103 := by omega
      have hf2 : feN C n f (itP C i) = -1 := by have h9 := hf; rw [feN_t (Nat.succ_pos f) hi ho] at h9; exact h9
      have hpp := pl_pi R (wh := (C (i + 1) - 48).toNat) hl
      by_cases hp : piC d.1 (C i).toNat (C (i + 1) - 48).toNat
      · have hq := hpp.mp hp
        have e1 : piR C n hd (f + 1) i d = _ := if_pos ⟨hi, hp⟩
        have e2 : plR C n (f + 1) i nw = _ := if_pos ⟨hi, hq⟩
        rw [e1, e2]
        have key : RelD t hd (piD hd d (C i).toNat (C (i + 1) - 48).toNat (itD C i).2.2 (itD C i).2.1.toNat) (plN nw (C i).toNat (C (i + 1) - 48).toNat (itD C i).2.2) := by
          rcases (show ((C i).toNat = 97 ∨ (C i).toNat = 108) ∨ (C i).toNat = 112 ∨ (C i).toNat = 103 by omega) with l1 | l1 | l1
          · rw [piD_a l1, plN_a hq (by omega) (by omega)]
            have hca : piT d.1 (C (i + 1) - 48).toNat ∧ d.1 12 < 20 ∧ ¬ ((C i).toNat = 108 ∧ d.1 8 / 2 ^ (C (i + 1) - 48).toNat &&& 1 = 1) := hp.elim (fun z => z.2) (fun z => absurd l1 z.1)
            refine Rel_ask R hca.1.2.1 ⟨itD_pos ho (by omega), by have := itD_cs C i; omega⟩ hca.2.1 (fun h8 => ?_)
            have h9 := hca.2.2
            have h10 : ¬ d.1 8 / 2 ^ (C (i + 1) - 48).toNat % 2 = 1 := fun z => h9 ⟨h8, bit01.mpr z⟩
            omega
          · obtain ⟨q, q1, q2, q3⟩ := itD_1 ho (show C i = 112 by omega)
            have hca : piT d.1 (C (i + 1) - 48).toNat := hp.elim (fun z => absurd z.1 (by omega)) (fun z => z.2)
            rw [piD_p l1, plN_p hq l1 q2 q1, q3, Int.toNat_natCast]
            exact Rel_prv R hca.2.1 q1
          · have hca : piT d.1 (C (i + 1) - 48).toNat := hp.elim (fun z => absurd z.1 (by omega)) (fun z => z.2)
            rw [piD_g l1, plN_g hq l1]
            exact Rel_lv R hca.2.1
        obtain ⟨k1, k2⟩ := play_rel f (itP C i) _ _ hf2 key
        exact ⟨by show _ + 1 = _ + 1; rw [k1], k2⟩
      · rw [piR_n hp, plR_n (fun z => hp (hpp.mpr z))]
        exact ⟨rfl, R⟩
    · rw [piR_0 (by omega), plR_0 (by omega)]
      exact ⟨rfl, R⟩
/-! the hash -/
theorem fdL_cg {f g : Nat → Int32} {h : Int64} : ∀ k, (∀ i, i < k → f i = g i) → fdL f h k = fdL g h k
  | 0, _ => rfl
  | k + 1, e => by
    show mxL (fdL f h k) (f k) = mxL (fdL g h k) (g k)
    rw [fdL_cg k (fun i hi => e i (by omega)), e k (by omega)]
def kH1 (x : Nat → Nat) (n : Nat) : Nat → Int64 := fdL (fun j => nI (abH x j)) (mxL (lN 3529) (nI n))
def kH2 (x hd pb ag : Nat → Nat) (L : List Nat) (n : Nat) : Nat → Int64 := fdL (fun j => nI (abG x hd pb ag L (j / 8) (j % 8))) (kH1 x n 10)
def kH3 (x hd pb ag ac an : Nat → Nat) (L : List Nat) (n : Nat) : Nat → Int64 := fdL (fun j => nI (abQ ag ac an (j / 3) (j % 3))) (kH2 x hd pb ag L n (8 * x 1))
def kH5 (x hd pb ag ac an : Nat → Nat) (L : List Nat) (n : Nat) : Nat → Int64 := fdL (fun j => nI (L.countP (fun d => d.testBit (8 * 4 + j)))) (mxL (kH3 x hd pb ag ac an L n (3 * x 12)) (nI L.length))
def mH1 (nw : Nat → Nat) (n : Nat) : Nat → Int64 := fdL (fun j => nI (tvN nw j)) (mxL (lN 3529) (nI n))
def mH2 (nw : Nat → Nat) (n : Nat) : Nat → Int64 := fdL (fun j => nI (tgN nw (crA nw) (j / 8) (j % 8))) (mH1 nw n 10)
def mH3 (nw : Nat → Nat) (n : Nat) : Nat → Int64 := fdL (fun j => nI (nw (41 + j))) (mH2 nw n (8 * nw 0))
def mH5 (nw : Nat → Nat) (n : Nat) : Nat → Int64 := fdL (fun j => nI (sW (crA nw) j)) (mxL (mH3 nw n (3 * nw 7)) (nI (crA nw).length))
theorem dig_eq {t n : Nat} {hd : Nat → Nat} {d : DT} {nw : Nat → Nat} (R : RelD t hd d nw) : kH5 d.1 hd d.2.1 d.2.2.1 d.2.2.2.1 d.2.2.2.2.1 d.2.2.2.2.2 n 8 = mH5 nw n 8 := by
  have hp := Rel_perm R
  have e1 : kH1 d.1 n 10 = mH1 nw n 10 := fdL_cg 10 (fun i hi => by rw [tv_eq R (by omega)])
  have a0 := R.1.1
  have a7 := R.1.2.2.2.2.2.2.1
  have e2 : kH2 d.1 hd d.2.1 d.2.2.1 d.2.2.2.2.2 n (8 * d.1 1) = mH2 nw n (8 * nw 0) := by
    unfold kH2 mH2
    rw [e1, a0]
    exact fdL_cg _ (fun i hi => by rw [tg_eq R (by omega) (by omega)])
  have e3 : kH3 d.1 hd d.2.1 d.2.2.1 d.2.2.2.1 d.2.2.2.2.1 d.2.2.2.2.2 n (3 * d.1 12) = mH3 nw n (3 * nw 7) := by
    unfold kH3 mH3
    rw [e2, a7]
    exact fdL_cg _ (fun i hi => by
      have h := qu_eq R (q := i / 3) (w := i % 3) (by omega) (by omega)
      rw [← h, show 41 + 3 * (i / 3) + i % 3 = 41 + i by omega])
  unfold kH5 mH5
  rw [e3, hp.length_eq]
  exact fdL_cg _ (fun i hi => by rw [sW_eq hp hi])
/-! saved states -/
/-- the k-th saved row -/
def psR (ps : Nat → Nat) (k : Nat) : Nat → Nat := fun j => ps (101 * k + j)
theorem svR_at {sv k : Nat} {nw ps : Nat → Nat} (hs : sv ≤ 4) (hk : k < svN sv) {j : Nat} (hj : j < 101) : psR (svR sv nw ps) k j = if sv = 4 then (if k = 3 then nw j else ps (101 * (k + 1) + j)) else if k = sv then nw j else ps (101 * k + j) := by
  have hk2 : k < 4 := by unfold svN at hk; split at hk <;> omega
  unfold psR svR svQ svK cpP
  by_cases h : sv = 4
  · rw [if_pos h, if_pos h, if_pos h]
    by_cases e : k = 3
    · rw [if_pos e, if_pos (by omega), show 101 * k + j - 101 * 3 = j by omega]
    · rw [if_neg e, if_neg (by omega)]
      unfold shP
      rw [if_pos (by omega), show 101 * k + j + 101 = 101 * (k + 1) + j by omega]
  · rw [if_neg h, if_neg h, if_neg h]
    have hk3 : k < sv + 1 := by unfold svN at hk; rw [if_neg h] at hk; exact hk
    by_cases e : k = sv
    · rw [if_pos e, if_pos (by omega), show 101 * k + j - 101 * sv = j by omega]
    · rw [if_neg e, if_neg (by omega)]
def SvOK (t sc : Nat) (sx shd spb sag sac san : Nat → Nat → Nat) (sL : Nat → List Nat) (sf : Nat → Nat → Int64) (ps : Nat → Nat) : Prop :=
  (∀ k, k < sc → RelD t (shd k) (sx k, spb k, sag k, sac k, san k, sL k) (psR ps k) ∧ DRep (sL k) (sf k)) ∧ ∀ k, k < 4 → (sL k).length ≤ 5040 ∧ (sx k) 2 ≤ 1
theorem DRep_cpy {L : List Nat} {f g : Nat → Int64} (h : DRep L f) : DRep L (va_cpy f g 0 0 L.length) := by
  intro i hi
  rw [pk_cpy_in (Nat.zero_le _) (by omega), ← h i hi]
  congr 1; omega
theorem Sv_save {t sc : Nat} {x hd pb ag ac an : Nat → Nat} {L : List Nat} {f : Nat → Int64} {nw ps : Nat → Nat} {sx shd spb sag sac san : Nat → Nat → Nat} {sL : Nat → List Nat} {sf : Nat → Nat → Int64} (hs : sc ≤ 4) (R : RelD t hd (x, pb, ag, ac, an, L) nw) (hr : DRep L f) (h : SvOK t sc sx shd spb sag sac san sL sf ps) : SvOK t (svN sc) (svV sc sx x) (svV sc shd hd) (svV sc spb pb) (svV sc sag ag) (svV sc sac ac) (svV sc san an) (svV sc sL L) (svV sc sf (va_cpy f (svP sc sf) 0 0 L.length)) (svR sc nw ps) := by
  have hB := Rel_B R
  have h2 : x 2 ≤ 1 := R.2.1.2.2.1
  constructor
  · intro k hk
    have hk4 : k < 4 := by unfold svN at hk; split at hk <;> omega
    by_cases h4 : sc = 4
    · subst h4
      by_cases e : k = 3
      · subst e
        exact ⟨Rel_row (fun j hj => by rw [svR_at hs hk hj, if_pos rfl, if_pos rfl]) R, DRep_cpy hr⟩
      · have e1 : ∀ {α : Type} (s : Nat → α) (v : α), svV 4 s v k = s (k + 1) := fun s v => by unfold svV; rw [if_pos rfl, if_neg e]
        rw [e1, e1, e1, e1, e1, e1, e1, e1]
        obtain ⟨q1, q2⟩ := h.1 (k + 1) (by omega)
        exact ⟨Rel_row (fun j hj => by rw [svR_at hs hk hj, if_pos rfl, if_neg e]; rfl) q1, q2⟩
    · have hk3 : k < sc + 1 := by unfold svN at hk; rw [if_neg h4] at hk; exact hk
      by_cases e : k = sc
      · subst e
        have e1 : ∀ {α : Type} (s : Nat → α) (v : α), svV k s v k = v := fun s v => by unfold svV; rw [if_neg h4, if_pos rfl]
        rw [e1, e1, e1, e1, e1, e1, e1, e1]
        exact ⟨Rel_row (fun j hj => by rw [svR_at hs hk hj, if_neg h4, if_pos rfl]) R, DRep_cpy hr⟩
      · have e1 : ∀ {α : Type} (s : Nat → α) (v : α), svV sc s v k = s k := fun s v => by unfold svV; rw [if_neg h4, if_neg e]
        rw [e1, e1, e1, e1, e1, e1, e1, e1]
        obtain ⟨q1, q2⟩ := h.1 k (by omega)
        exact ⟨Rel_row (fun j hj => by rw [svR_at hs hk hj, if_neg h4, if_neg e]; rfl) q1, q2⟩
  · intro k hk
    by_cases h4 : sc = 4
    · subst h4
      by_cases e : k = 3
      · subst e; exact ⟨hB.1, h2⟩
      · have e1 : ∀ {α : Type} (s : Nat → α) (v : α), svV 4 s v k = s (k + 1) := fun s v => by unfold svV; rw [if_pos rfl, if_neg e]
        rw [e1, e1]; exact h.2 (k + 1) (by omega)
    · by_cases e : k = sc
      · subst e
        have e1 : ∀ {α : Type} (s : Nat → α) (v : α), svV k s v k = v := fun s v => by unfold svV; rw [if_neg h4, if_pos rfl]
        rw [e1, e1]; exact ⟨hB.1, h2⟩
      · have e1 : ∀ {α : Type} (s : Nat → α) (v : α), svV sc s v k = s k := fun s v => by unfold svV; rw [if_neg h4, if_neg e]
        rw [e1, e1]; exact h.2 k hk
theorem svR_svN {sv : Nat} (h : sv ≤ 4) : svK sv + 1 = svN sv := by
  unfold svK svN; split <;> omega
theorem Sv_mono {t t' sc : Nat} {ps : Nat → Nat} {sx shd spb sag sac san : Nat → Nat → Nat} {sL : Nat → List Nat} {sf : Nat → Nat → Int64} (ht : t ≤ t') (h : SvOK t sc sx shd spb sag sac san sL sf ps) : SvOK t' sc sx shd spb sag sac san sL sf ps := ⟨fun k hk => ⟨Rel_mono ht (h.1 k hk).1, (h.1 k hk).2⟩, h.2⟩
theorem Sv_un {t sc : Nat} {ps nw : Nat → Nat} {sx shd spb sag sac san : Nat → Nat → Nat} {sL : Nat → List Nat} {sf : Nat → Nat → Int64} {f : Nat → Int64} (hs : 0 < sc) (h : SvOK t sc sx shd spb sag sac san sL sf ps) : SvOK t (sc - 1) sx shd spb sag sac san sL sf ps ∧ RelD t (shd (sc - 1)) (sx (sc - 1), spb (sc - 1), sag (sc - 1), sac (sc - 1), san (sc - 1), sL (sc - 1)) (rwP ps nw (101 * (sc - 1)) 101) ∧ DRep (sL (sc - 1)) (va_cpy (sf (sc - 1)) f 0 0 (sL (sc - 1)).length) := by
  obtain ⟨q1, q2⟩ := h.1 (sc - 1) (by omega)
  exact ⟨⟨fun k hk => h.1 k (by omega), h.2⟩, Rel_row (fun j hj => by unfold rwP psR; rw [if_pos hj]) q1, DRep_cpy q2⟩
