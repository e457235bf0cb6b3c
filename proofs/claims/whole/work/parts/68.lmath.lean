/-! what stands through the law's loop -/
def LI (t sc : Nat) (x hd pb ag ac an : Nat → Nat) (L : List Nat) (f : Nat → Int64) (sx shd spb sag sac san : Nat → Nat → Nat) (sL : Nat → List Nat) (sf : Nat → Nat → Int64) (L3 : List Nat) (f3 : Nat → Int64) (L4 : List Nat) (f4 : Nat → Int64) (n : Nat) (ub : Nat → Int32) (v nw ps tx dl : Nat → Nat) : Prop :=
  RelD t hd (x, pb, ag, ac, an, L) nw ∧ DRep L f ∧ SvOK t sc sx shd spb sag sac san sL sf ps ∧ sc ≤ 4 ∧ ((L3 = [] ∨ L3 = ext 3 8 0) ∧ DRep L3 f3) ∧ ((L4 = [] ∨ L4 = ext 4 8 0) ∧ DRep L4 f4) ∧ (v 2 = sc ∧ v 5 = n) ∧ (n ≤ 90 ∧ (∀ i, i < n → ub i = nI (tx i)) ∧ ∀ i, tx i < 128) ∧ (∀ g, g < 4 → dl g < 256)
section LIS
variable {t sc : Nat} {x hd pb ag ac an : Nat → Nat} {L : List Nat} {f : Nat → Int64} {sx shd spb sag sac san : Nat → Nat → Nat} {sL : Nat → List Nat} {sf : Nat → Nat → Int64} {L3 : List Nat} {f3 : Nat → Int64} {L4 : List Nat} {f4 : Nat → Int64} {n : Nat} {ub : Nat → Int32} {v nw ps tx dl : Nat → Nat}
theorem LI_0 {v' dl' : Nat → Nat} (H : LI t sc x hd pb ag ac an L f sx shd spb sag sac san sL sf L3 f3 L4 f4 n ub v nw ps tx dl) (h2 : v' 2 = v 2) (h5 : v' 5 = v 5) (hd' : ∀ g, g < 4 → dl' g < 256) : LI (t + 1) sc x hd pb ag ac an L f sx shd spb sag sac san sL sf L3 f3 L4 f4 n ub v' nw ps tx dl' := by
  obtain ⟨R, r, S, s4, A3, A4, ⟨v2, v5⟩, T, D⟩ := H
  exact ⟨Rel_mono (Nat.le_succ t) R, r, Sv_mono (Nat.le_succ t) S, s4, A3, A4, ⟨h2.trans v2, h5.trans v5⟩, T, hd'⟩
/-- a state is saved, and the dinner goes on -/
theorem LI_s {x' hd' pb' ag' ac' an' : Nat → Nat} {L' : List Nat} {f' : Nat → Int64} {L3' L4' : List Nat} {f3' f4' : Nat → Int64} {v' nw' ps' : Nat → Nat} (H : LI t sc x hd pb ag ac an L f sx shd spb sag sac san sL sf L3 f3 L4 f4 n ub v nw ps tx dl) (hR : RelD (t + 1) hd' (x', pb', ag', ac', an', L') nw') (hr : DRep L' f') (h3 : (L3' = [] ∨ L3' = ext 3 8 0) ∧ DRep L3' f3') (h4 : (L4' = [] ∨ L4' = ext 4 8 0) ∧ DRep L4' f4') (h2 : v' 2 = svK (v 2) + 1) (h5 : v' 5 = v 5) (hp : ps' = svR (v 2) nw ps) : LI (t + 1) (svN sc) x' hd' pb' ag' ac' an' L' f' (svV sc sx x) (svV sc shd hd) (svV sc spb pb) (svV sc sag ag) (svV sc sac ac) (svV sc san an) (svV sc sL L) (svV sc sf (va_cpy f (svP sc sf) 0 0 L.length)) L3' f3' L4' f4' n ub v' nw' ps' tx dl := by
  obtain ⟨R, r, S, s4, A3, A4, ⟨v2, v5⟩, T, D⟩ := H
  refine ⟨hR, hr, ?_, ?_, h3, h4, ⟨?_, h5.trans v5⟩, T, D⟩
  · rw [hp, v2]; exact Sv_mono (Nat.le_succ t) (Sv_save s4 R r S)
  · have := svR_svN s4; unfold svN; split <;> omega
  · rw [h2, v2]; exact svR_svN s4
/-- what the contracts want -/
theorem LI_x (H : LI t sc x hd pb ag ac an L f sx shd spb sag sac san sL sf L3 f3 L4 f4 n ub v nw ps tx dl) (ht : t ≤ 512) : (nw 0 = x 1 ∧ nw 1 = x 2 ∧ nw 7 = x 12) ∧ (x 1 ≤ 4 ∧ x 2 ≤ 1 ∧ x 3 < 8 ∧ x 4 < 2 ^ 31 ∧ x 7 < 16 ∧ x 8 < 16 ∧ x 12 ≤ 20 ∧ x 0 < 2147483648) ∧ (L.length ≤ 5040 ∧ (∀ d ∈ L, d < 2 ^ 44) ∧ (∀ i, i < x 12 → ag i < 4) ∧ ∀ g, hd g < 256) ∧ (x 1 = 0 ∨ x 1 = 3 ∨ x 1 = 4) := by
  obtain ⟨R, r, S, s4, A3, A4, ⟨v2, v5⟩, T, D⟩ := H
  have hB := Rel_B R
  have hag := Rel_ag R
  obtain ⟨⟨a0, a1, a3, a4, a5, a6, a7, a8⟩, ⟨b1, b0, b2, b3, b4, b7, b8, b12⟩, -, -, -, -, -, h256⟩ := R
  have h4 : x 4 ≤ t := b4
  exact ⟨⟨a0, a1, a7⟩, ⟨by show x 1 ≤ 4; have b1 : x 1 = 0 ∨ x 1 = 3 ∨ x 1 = 4 := b1; omega, b2, b3, by omega, x7_16 b1 b7, b8, b12, b0⟩, ⟨hB.1, hB.2, hag, h256⟩, b1⟩
theorem LI_u {v' nw' : Nat → Nat} (H : LI t sc x hd pb ag ac an L f sx shd spb sag sac san sL sf L3 f3 L4 f4 n ub v nw ps tx dl) (hs : 0 < sc) (h2 : v' 2 = v 2 - 1) (h5 : v' 5 = v 5) (hn : nw' = rwP ps nw (101 * (v 2 - 1)) 101) : LI (t + 1) (sc - 1) (sx (sc - 1)) (shd (sc - 1)) (spb (sc - 1)) (sag (sc - 1)) (sac (sc - 1)) (san (sc - 1)) (sL (sc - 1)) (va_cpy (sf (sc - 1)) f 0 0 (sL (sc - 1)).length) sx shd spb sag sac san sL sf L3 f3 L4 f4 n ub v' nw' ps tx dl := by
  obtain ⟨R, r, S, s4, A3, A4, ⟨v2, v5⟩, T, D⟩ := H
  obtain ⟨q1, q2, q3⟩ := Sv_un (nw := nw) (f := f) hs (Sv_mono (Nat.le_succ t) S)
  refine ⟨?_, q3, q1, by omega, A3, A4, ⟨by rw [h2, v2], h5.trans v5⟩, T, D⟩
  rw [hn, v2]; exact q2
theorem LI_a {c : Nat} (H : LI t sc x hd pb ag ac an L f sx shd spb sag sac san sL sf L3 f3 L4 f4 n ub v nw ps tx dl) (hc : c ≤ 127) (h : n < 90) : LI (t + 1) sc x hd pb ag ac an L f sx shd spb sag sac san sL sf L3 f3 L4 f4 (n + 1) (upd ub n (nI c)) (va_up (va_up v 3 0) 5 (v 5 + 1)) nw ps (va_up tx (v 5) c) dl := by
  obtain ⟨R, r, S, s4, A3, A4, ⟨v2, v5⟩, ⟨T1, T2, T3⟩, D⟩ := H
  refine ⟨Rel_mono (Nat.le_succ t) R, r, Sv_mono (Nat.le_succ t) S, s4, A3, A4, ⟨v2, by rw [vuS, v5]⟩, ⟨by omega, fun j hj => ?_, fun j => ?_⟩, D⟩
  · rw [v5]
    unfold upd va_up
    by_cases e : j = n
    · rw [if_pos e, if_pos e]
    · rw [if_neg e, if_neg e]; exact T2 j (by omega)
  · unfold va_up
    split
    · omega
    · exact T3 j
theorem LI_c (H : LI t sc x hd pb ag ac an L f sx shd spb sag sac san sL sf L3 f3 L4 f4 n ub v nw ps tx dl) : LI (t + 1) sc x hd pb ag ac an L f sx shd spb sag sac san sL sf L3 f3 L4 f4 0 ub (va_up (va_up v 3 0) 5 0) nw ps tx dl := by
  obtain ⟨R, r, S, s4, A3, A4, ⟨v2, v5⟩, ⟨T1, T2, T3⟩, D⟩ := H
  exact ⟨Rel_mono (Nat.le_succ t) R, r, Sv_mono (Nat.le_succ t) S, s4, A3, A4, ⟨v2, vuS _ _ _⟩, ⟨Nat.zero_le _, fun j hj => absurd hj (Nat.not_lt_zero j), T3⟩, D⟩
end LIS
theorem lb_bd {P L : List Nat} {g : Nat} (hp : P.Perm L) (hL : L.length ≤ 5040) : ∀ c a, lbM (sQ g P) c a 256 < 2147483648 := fun c a => by
  rw [lbM_eq hp]
  have h1 := bh_le (g := g) hL
  have h2 := lbN_le (cards := c) (ans := a) (i := 256) (Nat.le_refl _) h1.1
  omega
