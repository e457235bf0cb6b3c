/-! the counts: the same ones on both sides -/
theorem Rel_perm {t : Nat} {hd : Nat → Nat} {d : DT} {nw : Nat → Nat} (R : RelD t hd d nw) : (crA nw).Perm d.2.2.2.2.2 := by
  obtain ⟨⟨a0, a1, a3, a4, a5, a6, a7, a8⟩, ⟨b1, b0, b2, b3, b4, b7, b8, b12⟩, ⟨c1, c2⟩, G, Qn, hL, hR, h256⟩ := R
  by_cases h : d.1 1 = 0
  · rw [(c1 h).2.2.2.2, crA_n (by omega)]; exact List.Perm.refl _
  · have g0 := (G 0 (by decide)).1
    have g1 := (G 1 (by decide)).1
    have g2 := (G 2 (by decide)).1
    rw [if_pos (by omega), ← a0] at g0 g1 g2
    rw [hL h, ← a0]
    exact crA_perm (by omega) g0 g1 g2
theorem Rel_B {t : Nat} {hd : Nat → Nat} {d : DT} {nw : Nat → Nat} (R : RelD t hd d nw) : d.2.2.2.2.2.length ≤ 5040 ∧ ∀ e ∈ d.2.2.2.2.2, e < 2 ^ 44 := by
  obtain ⟨⟨a0, a1, a3, a4, a5, a6, a7, a8⟩, ⟨b1, b0, b2, b3, b4, b7, b8, b12⟩, ⟨c1, c2⟩, G, Qn, hL, hR, h256⟩ := R
  by_cases h : d.1 1 = 0
  · rw [(c1 h).2.2.2.2]; exact ⟨Nat.zero_le _, fun e he => by cases he⟩
  · rw [hL h]
    refine ⟨fm_len (extN_len (by omega)).2, fun e he => ?_⟩
    obtain ⟨D, h1, h2⟩ := List.mem_filterMap.mp he
    have hD : D < 1099511627776 := (okD_n (by omega) h1).2
    by_cases hp : possD nw (hAt D)
    · rw [mkN_y hp] at h2
      have h3 := wsm_lt (w := fun g => wrK nw (hAt D) g (nw 7)) (nw 0) hp.2
      have h4 : 2 ^ nw 0 ≤ 2 ^ 4 := Nat.pow_le_pow_right (by decide) (by omega)
      have h5 := Option.some.inj h2
      show e < 17592186044416
      omega
    · rw [mkN_n hp] at h2; cases h2
/-- a fold in another order -/
theorem fold_perm {f : Nat → Nat → Nat} (hf : ∀ a x y, f (f a x) y = f (f a y) x) {l m : List Nat} (h : l.Perm m) : ∀ a, l.foldl f a = m.foldl f a := by
  induction h with
  | nil => intro a; rfl
  | cons x _ ih => intro a; exact ih (f a x)
  | swap x y l => intro a; show l.foldl f (f (f a y) x) = l.foldl f (f (f a x) y); rw [hf]
  | trans _ _ ih1 ih2 => intro a; rw [ih1, ih2]
theorem hAt_tb {d p i : Nat} : (hAt d p).testBit i = (decide (i < 8) && d.testBit (8 * p + i)) := by
  by_cases h : i < 8
  · rw [hAt_bit h, decide_eq_true h, Bool.true_and]
  · rw [decide_eq_false h, Bool.false_and]
    exact Nat.testBit_lt_two_pow (Nat.lt_of_lt_of_le (hAt_lt d p) (by show 2 ^ 8 ≤ 2 ^ i; exact Nat.pow_le_pow_right (by decide) (by omega)))
theorem hAt_an (a d g : Nat) : hAt (a &&& d) g = hAt a g &&& hAt d g := by
  apply Nat.eq_of_testBit_eq
  intro i
  rw [Nat.testBit_and, hAt_tb, hAt_tb, hAt_tb, Nat.testBit_and]
  cases decide (i < 8) <;> simp
theorem hAt_or (a d g : Nat) : hAt (a ||| d) g = hAt a g ||| hAt d g := by
  apply Nat.eq_of_testBit_eq
  intro i
  rw [Nat.testBit_or, hAt_tb, hAt_tb, hAt_tb, Nat.testBit_or]
  cases decide (i < 8) <;> simp
theorem fo_and (g : Nat) : ∀ (L : List Nat) (a : Nat), hAt (L.foldl (· &&& ·) a) g = L.foldl (fun a d => a &&& hAt d g) (hAt a g)
  | [], _ => rfl
  | x :: L, a => by
    show hAt (L.foldl (· &&& ·) (a &&& x)) g = L.foldl (fun a d => a &&& hAt d g) (hAt a g &&& hAt x g)
    rw [fo_and g L, hAt_an]
theorem fo_or (g : Nat) : ∀ (L : List Nat) (a : Nat), hAt (L.foldl (· ||| ·) a) g = L.foldl (fun a d => a ||| hAt d g) (hAt a g)
  | [], _ => rfl
  | x :: L, a => by
    show hAt (L.foldl (· ||| ·) (a ||| x)) g = L.foldl (fun a d => a ||| hAt d g) (hAt a g ||| hAt x g)
    rw [fo_or g L, hAt_or]
theorem and_tb (i : Nat) : ∀ (L : List Nat) (a : Nat), (L.foldl (· &&& ·) a).testBit i = true ↔ a.testBit i = true ∧ ∀ d ∈ L, d.testBit i = true
  | [], a => ⟨fun h => ⟨h, fun _ h => by cases h⟩, fun h => h.1⟩
  | x :: L, a => by
    show (L.foldl (· &&& ·) (a &&& x)).testBit i = true ↔ _
    rw [and_tb i L, Nat.testBit_and, Bool.and_eq_true]
    constructor
    · intro h
      refine ⟨h.1.1, fun d hd => ?_⟩
      rcases List.mem_cons.mp hd with e | e
      · rw [e]; exact h.1.2
      · exact h.2 d e
    · intro h
      exact ⟨⟨h.1, h.2 x List.mem_cons_self⟩, fun d hd => h.2 d (List.mem_cons_of_mem _ hd)⟩
theorem or_tb (i : Nat) : ∀ (L : List Nat) (a : Nat), (L.foldl (· ||| ·) a).testBit i = true ↔ a.testBit i = true ∨ ∃ d ∈ L, d.testBit i = true
  | [], a => ⟨fun h => Or.inl h, fun h => h.elim id (fun ⟨_, h, _⟩ => by cases h)⟩
  | x :: L, a => by
    show (L.foldl (· ||| ·) (a ||| x)).testBit i = true ↔ _
    rw [or_tb i L, Nat.testBit_or, Bool.or_eq_true]
    constructor
    · rintro ((h | h) | ⟨d, h1, h2⟩)
      · exact Or.inl h
      · exact Or.inr ⟨x, List.mem_cons_self, h⟩
      · exact Or.inr ⟨d, List.mem_cons_of_mem _ h1, h2⟩
    · rintro (h | ⟨d, h1, h2⟩)
      · exact Or.inl (Or.inl h)
      · rcases List.mem_cons.mp h1 with e | e
        · exact Or.inl (Or.inr (e ▸ h2))
        · exact Or.inr ⟨d, e, h2⟩
theorem sS_eq {P L : List Nat} {n g : Nat} (hp : P.Perm L) (hg : g < n) (hg4 : g < 4) : sS n P g = hAt (andL L) g := by
  unfold sS aS andL
  rw [if_pos hg, fold_perm (f := fun a d => a &&& hAt d g) (fun a x y => by show a &&& hAt x g &&& hAt y g = a &&& hAt y g &&& hAt x g; rw [Nat.and_assoc, Nat.and_assoc, Nat.and_comm (hAt x g)]) hp, fo_and]
  rcases (show g = 0 ∨ g = 1 ∨ g = 2 ∨ g = 3 by omega) with rfl | rfl | rfl | rfl <;> rfl
theorem sM_eq {P L : List Nat} {n g : Nat} (hp : P.Perm L) (hg : g < n) : sM n P g = hAt (orL L) g := by
  unfold sM aM orL
  rw [if_pos hg, fold_perm (f := fun a d => a ||| hAt d g) (fun a x y => by show a ||| hAt x g ||| hAt y g = a ||| hAt y g ||| hAt x g; rw [Nat.or_assoc, Nat.or_assoc, Nat.or_comm (hAt x g)]) hp, fo_or]
  rw [show hAt 0 g = 0 from by unfold hAt; rw [Nat.zero_div]]
theorem sL_eq {P L : List Nat} {n g : Nat} (hp : P.Perm L) (hg : g < n) (hg4 : g < 4) : (0 < P.length ∧ sL n P g = P.length) ↔ (0 < L.length ∧ (andL L).testBit (40 + g) = true) := by
  unfold sL andL
  rw [if_pos hg, hp.countP_eq, hp.length_eq, and_tb, List.countP_eq_length]
  have h1 : (18446744073709551615 : Nat).testBit (40 + g) = true := by
    rw [show (18446744073709551615 : Nat) = 2 ^ 64 - 1 from rfl, Nat.testBit_two_pow_sub_one]; exact decide_eq_true (by omega)
  constructor
  · intro h; exact ⟨h.1, h1, h.2⟩
  · intro h; exact ⟨h.1, h.2.2⟩
theorem sW_eq {P L : List Nat} {c : Nat} (hp : P.Perm L) (hc : c < 8) : sW P c = L.countP (fun d => d.testBit (8 * 4 + c)) := by
  unfold sW
  rw [if_pos hc, hp.countP_eq]
theorem sH_eq {P L : List Nat} {n g c : Nat} (hp : P.Perm L) (hg : g < n) (hc : c < 8) : sH n P (8 * g + c) = L.countP (fun d => d.testBit (8 * g + c)) := by
  unfold sH
  rw [if_pos (by omega), hp.countP_eq]
theorem cuM_tb {W : Nat → Nat} : ∀ k i, (cuM W k).testBit i = true ↔ i < k ∧ 0 < W i
  | 0, i => by
    show (0 : Nat).testBit i = true ↔ _
    rw [Nat.zero_testBit]; constructor
    · intro h; cases h
    · intro h; omega
  | k + 1, i => by
    show (cuM W k ||| (if 0 < W k then 1 * 2 ^ k else 0)).testBit i = true ↔ _
    rw [Nat.testBit_or, Bool.or_eq_true, cuM_tb k i]
    by_cases h : 0 < W k
    · rw [if_pos h, Nat.one_mul, Nat.testBit_two_pow, decide_eq_true_iff]
      constructor
      · rintro (q | q)
        · exact ⟨by omega, q.2⟩
        · subst q; exact ⟨by omega, h⟩
      · rintro ⟨q1, q2⟩
        rcases (show i < k ∨ k = i by omega) with q | q
        · exact Or.inl ⟨q, q2⟩
        · exact Or.inr q
    · rw [if_neg h, Nat.zero_testBit]
      constructor
      · rintro (q | q)
        · exact ⟨by omega, q.2⟩
        · cases q
      · rintro ⟨q1, q2⟩
        rcases (show i < k ∨ k = i by omega) with q | q
        · exact Or.inl ⟨q, q2⟩
        · subst q; exact absurd q2 h
theorem cu_eq {P L : List Nat} (hp : P.Perm L) : hAt (orL L) 4 = cuM (sW P) 8 := by
  apply Nat.eq_of_testBit_eq
  intro i
  rw [Bool.eq_iff_iff, cuM_tb, hAt_tb, Bool.and_eq_true, decide_eq_true_iff]
  unfold orL
  rw [or_tb, Nat.zero_testBit]
  constructor
  · rintro ⟨h1, h2 | ⟨d, h3, h4⟩⟩
    · cases h2
    · refine ⟨h1, ?_⟩
      rw [sW_eq hp h1]
      exact List.countP_pos_iff.mpr ⟨d, h3, h4⟩
  · rintro ⟨h1, h2⟩
    rw [sW_eq hp h1] at h2
    obtain ⟨d, h3, h4⟩ := List.countP_pos_iff.mp h2
    exact ⟨h1, Or.inr ⟨d, h3, h4⟩⟩
/-- the real deal is possible -/
theorem Rel_real {t : Nat} {hd : Nat → Nat} {d : DT} {nw : Nat → Nat} (R : RelD t hd d nw) (h : ¬ d.1 1 = 0) : ∃ v ∈ d.2.2.2.2.2, v.testBit (8 * 4 + d.1 3) = true := by
  obtain ⟨⟨a0, a1, a3, a4, a5, a6, a7, a8⟩, ⟨b1, b0, b2, b3, b4, b7, b8, b12⟩, ⟨c1, c2⟩, G, Qn, hL, hR, h256⟩ := R
  obtain ⟨r0, r⟩ := hR h
  have e : ∀ g, g < nw 0 → hAt (pk4 (d.1 3) hd) g = hd g := fun g hg => hAt_pk (fun g _ => h256 g) b3 g (by omega)
  have hp : possD nw (hAt (pk4 (d.1 3) hd)) := (possD_cg e).mpr ⟨fun g hg => ⟨(r g (by omega)).1, (r g (by omega)).2.1⟩, fun g hg => by
    have h1 := (r g (by omega)).2.2
    have h2 := (G g (by omega)).2.2.2.1
    omega⟩
  refine ⟨_, by rw [hL h]; exact List.mem_filterMap.mpr ⟨_, r0, mkN_y hp⟩, ?_⟩
  rw [← hAt_bit b3, hAt_v (okD_n (by omega) r0).2 (by omega)]
  have h4 := hAt_mk4 (n := 0) (w := fun _ => 0) (fun g _ => h256 g) b3
  rw [show mkW (d.1 3) hd (fun _ => 0) 0 = pk4 (d.1 3) hd from by unfold mkW wsm; rfl] at h4
  rw [h4, Nat.testBit_two_pow]
  exact decide_eq_true rfl
theorem li_go {W : Nat → Nat} : ∀ k, ((∀ i, i ≤ k → W i = 0) ∧ liH W (k + 1) = (4294967295, 0)) ∨ (0 < W (liM W k) ∧ liH W (k + 1) = (liM W k, W (liM W k)))
  | 0 => by
    by_cases h : 0 < W 0
    · right; exact ⟨h, liH_t (W := W) (c := 0) h⟩
    · left; exact ⟨fun i hi => by rw [show i = 0 by omega]; omega, liH_f (W := W) (c := 0) (by show W 0 ≤ 0; omega)⟩
  | k + 1 => by
    rcases li_go (W := W) k with ⟨h1, h2⟩ | ⟨h1, h2⟩
    · have hz : W (liM W k) = 0 := h1 _ (liM_le W k)
      by_cases h : 0 < W (k + 1)
      · right
        rw [liM_t (by omega)]
        exact ⟨h, by rw [liH_t (W := W) (c := k + 1) (by rw [h2]; exact h)]⟩
      · left
        refine ⟨fun i hi => ?_, by rw [liH_f (W := W) (c := k + 1) (by rw [h2]; show W (k + 1) ≤ 0; omega), h2]⟩
        rcases (show i ≤ k ∨ i = k + 1 by omega) with q | q
        · exact h1 i q
        · rw [q]; omega
    · right
      by_cases h : W (liM W k) < W (k + 1)
      · rw [liM_t h]
        exact ⟨by omega, by rw [liH_t (W := W) (c := k + 1) (by rw [h2]; exact h)]⟩
      · rw [liM_f (by omega)]
        exact ⟨h1, by rw [liH_f (W := W) (c := k + 1) (by rw [h2]; show W (k + 1) ≤ W (liM W k); omega), h2]⟩
theorem li_cg {W V : Nat → Nat} : ∀ k, (∀ i, i < k → W i = V i) → liH W k = liH V k
  | 0, _ => rfl
  | k + 1, h => by
    show (if _ then _ else _) = (if _ then _ else _)
    rw [li_cg k (fun i hi => h i (by omega)), h k (by omega)]
theorem li_eq {t : Nat} {hd : Nat → Nat} {d : DT} {nw : Nat → Nat} (R : RelD t hd d nw) : (liH (fun q => d.2.2.2.2.2.countP (fun e => e.testBit (8 * 4 + q))) 8).1 = if nw 0 = 0 then 4294967295 else liM (sW (crA nw)) 7 := by
  have hp := Rel_perm R
  have hr := Rel_real R
  obtain ⟨⟨a0, a1, a3, a4, a5, a6, a7, a8⟩, ⟨b1, b0, b2, b3, b4, b7, b8, b12⟩, ⟨c1, c2⟩, G, Qn, hL, hR, h256⟩ := R
  rw [li_cg (W := fun q => d.2.2.2.2.2.countP (fun e => e.testBit (8 * 4 + q))) (V := sW (crA nw)) 8 (fun i hi => (sW_eq hp hi).symm)]
  by_cases h : d.1 1 = 0
  · rw [if_pos (by omega)]
    have hz : ∀ i, sW (crA nw) i = 0 := fun i => by
      rw [crA_n (by omega)]; unfold sW; split <;> rfl
    rcases li_go (W := sW (crA nw)) 7 with ⟨_, q2⟩ | ⟨q1, _⟩
    · rw [q2]
    · rw [hz] at q1; exact absurd q1 (Nat.lt_irrefl _)
  · rw [if_neg (by omega)]
    obtain ⟨v, v1, v2⟩ := hr h
    have hpos : 0 < sW (crA nw) (d.1 3) := by
      rw [sW_eq hp b3]; exact List.countP_pos_iff.mpr ⟨v, v1, v2⟩
    rcases li_go (W := sW (crA nw)) 7 with ⟨q1, _⟩ | ⟨_, q2⟩
    · rw [q1 _ (by omega)] at hpos; exact absurd hpos (Nat.lt_irrefl _)
    · rw [q2]
/-! one more question -/
theorem cnt_add {p q r : Nat → Bool} (h1 : ∀ d, r d = (p d || q d)) (h2 : ∀ d, p d = true → q d = false) : ∀ L : List Nat, L.countP r = L.countP p + L.countP q
  | [] => rfl
  | x :: L => by
    rw [List.countP_cons, List.countP_cons, List.countP_cons, cnt_add h1 h2 L, h1 x]
    cases e : p x with
    | false => cases q x <;> simp <;> omega
    | true => rw [h2 x e]; simp; omega
theorem cnt_cg {p q : Nat → Bool} (h : ∀ d, p d = q d) (L : List Nat) : L.countP p = L.countP q := by
  rw [show p = q from funext h]
theorem sQ_0 {g h : Nat} (P : List Nat) : sQ g P (2 * h) = P.countP (fun d => !d.testBit (40 + g) && hAt d g == h) := by
  unfold sQ
  refine cnt_cg (fun d => ?_) P
  rw [Nat.testBit_eq_decide_div_mod_eq, Bool.eq_iff_iff]
  simp only [beq_iff_eq, Bool.and_eq_true, Bool.not_eq_true', decide_eq_false_iff_not]
  omega
theorem sQ_1 {g h : Nat} (P : List Nat) : sQ g P (2 * h + 1) = bhN P g h := by
  unfold sQ bhN
  refine cnt_cg (fun d => ?_) P
  rw [Nat.testBit_eq_decide_div_mod_eq, Bool.eq_iff_iff]
  simp only [beq_iff_eq, Bool.and_eq_true, decide_eq_true_eq]
  omega
theorem lbM_go {g c a : Nat} (P : List Nat) : ∀ k, lbM (sQ g P) c a k = P.countP (fun d => !d.testBit (40 + g) && decide (hAt d g < k)) + lbN (bhN P g) c a k
  | 0 => by
    show 0 = _
    rw [cnt_cg (p := fun d => !d.testBit (40 + g) && decide (hAt d g < 0)) (q := fun _ => false) (fun d => by rw [decide_eq_false (Nat.not_lt_zero _), Bool.and_false]) P]
    show 0 = P.countP (fun _ => false) + 0
    rw [List.countP_eq_zero.mpr (fun _ _ => by decide)]
  | k + 1 => by
    have e1 : P.countP (fun d => !d.testBit (40 + g) && decide (hAt d g < k + 1)) = P.countP (fun d => !d.testBit (40 + g) && decide (hAt d g < k)) + P.countP (fun d => !d.testBit (40 + g) && hAt d g == k) := by
      refine cnt_add (fun d => ?_) (fun d hd => ?_) P
      · cases d.testBit (40 + g) with
        | true => rfl
        | false =>
          simp only [Bool.not_false, Bool.true_and]
          rw [Bool.eq_iff_iff, Bool.or_eq_true, decide_eq_true_iff, decide_eq_true_iff, beq_iff_eq]; omega
      · simp only [Bool.and_eq_true, decide_eq_true_eq] at hd
        rw [hd.1, Bool.true_and]
        exact beq_false_of_ne (by omega)
    rw [e1]
    by_cases h : pc8 (k &&& c) = a
    · rw [lbM_t h, lbM_go P k, lbN_t h, sQ_0, sQ_1]; omega
    · rw [lbM_f h, lbM_go P k, lbN_f h, sQ_0]; omega
theorem lbM_eq {g c a : Nat} {P L : List Nat} (hp : P.Perm L) : lbM (sQ g P) c a 256 = stN L g + lbN (bhN L g) c a 256 := by
  have hb : bhN P g = bhN L g := funext fun h => hp.countP_eq _
  rw [lbM_go, hb]
  congr 1
  unfold stN
  rw [hp.countP_eq]
  exact cnt_cg (fun d => by rw [decide_eq_true (hAt_lt d g), Bool.and_true]) L
theorem bh_go (L : List Nat) (g : Nat) : ∀ k, fb_sm (bhN L g) k = L.countP (fun d => d.testBit (40 + g) && decide (hAt d g < k))
  | 0 => by
    rw [cnt_cg (p := fun d => d.testBit (40 + g) && decide (hAt d g < 0)) (q := fun _ => false) (fun d => by rw [decide_eq_false (Nat.not_lt_zero _), Bool.and_false]) L, List.countP_eq_zero.mpr (fun _ _ => by decide)]; rfl
  | k + 1 => by
    rw [fb_sm_succ, bh_go L g k]
    symm
    refine cnt_add (fun d => ?_) (fun d hd => ?_) L
    · cases d.testBit (40 + g) with
      | false => rfl
      | true =>
        simp only [Bool.true_and]
        rw [Bool.eq_iff_iff, Bool.or_eq_true, decide_eq_true_iff, decide_eq_true_iff, beq_iff_eq]; omega
    · simp only [Bool.and_eq_true, decide_eq_true_eq] at hd
      rw [hd.1, Bool.true_and]
      exact beq_false_of_ne (by omega)
theorem bh_le {L : List Nat} {g : Nat} (h : L.length ≤ 5040) : fb_sm (bhN L g) 256 ≤ 5040 ∧ stN L g ≤ 5040 := by
  rw [bh_go]
  exact ⟨Nat.le_trans List.countP_le_length h, Nat.le_trans List.countP_le_length h⟩
theorem wo_go {hh : Nat → Nat} {c S : Nat} {T : Nat → Nat} (h : ∀ a, lbM hh c a 256 = S + T a) : ∀ a, woM hh c (a + 1) = S + mxN T (a + 1)
  | 0 => by
    show (if 0 < lbM hh c 0 256 then lbM hh c 0 256 else 0) = S + Nat.max 0 (T 0)
    rw [h 0, show Nat.max 0 (T 0) = T 0 from Nat.max_eq_right (Nat.zero_le _)]
    split <;> omega
  | a + 1 => by
    show (if woM hh c (a + 1) < lbM hh c (a + 1) 256 then lbM hh c (a + 1) 256 else woM hh c (a + 1)) = S + Nat.max (mxN T (a + 1)) (T (a + 1))
    rw [wo_go h a, h (a + 1)]
    by_cases e : mxN T (a + 1) < T (a + 1)
    · rw [if_pos (by omega), show Nat.max (mxN T (a + 1)) (T (a + 1)) = T (a + 1) from Nat.max_eq_right (Nat.le_of_lt e)]
    · rw [if_neg (by omega), show Nat.max (mxN T (a + 1)) (T (a + 1)) = mxN T (a + 1) from Nat.max_eq_left (by omega)]
theorem wo_eq {g c : Nat} {P L : List Nat} (hp : P.Perm L) : woM (sQ g P) c 9 = wsN (stN L g) (bhN L g) c := wo_go (T := fun a => lbN (bhN L g) c a 256) (fun a => lbM_eq hp) 8
theorem bq_pos {M : Nat → Nat} : ∀ k, ¬ (bqN M k).1 = 0
  | 0 => by show ¬ 1 = 0; decide
  | k + 1 => by
    rw [bqN]; split
    · show ¬ k + 2 = 0; omega
    · exact bq_pos k
theorem be_go {hh M : Nat → Nat} (h : ∀ c, woM hh c 9 = M c) : ∀ k, bcM hh (k + 1) = bqN M k
  | 0 => by
    rw [bcM_y (hh := hh) (k := 0) ⟨by decide, Or.inl rfl⟩, h]; rfl
  | k + 1 => by
    have ih := be_go h k
    by_cases e : pc8 (k + 2) ≤ 2 ∧ M (k + 2) < (bqN M k).2
    · rw [bqN_t e.1 e.2, bcM_y (hh := hh) (k := k + 1) ⟨Nat.lt_succ_of_le e.1, Or.inr (by rw [h, ih]; exact e.2)⟩, h]
    · rw [bqN_f e, bcM_n (hh := hh) (k := k + 1) (fun z => ?_), ih]
      rw [ih, h] at z
      obtain ⟨z1, z2 | z2⟩ := z
      · exact bq_pos k z2
      · exact e ⟨Nat.le_of_lt_succ z1, z2⟩
theorem be_eq {g : Nat} {P L : List Nat} (hp : P.Perm L) : bcM (sQ g P) 255 = bqN (wsN (stN L g) (bhN L g)) 254 := be_go (fun c => wo_eq hp) 254
