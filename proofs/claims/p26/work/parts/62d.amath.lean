/-! answers, worst cases, best questions, proofs, accusations -/
def dif (L : List Nat) (g c w : Nat) : Nat := (L.filterMap (stA g c w)).length
def wst (L : List Nat) (g c : Nat) : Nat := wsN (stN L g) (bhN L g) c
def bqB (L : List Nat) (g : Nat) : Nat := (bqN (wsN (stN L g) (bhN L g)) 254).1
theorem dif_le (L : List Nat) (g c w : Nat) : dif L g c w ≤ L.length := List.length_filterMap_le _ _
theorem mx_add (s : Nat) (f : Nat → Nat) : ∀ n, mxN (fun a => s + f a) (n + 1) = s + mxN f (n + 1)
  | 0 => by
    show Nat.max 0 (s + f 0) = s + Nat.max 0 (f 0)
    rw [show Nat.max 0 (s + f 0) = s + f 0 from Nat.max_eq_right (Nat.zero_le _), show Nat.max 0 (f 0) = f 0 from Nat.max_eq_right (Nat.zero_le _)]
  | n + 1 => by
    show Nat.max (mxN (fun a => s + f a) (n + 1)) (s + f (n + 1)) = s + Nat.max (mxN f (n + 1)) (f (n + 1))
    rw [mx_add s f n]
    rcases Nat.le_total (mxN f (n + 1)) (f (n + 1)) with z | z
    · rw [show Nat.max (mxN f (n + 1)) (f (n + 1)) = f (n + 1) from Nat.max_eq_right z]
      exact Nat.max_eq_right (by omega)
    · rw [show Nat.max (mxN f (n + 1)) (f (n + 1)) = mxN f (n + 1) from Nat.max_eq_left z]
      exact Nat.max_eq_left (by omega)
theorem mx_cg {f g : Nat → Nat} (h : ∀ a, f a = g a) : ∀ n, mxN f n = mxN g n := fun n => by rw [funext h]
theorem mx_wst (L : List Nat) (g c : Nat) : mxN (fun w => dif L g c w) 9 = wst L g c := by
  unfold wst wsN
  rw [← mx_add (stN L g) (fun a => lbN (bhN L g) c a 256) 8]
  exact mx_cg (fun a => dif_eq.symm) 9
theorem mx_y {f : Nat → Nat} {a : Nat} (h : mxN f a < f a) : mxN f (a + 1) = f a := by rw [mxN]; exact Nat.max_eq_right (Nat.le_of_lt h)
theorem mx_n {f : Nat → Nat} {a : Nat} (h : f a ≤ mxN f a) : mxN f (a + 1) = mxN f a := by rw [mxN]; exact Nat.max_eq_left h
theorem mx_ge {f : Nat → Nat} : ∀ n a, a < n → f a ≤ mxN f n
  | 0, a, h => absurd h (Nat.not_lt_zero a)
  | n + 1, a, h => by
    rw [mxN]
    by_cases e : a = n
    · subst e; exact Nat.le_max_right _ _
    · exact Nat.le_trans (mx_ge n a (by omega)) (Nat.le_max_left _ _)
theorem dif_wst {L : List Nat} {g c w : Nat} (h : w ≤ 8) : dif L g c w ≤ wst L g c := by
  rw [← mx_wst]; exact mx_ge (f := fun w => dif L g c w) 9 w (by omega)
theorem wst_lt {L : List Nat} (h : L.length ≤ 5040) (g c : Nat) : wst L g c < 2 ^ 31 := wsN_lt (bh_le h).1 (bh_le h).2 c
/-- what the house tells of a question behind it -/
theorem up_at (f : Nat → Nat) (i v : Nat) : va_up f i v i = v := by unfold va_up; rw [if_pos rfl]
theorem ask_q0 {D : D7} {g c : Nat} {Lp : Prop} [Decidable Lp] : abQ (dAg (askD D g c Lp)) (dAc (askD D g c Lp)) (dAn (askD D g c Lp)) (dX D 12) 0 = g := up_at _ _ _
theorem ask_q1 {D : D7} {g c : Nat} {Lp : Prop} [Decidable Lp] : abQ (dAg (askD D g c Lp)) (dAc (askD D g c Lp)) (dAn (askD D g c Lp)) (dX D 12) 1 = c := up_at _ _ _
theorem ask_q2 {D : D7} {g c : Nat} {Lp : Prop} [Decidable Lp] : abQ (dAg (askD D g c Lp)) (dAc (askD D g c Lp)) (dAn (askD D g c Lp)) (dX D 12) 2 = ansN (dHd D g) (szH (dX D 1) g) c Lp := up_at _ _ _
/-! the best question -/
theorem bq_M {M : Nat → Nat} : ∀ k, (bqN M k).2 = M (bqN M k).1
  | 0 => rfl
  | k + 1 => by
    rw [bqN]; split
    · rfl
    · exact bq_M k
theorem bq_pc {M : Nat → Nat} : ∀ k, pc8 (bqN M k).1 ≤ 2
  | 0 => by show pc8 1 ≤ 2; decide
  | k + 1 => by
    rw [bqN]; split
    · rename_i h; exact h.1
    · exact bq_pc k
theorem bq_min {M : Nat → Nat} : ∀ k m, 1 ≤ m → m ≤ k + 1 → pc8 m ≤ 2 → (bqN M k).2 ≤ M m ∧ (m < (bqN M k).1 → (bqN M k).2 < M m)
  | 0, m, h1, h2, _ => by
    have e : m = 1 := by omega
    subst e
    exact ⟨Nat.le_refl _, fun z => absurd z (by show ¬ 1 < 1; decide)⟩
  | k + 1, m, h1, h2, h3 => by
    by_cases e : pc8 (k + 2) ≤ 2 ∧ M (k + 2) < (bqN M k).2
    · rw [bqN_t e.1 e.2]
      by_cases z : m = k + 2
      · subst z; exact ⟨Nat.le_refl _, fun w => absurd w (Nat.lt_irrefl _)⟩
      · have := (bq_min (M := M) k m h1 (by omega) h3).1
        exact ⟨Nat.le_trans (Nat.le_of_lt e.2) this, fun _ => Nat.lt_of_lt_of_le e.2 this⟩
    · rw [bqN_f e]
      by_cases z : m = k + 2
      · subst z
        have h4 : (bqN M k).2 ≤ M (k + 2) := Nat.not_lt.mp (fun w => e ⟨h3, w⟩)
        exact ⟨h4, fun w => by have := bqN_set (M := M) k; omega⟩
      · exact bq_min k m h1 (by omega) h3
theorem bqB_ok (L : List Nat) (g : Nat) : 1 ≤ bqB L g ∧ bqB L g ≤ 255 ∧ (pc8 (bqB L g) = 1 ∨ pc8 (bqB L g) = 2) := by
  have h1 := bq_pos (M := wsN (stN L g) (bhN L g)) 254
  have h2 := bqN_set (M := wsN (stN L g) (bhN L g)) 254
  have h3 := bq_pc (M := wsN (stN L g) (bhN L g)) 254
  unfold bqB
  have h4 := pc8_pos _ (show (bqN (wsN (stN L g) (bhN L g)) 254).1 < 256 by omega) (by omega)
  omega
theorem bqB_min {L : List Nat} {g m : Nat} (h1 : 1 ≤ m) (h2 : m ≤ 255) (h3 : pc8 m ≤ 2) : wst L g (bqB L g) ≤ wst L g m ∧ (m < bqB L g → wst L g (bqB L g) < wst L g m) := by
  have h := bq_min (M := wsN (stN L g) (bhN L g)) 254 m h1 h2 h3
  rw [bq_M] at h
  exact h
theorem two_ok : ∀ c, c < 8 → 1 ≤ 1 * 2 ^ c ∧ 1 * 2 ^ c ≤ 255 ∧ pc8 (1 * 2 ^ c) ≤ 2 ∧ 1 ≤ 1 * 2 ^ c ||| 1 * 2 ^ ((c + 3) % 8) ∧ 1 * 2 ^ c ||| 1 * 2 ^ ((c + 3) % 8) ≤ 255 ∧ pc8 (1 * 2 ^ c ||| 1 * 2 ^ ((c + 3) % 8)) ≤ 2 := by decide
/-! a proof -/
theorem prv_y {b : Nat} : ∀ L : List Nat, (L.filterMap (stP b true)).length = L.countP (fun d => d.testBit b)
  | [] => rfl
  | x :: L => by
    rw [List.countP_cons, ← prv_y L, List.filterMap_cons]
    unfold stP
    cases x.testBit b <;> rfl
theorem prv_n {b : Nat} : ∀ L : List Nat, (L.filterMap (stP b false)).length + L.countP (fun d => d.testBit b) = L.length
  | [] => rfl
  | x :: L => by
    have ih := prv_n (b := b) L
    rw [List.countP_cons, List.filterMap_cons, List.length_cons]
    unfold stP at ih ⊢
    cases x.testBit b
    · rw [if_pos rfl, if_neg (by decide)]
      show (List.filterMap _ L).length + 1 + _ = _
      omega
    · rw [if_neg (by decide), if_pos rfl]
      show (List.filterMap _ L).length + (_ + 1) = _
      omega
theorem prv_len1 {D : D7} {g c : Nat} (h : dHd D g / 2 ^ c &&& 1 = 1) : (dL (prvD D g c)).length = wD (dL D) g c := by
  show ((dL D).filterMap (stP (8 * g + c) (decide (dHd D g / 2 ^ c &&& 1 = 1)))).length = _
  rw [decide_eq_true h]; exact prv_y _
theorem prv_len0 {D : D7} {g c : Nat} (h : ¬ dHd D g / 2 ^ c &&& 1 = 1) : (dL (prvD D g c)).length = (dL D).length - wD (dL D) g c := by
  show ((dL D).filterMap (stP (8 * g + c) (decide (dHd D g / 2 ^ c &&& 1 = 1)))).length = _
  rw [decide_eq_false h]
  have := prv_n (b := 8 * g + c) (dL D)
  unfold wD; omega
theorem prv_bit {D : D7} {g c : Nat} : ∀ d ∈ dL (prvD D g c), d.testBit (8 * g + c) = decide (dHd D g / 2 ^ c &&& 1 = 1) := by
  intro d hd
  obtain ⟨e, -, h2⟩ := List.mem_filterMap.mp hd
  unfold stP at h2
  split at h2
  · cases h2; assumption
  · cases h2
theorem bit_and {v c : Nat} {q : Bool} (h : v.testBit c = q) : v / 2 ^ c &&& 1 = if q = true then 1 else 0 := by
  rw [bit_q] at h
  cases q with
  | true => rw [if_pos rfl]; exact of_decide_eq_true h
  | false =>
    rw [if_neg (by decide)]
    have h1 := of_decide_eq_false h
    have := Nat.and_le_right (n := v / 2 ^ c) (m := 1)
    omega
theorem prv_some {D : D7} {g c : Nat} (hg : g < 5) (hc : c < 8) (h0 : 0 < (dL (prvD D g c)).length) : hAt (orL (dL (prvD D g c))) g / 2 ^ c &&& 1 = if decide (dHd D g / 2 ^ c &&& 1 = 1) = true then 1 else 0 := by
  refine bit_and ?_
  rw [hAt_bit hc]
  generalize hq : decide (dHd D g / 2 ^ c &&& 1 = 1) = q
  have hb := prv_bit (D := D) (g := g) (c := c)
  rw [hq] at hb
  obtain ⟨d, hd⟩ := List.exists_mem_of_length_pos h0
  rw [Bool.eq_iff_iff]
  unfold orL
  rw [or_tb, Nat.zero_testBit]
  constructor
  · rintro (h | ⟨e, e1, e2⟩)
    · cases h
    · rw [hb e e1] at e2; exact e2
  · intro h
    exact Or.inr ⟨d, hd, by rw [hb d hd]; exact h⟩
theorem prv_all {D : D7} {g c : Nat} (hg : g < 5) (hc : c < 8) (h0 : 0 < (dL (prvD D g c)).length) : hAt (andL (dL (prvD D g c))) g / 2 ^ c &&& 1 = if decide (dHd D g / 2 ^ c &&& 1 = 1) = true then 1 else 0 := by
  refine bit_and ?_
  rw [hAt_bit hc]
  generalize hq : decide (dHd D g / 2 ^ c &&& 1 = 1) = q
  have hb := prv_bit (D := D) (g := g) (c := c)
  rw [hq] at hb
  obtain ⟨d, hd⟩ := List.exists_mem_of_length_pos h0
  rw [Bool.eq_iff_iff]
  unfold andL
  rw [and_tb]
  constructor
  · rintro ⟨-, h⟩
    rw [← hb d hd]; exact h d hd
  · intro h
    refine ⟨?_, fun e he => by rw [hb e he]; exact h⟩
    rw [show (18446744073709551615 : Nat) = 2 ^ 64 - 1 from rfl, Nat.testBit_two_pow_sub_one, decide_eq_true_iff]; omega
/-! an accusation -/
theorem or_mem {L : List Nat} {e q : Nat} (h : e ∈ L) : hAt e q &&& hAt (orL L) q = hAt e q := by
  apply Nat.eq_of_testBit_eq
  intro i
  rw [Nat.testBit_and]
  cases h1 : (hAt e q).testBit i with
  | false => rfl
  | true =>
    rw [Bool.true_and]
    rw [hAt_tb, Bool.and_eq_true] at h1
    rw [hAt_tb, Bool.and_eq_true]
    refine ⟨h1.1, ?_⟩
    unfold orL
    rw [or_tb]; exact Or.inr ⟨e, h, h1.2⟩
theorem and_mem {L : List Nat} {e q : Nat} (h : e ∈ L) : hAt (andL L) q &&& hAt e q = hAt (andL L) q := by
  apply Nat.eq_of_testBit_eq
  intro i
  rw [Nat.testBit_and]
  cases h1 : (hAt (andL L) q).testBit i with
  | false => rfl
  | true =>
    rw [Bool.true_and]
    rw [hAt_tb, Bool.and_eq_true] at h1
    rw [hAt_tb, Bool.and_eq_true]
    refine ⟨h1.1, ?_⟩
    have h2 := h1.2
    unfold andL at h2
    rw [and_tb] at h2
    exact h2.2 e h
theorem cul_in {D : D7} (h : E1 D) (hc : dX D 3 < 8) : hAt (orL (dL D)) 4 / 2 ^ dX D 3 &&& 1 = 1 := by
  obtain ⟨-, -, -, -, -, -, -, -, -, e, h1, -, h3, -⟩ := h
  rw [bit_and (q := true) (by
    have h4 := or_mem (q := 4) h1
    have h5 : (hAt e 4 &&& hAt (orL (dL D)) 4).testBit (dX D 3) = true := by rw [h4, h3, Nat.testBit_two_pow, decide_eq_true rfl]
    rw [Nat.testBit_and, Bool.and_eq_true] at h5
    exact h5.2), if_pos rfl]
theorem andnot {a b : Nat} (h : a &&& b = a) : nI a &&& (nI b ^^^ iZ (-1)) = nI 0 := by
  have e : nI a = nI a &&& nI b := by rw [fa_and, h]
  rw [e]
  apply b_ext
  intro i hi
  show (((nI a).toBitVec &&& (nI b).toBitVec) &&& ((nI b).toBitVec ^^^ (iZ (-1)).toBitVec)).getLsbD i = (nI 0).toBitVec.getLsbD i
  rw [show (iZ (-1)).toBitVec = BitVec.allOnes 32 from by decide, show (nI 0).toBitVec = 0#32 from by decide, BitVec.getLsbD_and, BitVec.getLsbD_and, BitVec.getLsbD_xor, BitVec.getLsbD_allOnes, decide_eq_true hi, BitVec.getLsbD_zero]
  cases (nI a).toBitVec.getLsbD i <;> cases (nI b).toBitVec.getLsbD i <;> rfl
theorem hand_some {D : D7} (h : E1 D) {g : Nat} (hg : g < dX D 1) : dHd D g &&& hAt (orL (dL D)) g = dHd D g := by
  obtain ⟨-, -, -, -, -, -, -, -, -, e, h1, h2, -, -⟩ := h
  rw [← h2 g hg]; exact or_mem h1
theorem hand_all {D : D7} (h : E1 D) {g : Nat} (hg : g < dX D 1) : hAt (andL (dL D)) g &&& dHd D g = hAt (andL (dL D)) g := by
  obtain ⟨-, -, -, -, -, -, -, -, -, e, h1, h2, -, -⟩ := h
  rw [← h2 g hg]; exact and_mem h1
theorem ac_9 {D : D7} {c : Nat} : abH (dX (acD D c)) 9 = dX D 3 := by
  show (if (0 : Nat) = 1 ∨ dX D 4 + 1 = 0 then 4294967295 else dX D 3) = dX D 3
  rw [if_neg (by omega)]
theorem ac_7 {D : D7} {c g : Nat} : abG (dX (acD D c)) (dHd (acD D c)) (dPb (acD D c)) (dAg (acD D c)) (dL (acD D c)) g 7 = dHd D g := by
  show (if (0 : Nat) = 1 then 4294967295 else dHd D g) = dHd D g
  rw [if_neg (by decide)]
theorem m10_nI : iZ (-10) = nI 4294967286 := by decide
