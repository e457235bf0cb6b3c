/-! plain words of the outlook -/
def stN (L : List Nat) (g : Nat) : Nat := L.countP (fun d => !d.testBit (40 + g))
def bhN (L : List Nat) (g h : Nat) : Nat := L.countP (fun d => d.testBit (40 + g) && hAt d g == h)
theorem cnt_app {α : Type} (p : α → Bool) (L : List α) (d : α) : (L ++ [d]).countP p = L.countP p + if p d then 1 else 0 := by
  rw [List.countP_append, List.countP_singleton]
theorem stN_t {L : List Nat} {g i : Nat} (hi : i < L.length) (h : L.getD i 0 &&& 2 ^ (40 + g) = 0) : stN (L.take (i + 1)) g = stN (L.take i) g + 1 := by
  unfold stN; rw [take_s 0 hi, cnt_app, tb_0 h]; rfl
theorem stN_f {L : List Nat} {g i : Nat} (hi : i < L.length) (h : ¬ L.getD i 0 &&& 2 ^ (40 + g) = 0) : stN (L.take (i + 1)) g = stN (L.take i) g := by
  unfold stN; rw [take_s 0 hi, cnt_app, tb_1 h]; rfl
theorem bhN_t {L : List Nat} {g i : Nat} (h0 : Nat) (hi : i < L.length) (h : L.getD i 0 &&& 2 ^ (40 + g) = 0) : bhN (L.take (i + 1)) g h0 = bhN (L.take i) g h0 := by
  unfold bhN; rw [take_s 0 hi, cnt_app, tb_0 h]; rfl
theorem bhN_f {L : List Nat} {g i : Nat} (h0 : Nat) (hi : i < L.length) (h : ¬ L.getD i 0 &&& 2 ^ (40 + g) = 0) : bhN (L.take (i + 1)) g h0 = bhN (L.take i) g h0 + if hAt (L.getD i 0) g = h0 then 1 else 0 := by
  unfold bhN; rw [take_s 0 hi, cnt_app, tb_1 h]; simp
theorem bh_up {L : List Nat} {g i : Nat} {u : Nat → Int32} (hi : i < L.length) (h : ¬ L.getD i 0 &&& 2 ^ (40 + g) = 0) (hu : ∀ h, h < 256 → u h = nI (bhN (L.take i) g h)) : ∀ h, h < 256 → upd u (hAt (L.getD i 0) g) (nI (bhN (L.take i) g (hAt (L.getD i 0) g) + 1)) h = nI (bhN (L.take (i + 1)) g h) := by
  intro h1 hh
  rw [bhN_f h1 hi h]
  by_cases e : h1 = hAt (L.getD i 0) g
  · subst e; rw [pk_us, if_pos rfl]
  · rw [pk_un e, if_neg (fun z => e z.symm), hu h1 hh]; rfl
theorem bh_keep {L : List Nat} {g i : Nat} {u : Nat → Int32} (hi : i < L.length) (h : L.getD i 0 &&& 2 ^ (40 + g) = 0) (hu : ∀ h, h < 256 → u h = nI (bhN (L.take i) g h)) : ∀ h, h < 256 → u h = nI (bhN (L.take (i + 1)) g h) := by
  intro h1 hh
  rw [bhN_t h1 hi h]; exact hu h1 hh
theorem zero_up {u : Nat → Int32} {i : Nat} (h : ∀ j, j < i → u j = nI 0) : ∀ j, j < i + 1 → upd u i (nI 0) j = nI 0 := by
  intro j hj
  by_cases e : j = i
  · subst e; rw [pk_us]
  · rw [pk_un e]; exact h j (by omega)
/-- the deals behind one answer whose hands come so often -/
def anN (B : Nat → Nat) (cards ans h : Nat) : Nat := if pc8 (h &&& cards) = ans then B h else 0
def lbN (B : Nat → Nat) (cards ans i : Nat) : Nat := fb_sm (anN B cards ans) i
theorem lbN_t {B : Nat → Nat} {cards ans i : Nat} (h : pc8 (i &&& cards) = ans) : lbN B cards ans (i + 1) = lbN B cards ans i + B i := by
  unfold lbN; rw [fb_sm_succ]; simp [anN, h]
theorem lbN_f {B : Nat → Nat} {cards ans i : Nat} (h : ¬ pc8 (i &&& cards) = ans) : lbN B cards ans (i + 1) = lbN B cards ans i := by
  unfold lbN; rw [fb_sm_succ]; simp [anN, h]
theorem lbN_le {B : Nat → Nat} {cards ans i N : Nat} (hi : i ≤ 256) (hB : fb_sm B 256 ≤ N) : lbN B cards ans i ≤ N := by
  refine Nat.le_trans (fb_sm_le (g := B) (fun k _ => ?_)) (Nat.le_trans ?_ hB)
  · unfold anN; split <;> omega
  · have := fb_sm_mono B i (256 - i); rwa [show i + (256 - i) = 256 by omega] at this
theorem an_up {B : Nat → Nat} {cards i : Nat} {u : Nat → Int32} (hu : ∀ a, a < 9 → u a = nI (lbN B cards a i)) : ∀ a, a < 9 → upd u (pc8 (i &&& cards)) (nI (lbN B cards (pc8 (i &&& cards)) i + B i)) a = nI (lbN B cards a (i + 1)) := by
  intro a ha
  by_cases e : a = pc8 (i &&& cards)
  · subst e; rw [pk_us, lbN_t rfl]
  · rw [pk_un e, lbN_f (fun z => e z.symm), hu a ha]
/-- the greatest of the first a -/
def mxN (S : Nat → Nat) : Nat → Nat
  | 0 => 0
  | a + 1 => Nat.max (mxN S a) (S a)
theorem mxN_le {S : Nat → Nat} {N : Nat} (h : ∀ a, S a ≤ N) : ∀ a, mxN S a ≤ N
  | 0 => Nat.zero_le _
  | a + 1 => Nat.max_le.mpr ⟨mxN_le h a, h a⟩
def wsN (st : Nat) (B : Nat → Nat) (cards : Nat) : Nat := st + mxN (fun a => lbN B cards a 256) 9
/-- the best of the first sets: that set and what it leaves at worst -/
def bqN (M : Nat → Nat) : Nat → Nat × Nat
  | 0 => (1, M 1)
  | k + 1 => if pc8 (k + 2) ≤ 2 ∧ M (k + 2) < (bqN M k).2 then (k + 2, M (k + 2)) else bqN M k
theorem bqN_t {M : Nat → Nat} {k : Nat} (h1 : pc8 (k + 2) ≤ 2) (h2 : M (k + 2) < (bqN M k).2) : bqN M (k + 1) = (k + 2, M (k + 2)) := by
  rw [bqN, if_pos ⟨h1, h2⟩]
theorem bqN_f {M : Nat → Nat} {k : Nat} (h : ¬ (pc8 (k + 2) ≤ 2 ∧ M (k + 2) < (bqN M k).2)) : bqN M (k + 1) = bqN M k := by
  rw [bqN, if_neg h]
theorem bqN_le {M : Nat → Nat} {N : Nat} (h : ∀ c, M c ≤ N) : ∀ k, (bqN M k).2 ≤ N
  | 0 => h 1
  | k + 1 => by
    rw [bqN]; split
    · exact h _
    · exact bqN_le h k
theorem bqN_set {M : Nat → Nat} : ∀ k, (bqN M k).1 ≤ k + 1
  | 0 => Nat.le_refl _
  | k + 1 => by
    rw [bqN]; split
    · exact Nat.le_refl _
    · exact Nat.le_succ_of_le (bqN_set k)
theorem wsN_le {sv : Nat} {B : Nat → Nat} (h : fb_sm B 256 ≤ 5040) (hs : sv ≤ 5040) (c : Nat) : wsN sv B c ≤ 10080 := by
  unfold wsN
  have := mxN_le (S := fun a => lbN B c a 256) (fun a => lbN_le (Nat.le_refl _) h) 9
  omega
theorem wsN_lt {sv : Nat} {B : Nat → Nat} (h : fb_sm B 256 ≤ 5040) (hs : sv ≤ 5040) (c : Nat) : wsN sv B c < 2 ^ 31 := Nat.lt_of_le_of_lt (wsN_le h hs c) (by decide)
