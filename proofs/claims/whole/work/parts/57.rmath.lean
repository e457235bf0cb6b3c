/-! all deals in two orders: the same ones -/
def bndL : List Nat → (Nat → List Nat) → List Nat
  | [], _ => []
  | x :: r, f => f x ++ bndL r f
noncomputable def subA (ns k m : Nat) : List Nat → List Nat := Nat.rec (fun acc => acc) (fun i ih acc => ih (cond (Nat.beq (Nat.land i ns) 0) (cond (Nat.beq (pc8 i) k) (i :: acc) acc) acc)) m
theorem subA_s (ns k m : Nat) (acc : List Nat) : subA ns k (m + 1) acc = subA ns k m (cond (Nat.beq (Nat.land m ns) 0) (cond (Nat.beq (pc8 m) k) (m :: acc) acc) acc) := rfl
theorem subA_0 (ns k : Nat) (acc : List Nat) : subA ns k 0 acc = acc := rfl
/-- the sets below m within a set, of a size -/
def lsT (rs k : Nat) : Nat → List Nat
  | 0 => []
  | i + 1 => if i &&& nt rs = 0 ∧ pc8 i = k then lsT rs k i ++ [i] else lsT rs k i
theorem subA_ls (rs k : Nat) : ∀ m acc, subA (nt rs) k m acc = lsT rs k m ++ acc
  | 0, acc => rfl
  | m + 1, acc => by
    rw [subA_s, subA_ls rs k m, lsT]
    have e1 : Nat.land m (nt rs) = m &&& nt rs := rfl
    rw [e1]
    by_cases h1 : m &&& nt rs = 0
    · rw [show Nat.beq (m &&& nt rs) 0 = true from Nat.beq_eq ▸ h1]
      by_cases h2 : pc8 m = k
      · rw [show Nat.beq (pc8 m) k = true from Nat.beq_eq ▸ h2, if_pos ⟨h1, h2⟩, List.append_assoc]; rfl
      · rw [show Nat.beq (pc8 m) k = false from Bool.eq_false_iff.mpr (fun z => h2 (Nat.eq_of_beq_eq_true z)), if_neg (fun z => h2 z.2)]; rfl
    · rw [show Nat.beq (m &&& nt rs) 0 = false from Bool.eq_false_iff.mpr (fun z => h1 (Nat.eq_of_beq_eq_true z)), if_neg (fun z => h1 z.1)]; rfl
noncomputable def rw3 (c d0 d1 lf s2 : Nat) : List Nat := (subA (nt lf) s2 256 []).map (fun j => pk4 c (dq d0 d1 j (lf &&& nt j)))
noncomputable def rw2 (c d0 rs s1 s2 : Nat) : List Nat := bndL (subA (nt rs) s1 256 []) (fun i => rw3 c d0 i (rs &&& nt i) s2)
noncomputable def rw1 (c rs s0 s1 s2 : Nat) : List Nat := bndL (subA (nt rs) s0 256 []) (fun i => rw2 c i (rs &&& nt i) s1 s2)
noncomputable def rw0 (s0 s1 s2 : Nat) : Nat → List Nat
  | 0 => []
  | c + 1 => rw0 s0 s1 s2 c ++ rw1 c (255 &&& nt (1 * 2 ^ c)) s0 s1 s2
/-- sorting -/
def mgL : Nat → List Nat → List Nat → List Nat
  | 0, a, b => a ++ b
  | f + 1, a, b => match a with
    | [] => b
    | x :: a' => match b with
      | [] => x :: a'
      | y :: b' => cond (Nat.ble x y) (x :: mgL f a' (y :: b')) (y :: mgL f (x :: a') b')
theorem mgL_perm : ∀ f a b, (mgL f a b).Perm (a ++ b)
  | 0, a, b => List.Perm.refl _
  | f + 1, a, b => by
    cases a with
    | nil => exact List.Perm.refl _
    | cons x a' =>
      cases b with
      | nil => show (x :: a').Perm (x :: a' ++ []); rw [List.append_nil]
      | cons y b' =>
        show (cond (Nat.ble x y) (x :: mgL f a' (y :: b')) (y :: mgL f (x :: a') b')).Perm _
        cases Nat.ble x y with
        | true => exact List.Perm.cons x (mgL_perm f a' (y :: b'))
        | false => exact (List.Perm.cons y (mgL_perm f (x :: a') b')).trans (List.perm_middle (a := y) (l₁ := x :: a') (l₂ := b')).symm
def spL : Bool → List Nat → List Nat
  | _, [] => []
  | b, x :: r => cond b (x :: spL (!b) r) (spL (!b) r)
theorem spL_perm : ∀ l : List Nat, (spL true l ++ spL false l).Perm l ∧ (spL false l ++ spL true l).Perm l
  | [] => ⟨List.Perm.refl _, List.Perm.refl _⟩
  | x :: r => ⟨List.Perm.cons x (spL_perm r).2, (List.perm_middle (a := x) (l₁ := spL true r) (l₂ := spL false r)).trans (List.Perm.cons x (spL_perm r).1)⟩
def msL : Nat → List Nat → List Nat
  | 0, l => l
  | f + 1, l => match l with
    | [] => []
    | x :: r => match r with
      | [] => [x]
      | y :: q => mgL 10000 (msL f (spL true (x :: y :: q))) (msL f (spL false (x :: y :: q)))
theorem msL_perm : ∀ f l, (msL f l).Perm l
  | 0, l => List.Perm.refl _
  | f + 1, l => by
    cases l with
    | nil => exact List.Perm.refl _
    | cons x r =>
      cases r with
      | nil => exact List.Perm.refl _
      | cons y q => exact (mgL_perm _ _ _).trans (((msL_perm f _).append (msL_perm f _)).trans (spL_perm _).1)
def eqL : List Nat → List Nat → Bool
  | [], [] => true
  | x :: a, y :: b => cond (Nat.beq x y) (eqL a b) false
  | _, _ => false
theorem eqL_eq : ∀ a b, eqL a b = true → a = b
  | [], [], _ => rfl
  | [], _ :: _, h => by cases h
  | _ :: _, [], h => by cases h
  | x :: a, y :: b, h => by
    have h1 : cond (Nat.beq x y) (eqL a b) false = true := h
    cases e : Nat.beq x y with
    | true => rw [e] at h1; rw [Nat.eq_of_beq_eq_true e, eqL_eq a b h1]
    | false => rw [e] at h1; cases h1
theorem perm_of {a b : List Nat} (f : Nat) (h : eqL (msL f a) (msL f b) = true) : a.Perm b := (msL_perm f a).symm.trans ((eqL_eq _ _ h) ▸ msL_perm f b)
/-- by the card that lies face down -/
def catF : Nat → List Nat → List Nat
  | 0, _ => []
  | k + 1, l => catF k l ++ l.filter (fun d => Nat.beq (hAt d 4) (2 ^ k))
theorem p2_inj {a b : Nat} (h : (2 : Nat) ^ a = 2 ^ b) : a = b := by
  rcases Nat.lt_trichotomy a b with q | q | q
  · exact absurd h (Nat.ne_of_lt (Nat.pow_lt_pow_right (by decide) q))
  · exact q
  · exact absurd h.symm (Nat.ne_of_lt (Nat.pow_lt_pow_right (by decide) q))
theorem beqF {a b : Nat} (h : ¬ a = b) : ¬ Nat.beq a b = true := fun z => h (Nat.eq_of_beq_eq_true z)
theorem beqT {a b : Nat} (h : a = b) : Nat.beq a b = true := by subst h; exact Nat.beq_refl a
theorem catF_out {x : Nat} {l : List Nat} : ∀ k, (∀ c, c < k → ¬ hAt x 4 = 2 ^ c) → catF k (x :: l) = catF k l
  | 0, _ => rfl
  | k + 1, h => by
    show catF k (x :: l) ++ (x :: l).filter (fun d => Nat.beq (hAt d 4) (2 ^ k)) = _
    rw [catF_out k (fun c hc => h c (by omega)), List.filter_cons_of_neg (p := fun d => Nat.beq (hAt d 4) (2 ^ k)) (beqF (h k (by omega)))]; rfl
theorem catF_in {x c0 : Nat} {l : List Nat} (hx : hAt x 4 = 2 ^ c0) : ∀ k, c0 < k → (catF k (x :: l)).Perm (x :: catF k l)
  | 0, h => absurd h (Nat.not_lt_zero _)
  | k + 1, h => by
    show (catF k (x :: l) ++ (x :: l).filter (fun d => Nat.beq (hAt d 4) (2 ^ k))).Perm (x :: (catF k l ++ l.filter (fun d => Nat.beq (hAt d 4) (2 ^ k))))
    by_cases e : c0 = k
    · subst e
      rw [catF_out c0 (fun c hc z => absurd (p2_inj (z.symm.trans hx)) (by omega)), List.filter_cons_of_pos (p := fun d => Nat.beq (hAt d 4) (2 ^ c0)) (beqT hx)]
      exact List.perm_middle
    · rw [List.filter_cons_of_neg (p := fun d => Nat.beq (hAt d 4) (2 ^ k)) (beqF (fun z => e (p2_inj (hx.symm.trans z))))]
      exact (catF_in hx k (by omega)).append_right _
theorem catF_perm : ∀ l : List Nat, (∀ x ∈ l, ∃ c, c < 8 ∧ hAt x 4 = 2 ^ c) → (catF 8 l).Perm l
  | [], _ => by decide
  | x :: l, h => by
    obtain ⟨c, h1, h2⟩ := h x List.mem_cons_self
    exact (catF_in h2 8 h1).trans (List.Perm.cons x (catF_perm l (fun y hy => h y (List.mem_cons_of_mem _ hy))))
def isP2 (m : Nat) : Bool := Nat.beq m 1 || Nat.beq m 2 || Nat.beq m 4 || Nat.beq m 8 || Nat.beq m 16 || Nat.beq m 32 || Nat.beq m 64 || Nat.beq m 128
theorem isP2_c {m : Nat} (h : isP2 m = true) : ∃ c, c < 8 ∧ m = 2 ^ c := by
  simp only [isP2, Bool.or_eq_true] at h
  rcases h with ((((((h | h) | h) | h) | h) | h) | h) | h
  · exact ⟨0, by decide, Nat.eq_of_beq_eq_true h⟩
  · exact ⟨1, by decide, Nat.eq_of_beq_eq_true h⟩
  · exact ⟨2, by decide, Nat.eq_of_beq_eq_true h⟩
  · exact ⟨3, by decide, Nat.eq_of_beq_eq_true h⟩
  · exact ⟨4, by decide, Nat.eq_of_beq_eq_true h⟩
  · exact ⟨5, by decide, Nat.eq_of_beq_eq_true h⟩
  · exact ⟨6, by decide, Nat.eq_of_beq_eq_true h⟩
  · exact ⟨7, by decide, Nat.eq_of_beq_eq_true h⟩
/-- what stands in a row of all deals: a number below 2^40 with one card face down -/
def okD (d : Nat) : Bool := isP2 (hAt d 4) && Nat.ble d 1099511627775
noncomputable def rwC (n c : Nat) : List Nat := rw1 c (255 &&& nt (1 * 2 ^ c)) (szH n 0) (szH n 1) (szH n 2)
def exC (n c : Nat) : List Nat := (ext n 8 0).filter (fun d => Nat.beq (hAt d 4) (2 ^ c))
theorem rw0_cat (n : Nat) {l : List Nat} : ∀ k, (∀ c, c < k → (rwC n c).Perm (l.filter (fun d => Nat.beq (hAt d 4) (2 ^ c)))) → (rw0 (szH n 0) (szH n 1) (szH n 2) k).Perm (catF k l)
  | 0, _ => List.Perm.refl _
  | k + 1, h => (rw0_cat n k (fun c hc => h c (by omega))).append (h k (by omega))
