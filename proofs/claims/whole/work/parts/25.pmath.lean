/-! what is possible, in numbers -/
theorem mm_xor (a b : Nat) : nI a ^^^ nI b = nI (a ^^^ b) := by
  apply Int32.toBitVec_inj.mp
  rw [Int32.toBitVec_xor]
  show BitVec.ofNat 32 a ^^^ BitVec.ofNat 32 b = BitVec.ofNat 32 (a ^^^ b)
  apply BitVec.eq_of_getLsbD_eq
  intro i hi
  simp [BitVec.getLsbD_ofNat, Nat.testBit_xor, hi]
def nt (d : Nat) : Nat := 4294967295 ^^^ d
theorem nt_ok (d : Nat) : nI d ^^^ iZ (-1) = nI (nt d) := by
  rw [m1_nI, mm_xor, Nat.xor_comm]; rfl
theorem vuS (f : Nat → Nat) (k x : Nat) : va_up f k x k = x := if_pos rfl
theorem vuN {f : Nat → Nat} {k x j : Nat} (h : ¬ j = k) : va_up f k x j = f j := if_neg h
def wrK (nw dl : Nat → Nat) (g : Nat) : Nat → Nat
  | 0 => 0
  | k + 1 => wrK nw dl g k + (if nw (41 + 3 * k) = g ∧ ¬ pc8 (dl g &&& nw (41 + 3 * k + 1)) = nw (41 + 3 * k + 2) then 1 else 0)
abbrev possD (nw dl : Nat → Nat) : Prop := (∀ g, g < nw 0 → nw (33 + g) &&& nt (dl g) = 0 ∧ nw (37 + g) &&& dl g = 0) ∧ ∀ g, g < nw 0 → wrK nw dl g (nw 7) ≤ 1
def MI (nw : Nat → Nat) : Prop := nw 0 ≤ 4 ∧ (∀ g, g < 4 → nw (33 + g) < 256 ∧ nw (37 + g) < 256) ∧ nw 7 ≤ 20 ∧ ∀ k, k < nw 7 → nw (41 + 3 * k) < nw 0 ∧ nw (41 + 3 * k + 1) < 256 ∧ nw (41 + 3 * k + 2) ≤ 8
theorem wrK_le (nw dl : Nat → Nat) (g j : Nat) : ∀ i, wrK nw dl g j ≤ wrK nw dl g (j + i)
  | 0 => Nat.le_refl _
  | i + 1 => Nat.le_trans (wrK_le nw dl g j i) (Nat.le_add_right _ _)
theorem wrK_q {nw dl : Nat → Nat} {k b : Nat} (hb : (if ¬ pc8 (dl (nw (41 + 3 * k)) &&& nw (41 + 3 * k + 1)) = nw (41 + 3 * k + 2) then 1 else 0) = b) : wrK nw dl (nw (41 + 3 * k)) (k + 1) = wrK nw dl (nw (41 + 3 * k)) k + b := by
  rw [← hb]
  show wrK nw dl (nw (41 + 3 * k)) k + _ = _
  by_cases h : pc8 (dl (nw (41 + 3 * k)) &&& nw (41 + 3 * k + 1)) = nw (41 + 3 * k + 2)
  · rw [if_neg (fun z => z.2 h), if_neg (fun z => z h)]
  · rw [if_pos ⟨rfl, h⟩, if_pos h]
theorem wrK_o {nw dl : Nat → Nat} {k g : Nat} (h : ¬ nw (41 + 3 * k) = g) : wrK nw dl g (k + 1) = wrK nw dl g k := by
  show wrK nw dl g k + _ = _
  rw [if_neg (fun z => h z.1)]; rfl
theorem wr_on {nw dl w : Nat → Nat} {n k b : Nat} (hv : ∀ g, g < n → w g = wrK nw dl g k ∧ wrK nw dl g k ≤ 1)
    (hb : (if ¬ pc8 (dl (nw (41 + 3 * k)) &&& nw (41 + 3 * k + 1)) = nw (41 + 3 * k + 2) then 1 else 0) = b) (hq : nw (41 + 3 * k) < n) (h1 : w (nw (41 + 3 * k)) + b ≤ 1) :
    ∀ g, g < n → va_up w (nw (41 + 3 * k)) (w (nw (41 + 3 * k)) + b) g = wrK nw dl g (k + 1) ∧ wrK nw dl g (k + 1) ≤ 1 := by
  intro g hg
  by_cases e : g = nw (41 + 3 * k)
  · subst e
    rw [vuS, wrK_q hb, ← (hv _ hq).1]
    exact ⟨rfl, h1⟩
  · rw [vuN e, wrK_o (fun z => e z.symm)]
    exact hv g hg
theorem wr_off {nw dl w : Nat → Nat} {n m k b : Nat} (hv : ∀ g, g < n → w g = wrK nw dl g k ∧ wrK nw dl g k ≤ 1)
    (hb : (if ¬ pc8 (dl (nw (41 + 3 * k)) &&& nw (41 + 3 * k + 1)) = nw (41 + 3 * k + 2) then 1 else 0) = b) (hq : nw (41 + 3 * k) < n) (h1 : 1 < w (nw (41 + 3 * k)) + b) (hk : k < m) : ¬ wrK nw dl (nw (41 + 3 * k)) m ≤ 1 := by
  intro z
  have h2 := wrK_le nw dl (nw (41 + 3 * k)) (k + 1) (m - (k + 1))
  rw [show k + 1 + (m - (k + 1)) = m by omega, wrK_q hb, ← (hv _ hq).1] at h2
  omega
/-- the wrong answers as bits; a deal as a number -/
def wsm (w : Nat → Nat) : Nat → Nat
  | 0 => 0
  | g + 1 => wsm w g + 2 ^ g * w g
def pk4 (c : Nat) (dl : Nat → Nat) : Nat := dl 0 + 256 * dl 1 + 65536 * dl 2 + 16777216 * dl 3 + 4294967296 * 2 ^ c
def mkW (c : Nat) (dl w : Nat → Nat) (n : Nat) : Nat := pk4 c dl + 1099511627776 * wsm w n
def mkN (nw : Nat → Nat) (d : Nat) : Option Nat := if possD nw (hAt d) then some (d + 1099511627776 * wsm (fun g => wrK nw (hAt d) g (nw 7)) (nw 0)) else none
theorem p2_8 {c : Nat} (h : c < 8) : 2 ^ c < 256 := Nat.lt_of_lt_of_le (Nat.pow_lt_pow_right (by decide) h) (by decide)
theorem hAt_mk {c n : Nat} {dl w : Nat → Nat} (hd : ∀ g, g < 4 → dl g < 256) (hc : c < 8) : ∀ g, g < 4 → hAt (mkW c dl w n) g = dl g := by
  intro g hg
  have h0 := hd 0 (by decide)
  have h1 := hd 1 (by decide)
  have h2 := hd 2 (by decide)
  have h3 := hd 3 (by decide)
  have h4 := p2_8 hc
  unfold hAt mkW pk4
  rcases (show g = 0 ∨ g = 1 ∨ g = 2 ∨ g = 3 by omega) with rfl | rfl | rfl | rfl
  · show _ / 1 % 256 = _; omega
  · show _ / 256 % 256 = _; omega
  · show _ / 65536 % 256 = _; omega
  · show _ / 16777216 % 256 = _; omega
theorem hAt_mk4 {c n : Nat} {dl w : Nat → Nat} (hd : ∀ g, g < 4 → dl g < 256) (hc : c < 8) : hAt (mkW c dl w n) 4 = 2 ^ c := by
  have h0 := hd 0 (by decide)
  have h1 := hd 1 (by decide)
  have h2 := hd 2 (by decide)
  have h3 := hd 3 (by decide)
  have h4 := p2_8 hc
  unfold hAt mkW pk4
  show _ / 4294967296 % 256 = _; omega
theorem hi_mk {c n : Nat} {dl w : Nat → Nat} (hd : ∀ g, g < 4 → dl g < 256) (hc : c < 8) : mkW c dl w n / 1099511627776 = wsm w n := by
  have h0 := hd 0 (by decide)
  have h1 := hd 1 (by decide)
  have h2 := hd 2 (by decide)
  have h3 := hd 3 (by decide)
  have h4 := p2_8 hc
  unfold mkW pk4
  omega
theorem hAt_bit {d p c : Nat} (h : c < 8) : (hAt d p).testBit c = d.testBit (8 * p + c) := by
  unfold hAt
  rw [show (256 : Nat) = 2 ^ 8 from rfl, Nat.testBit_mod_two_pow, Nat.testBit_div_two_pow, decide_eq_true h, Bool.true_and, Nat.add_comm]
theorem wsm_bit {w : Nat → Nat} : ∀ n, n ≤ 4 → (∀ g, g < n → w g ≤ 1) → ∀ g, g < n → wsm w n / 2 ^ g % 2 = w g := by
  intro n hn hw g hg
  rcases (show n = 0 ∨ n = 1 ∨ n = 2 ∨ n = 3 ∨ n = 4 by omega) with rfl | rfl | rfl | rfl | rfl
  · omega
  · have a0 := hw 0 (by decide)
    rcases (show g = 0 by omega) with rfl
    simp only [wsm, Nat.zero_add, Nat.reducePow, Nat.one_mul, Nat.div_one]; omega
  · have a0 := hw 0 (by decide)
    have a1 := hw 1 (by decide)
    rcases (show g = 0 ∨ g = 1 by omega) with rfl | rfl <;> simp only [wsm, Nat.zero_add, Nat.reducePow, Nat.one_mul, Nat.div_one] <;> omega
  · have a0 := hw 0 (by decide)
    have a1 := hw 1 (by decide)
    have a2 := hw 2 (by decide)
    rcases (show g = 0 ∨ g = 1 ∨ g = 2 by omega) with rfl | rfl | rfl <;> simp only [wsm, Nat.zero_add, Nat.reducePow, Nat.one_mul, Nat.div_one] <;> omega
  · have a0 := hw 0 (by decide)
    have a1 := hw 1 (by decide)
    have a2 := hw 2 (by decide)
    have a3 := hw 3 (by decide)
    rcases (show g = 0 ∨ g = 1 ∨ g = 2 ∨ g = 3 by omega) with rfl | rfl | rfl | rfl <;> simp only [wsm, Nat.zero_add, Nat.reducePow, Nat.one_mul, Nat.div_one] <;> omega
theorem wr_mk {c n : Nat} {dl w : Nat → Nat} (hd : ∀ g, g < 4 → dl g < 256) (hc : c < 8) (hn : n ≤ 4) (hw : ∀ g, g < n → w g ≤ 1) : ∀ g, g < n → mkW c dl w n / 2 ^ (40 + g) % 2 = w g := by
  intro g hg
  rw [Nat.pow_add, ← Nat.div_div_eq_div_mul, show (2 : Nat) ^ 40 = 1099511627776 from rfl, hi_mk hd hc]
  exact wsm_bit n hn hw g hg
/-- the counts over a row of deals -/
def sW (P : List Nat) : Nat → Nat := fun c => if c < 8 then P.countP (fun d => d.testBit (32 + c)) else 0
def sH (n : Nat) (P : List Nat) : Nat → Nat := fun j => if j < 8 * n then P.countP (fun d => d.testBit j) else 0
def aS (P : List Nat) (g : Nat) : Nat := P.foldl (fun a d => a &&& hAt d g) 255
def aM (P : List Nat) (g : Nat) : Nat := P.foldl (fun a d => a ||| hAt d g) 0
def sS (n : Nat) (P : List Nat) : Nat → Nat := fun g => if g < n then aS P g else 255
def sM (n : Nat) (P : List Nat) : Nat → Nat := fun g => if g < n then aM P g else 0
def sL (n : Nat) (P : List Nat) : Nat → Nat := fun g => if g < n then P.countP (fun d => d.testBit (40 + g)) else 0
def sQ (q : Nat) (P : List Nat) : Nat → Nat := fun j => P.countP (fun d => 2 * hAt d q + d / 2 ^ (40 + q) % 2 == j)
/-- a row that is new up to a place -/
def mxP (i : Nat) (A B : Nat → Nat) : Nat → Nat := fun j => if j < i then A j else B j
theorem mxP_0 (A B : Nat → Nat) : mxP 0 A B = B := by funext j; exact if_neg (Nat.not_lt_zero j)
theorem mxP_at (i : Nat) (A B : Nat → Nat) : mxP i A B i = B i := if_neg (Nat.lt_irrefl i)
theorem mxP_s (i x : Nat) (A B : Nat → Nat) (h : x = A i) : va_up (mxP i A B) i x = mxP (i + 1) A B := by
  subst h
  funext j
  unfold va_up mxP
  by_cases e : j = i
  · subst e; rw [if_pos rfl, if_pos (by omega)]
  · rw [if_neg e]
    by_cases h : j < i
    · rw [if_pos h, if_pos (by omega)]
    · rw [if_neg h, if_neg (by omega)]
theorem mxP_all {i : Nat} {A B : Nat → Nat} (h : ∀ j, i ≤ j → A j = B j) : mxP i A B = A := by
  funext j
  unfold mxP
  by_cases e : j < i
  · rw [if_pos e]
  · rw [if_neg e, h j (by omega)]
theorem bitN (d i : Nat) : (if d.testBit i then 1 else 0) = d / 2 ^ i % 2 := by
  rw [Nat.testBit_eq_decide_div_mod_eq]
  rcases (show d / 2 ^ i % 2 = 0 ∨ d / 2 ^ i % 2 = 1 by omega) with q | q <;> rw [q] <;> rfl
theorem sS_s {n g e : Nat} {P : List Nat} (h : g < n) : sS n P g &&& hAt e g = sS n (P ++ [e]) g := by
  unfold sS aS; rw [if_pos h, if_pos h, List.foldl_append]; rfl
theorem sM_s {n g e : Nat} {P : List Nat} (h : g < n) : sM n P g ||| hAt e g = sM n (P ++ [e]) g := by
  unfold sM aM; rw [if_pos h, if_pos h, List.foldl_append]; rfl
theorem sL_s {n g e : Nat} {P : List Nat} (h : g < n) : sL n P g + e / 2 ^ (40 + g) % 2 = sL n (P ++ [e]) g := by
  unfold sL; rw [if_pos h, if_pos h, cnt_app, bitN]
theorem sH_s {n j e : Nat} {P : List Nat} (h : j < 8 * n) : sH n P j + e / 2 ^ j % 2 = sH n (P ++ [e]) j := by
  unfold sH; rw [if_pos h, if_pos h, cnt_app, bitN]
theorem sS_o {n : Nat} (P R : List Nat) : ∀ j, n ≤ j → sS n P j = sS n R j := fun j h => by unfold sS; rw [if_neg (by omega), if_neg (by omega)]
theorem sM_o {n : Nat} (P R : List Nat) : ∀ j, n ≤ j → sM n P j = sM n R j := fun j h => by unfold sM; rw [if_neg (by omega), if_neg (by omega)]
theorem sL_o {n : Nat} (P R : List Nat) : ∀ j, n ≤ j → sL n P j = sL n R j := fun j h => by unfold sL; rw [if_neg (by omega), if_neg (by omega)]
theorem sH_o {n : Nat} (P R : List Nat) : ∀ j, 8 * n ≤ j → sH n P j = sH n R j := fun j h => by unfold sH; rw [if_neg (by omega), if_neg (by omega)]
theorem sW_s {c e : Nat} {P : List Nat} (hc : c < 8) (h : hAt e 4 = 2 ^ c) : va_up (sW P) c (sW P c + 1) = sW (P ++ [e]) := by
  funext j
  have hb : ∀ j, j < 8 → e.testBit (32 + j) = decide (c = j) := fun j hj => by
    rw [← Nat.testBit_two_pow, ← h, hAt_bit hj]
  unfold va_up sW
  by_cases e1 : j = c
  · subst e1
    rw [if_pos rfl, if_pos hc, if_pos hc, cnt_app, hb j hc, decide_eq_true rfl]; rfl
  · rw [if_neg e1]
    by_cases h8 : j < 8
    · rw [if_pos h8, if_pos h8, cnt_app, hb j h8, decide_eq_false (fun z => e1 z.symm)]; rfl
    · rw [if_neg h8, if_neg h8]
theorem sQ_s {q e x : Nat} {P : List Nat} (h : 2 * hAt e q + e / 2 ^ (40 + q) % 2 = x) : va_up (sQ q P) x (sQ q P x + 1) = sQ q (P ++ [e]) := by
  subst h
  funext j
  unfold va_up sQ
  rw [cnt_app]
  by_cases e1 : j = 2 * hAt e q + e / 2 ^ (40 + q) % 2
  · subst e1; rw [if_pos rfl]; simp
  · rw [if_neg e1]; simp; exact fun z => e1 z.symm
theorem sX_0 (n q : Nat) : sW [] = (fun _ => 0) ∧ sH n [] = (fun _ => 0) ∧ sM n [] = (fun _ => 0) ∧ sL n [] = (fun _ => 0) ∧ sQ q [] = (fun _ => 0) ∧ sS n [] = (fun _ => 255) := by
  refine ⟨?_, ?_, ?_, ?_, ?_, ?_⟩ <;> funext j
  · unfold sW; split <;> rfl
  · unfold sH; split <;> rfl
  · unfold sM; split <;> rfl
  · unfold sL; split <;> rfl
  · rfl
  · unfold sS; split <;> rfl
theorem sX_le (n q : Nat) (P : List Nat) (j : Nat) : sW P j ≤ P.length ∧ sH n P j ≤ P.length ∧ sL n P j ≤ P.length ∧ sQ q P j ≤ P.length := by
  refine ⟨?_, ?_, ?_, ?_⟩
  · unfold sW; split; exact List.countP_le_length; exact Nat.zero_le _
  · unfold sH; split; exact List.countP_le_length; exact Nat.zero_le _
  · unfold sL; split; exact List.countP_le_length; exact Nat.zero_le _
  · exact List.countP_le_length
def adP (nw : Nat → Nat) (c : Nat) (dl : Nat → Nat) (P : List Nat) : List Nat := if possD nw dl then P ++ [mkW c dl (fun g => wrK nw dl g (nw 7)) (nw 0)] else P
def dq (d0 d1 d2 d3 : Nat) : Nat → Nat := fun k => match k with
  | 0 => d0
  | 1 => d1
  | 2 => d2
  | _ => d3
theorem dq_lt {d0 d1 d2 d3 : Nat} (h0 : d0 < 256) (h1 : d1 < 256) (h2 : d2 < 256) (h3 : d3 < 256) : ∀ g, g < 4 → dq d0 d1 d2 d3 g < 256 := by
  intro g hg
  rcases (show g = 0 ∨ g = 1 ∨ g = 2 ∨ g = 3 by omega) with rfl | rfl | rfl | rfl
  · exact h0
  · exact h1
  · exact h2
  · exact h3
def cr3 (nw : Nat → Nat) (c d0 d1 lf : Nat) (P : List Nat) : Nat → List Nat
  | 0 => P
  | j + 1 => if j &&& nt lf = 0 ∧ pc8 j = nw 11 then adP nw c (dq d0 d1 j (lf &&& nt j)) (cr3 nw c d0 d1 lf P j) else cr3 nw c d0 d1 lf P j
def cr2 (nw : Nat → Nat) (c d0 rs : Nat) (P : List Nat) : Nat → List Nat
  | 0 => P
  | i + 1 => if i &&& nt rs = 0 ∧ pc8 i = nw 10 then cr3 nw c d0 i (rs &&& nt i) (cr2 nw c d0 rs P i) 256 else cr2 nw c d0 rs P i
def cr1 (nw : Nat → Nat) (c rs : Nat) (P : List Nat) : Nat → List Nat
  | 0 => P
  | i + 1 => if i &&& nt rs = 0 ∧ pc8 i = nw 9 then cr2 nw c i (rs &&& nt i) (cr1 nw c rs P i) 256 else cr1 nw c rs P i
def cr0 (nw : Nat → Nat) : Nat → List Nat
  | 0 => []
  | c + 1 => cr1 nw c (255 &&& nt (1 * 2 ^ c)) (cr0 nw c) 256
theorem cr3_y {nw : Nat → Nat} {c d0 d1 lf j : Nat} {P : List Nat} (h1 : j &&& nt lf = 0) (h2 : pc8 j = nw 11) : cr3 nw c d0 d1 lf P (j + 1) = adP nw c (dq d0 d1 j (lf &&& nt j)) (cr3 nw c d0 d1 lf P j) := if_pos ⟨h1, h2⟩
theorem cr3_n {nw : Nat → Nat} {c d0 d1 lf j : Nat} {P : List Nat} (h : ¬ (j &&& nt lf = 0 ∧ pc8 j = nw 11)) : cr3 nw c d0 d1 lf P (j + 1) = cr3 nw c d0 d1 lf P j := if_neg h
theorem cr2_y {nw : Nat → Nat} {c d0 rs i : Nat} {P : List Nat} (h1 : i &&& nt rs = 0) (h2 : pc8 i = nw 10) : cr2 nw c d0 rs P (i + 1) = cr3 nw c d0 i (rs &&& nt i) (cr2 nw c d0 rs P i) 256 := if_pos ⟨h1, h2⟩
theorem cr2_n {nw : Nat → Nat} {c d0 rs i : Nat} {P : List Nat} (h : ¬ (i &&& nt rs = 0 ∧ pc8 i = nw 10)) : cr2 nw c d0 rs P (i + 1) = cr2 nw c d0 rs P i := if_neg h
theorem cr1_y {nw : Nat → Nat} {c rs i : Nat} {P : List Nat} (h1 : i &&& nt rs = 0) (h2 : pc8 i = nw 9) : cr1 nw c rs P (i + 1) = cr2 nw c i (rs &&& nt i) (cr1 nw c rs P i) 256 := if_pos ⟨h1, h2⟩
theorem cr1_n {nw : Nat → Nat} {c rs i : Nat} {P : List Nat} (h : ¬ (i &&& nt rs = 0 ∧ pc8 i = nw 9)) : cr1 nw c rs P (i + 1) = cr1 nw c rs P i := if_neg h
theorem sm_and {a b : Nat} (h : a < 256) : a &&& b < 2 ^ 31 := Nat.lt_of_le_of_lt Nat.and_le_left (Nat.lt_trans h (by decide))
theorem an256 {a b : Nat} (h : a < 256) : a &&& b < 256 := Nat.lt_of_le_of_lt Nat.and_le_left h
theorem vu_ok {dx : Nat → Nat} {k x : Nat} (h : ∀ g, g < 4 → dx g < 256) (hx : x < 256) : ∀ g, g < 4 → va_up dx k x g < 256 := by
  intro g hg
  by_cases e : g = k
  · subst e; rw [vuS]; exact hx
  · rw [vuN e]; exact h g hg
def crA (nw : Nat → Nat) : List Nat := if 0 < nw 0 then cr0 nw 8 else []
theorem crA_y {nw : Nat → Nat} (h : 0 < nw 0) : crA nw = cr0 nw 8 := if_pos h
theorem crA_n {nw : Nat → Nat} (h : ¬ 0 < nw 0) : crA nw = cr0 nw 0 := if_neg h
theorem up_z {f : Nat → Nat} {k x : Nat} (h : ∀ j, j < k → f j = x) : ∀ j, j < k + 1 → va_up f k x j = x := by
  intro j hj
  by_cases e : j = k
  · subst e; exact vuS _ _ _
  · rw [vuN e]; exact h j (by omega)
