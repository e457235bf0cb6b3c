/-! plain words: hands as sets, the row of deals -/
def pc8 (x : Nat) : Nat := x % 2 + x / 2 % 2 + x / 4 % 2 + x / 8 % 2 + x / 16 % 2 + x / 32 % 2 + x / 64 % 2 + x / 128 % 2
def hAt (d p : Nat) : Nat := d / 2 ^ (8 * p) % 256
theorem hAt_lt (d p : Nat) : hAt d p < 256 := Nat.mod_lt _ (by decide)
theorem hAt_and (d p : Nat) : d / 2 ^ (8 * p) &&& 255 = hAt d p := Nat.and_two_pow_sub_one_eq_mod _ 8
def DRep (L : List Nat) (f : Nat → Int64) : Prop := ∀ i, i < L.length → f i = lN (L.getD i 0)
def andL (L : List Nat) : Nat := L.foldl (· &&& ·) 18446744073709551615
def orL (L : List Nat) : Nat := L.foldl (· ||| ·) 0
theorem andL_add (L : List Nat) (d : Nat) : andL (L ++ [d]) = andL L &&& d := by simp [andL, List.foldl_append]
theorem orL_add (L : List Nat) (d : Nat) : orL (L ++ [d]) = orL L ||| d := by simp [orL, List.foldl_append]
theorem len_add (L : List Nat) (d : Nat) : (L ++ [d]).length = L.length + 1 := by simp
theorem DRep_nil (f : Nat → Int64) : DRep [] f := fun i h => absurd h (Nat.not_lt_zero i)
theorem DRep_add {L : List Nat} {f : Nat → Int64} (h : DRep L f) (d : Nat) : DRep (L ++ [d]) (vp_updL f L.length (lN d)) := by
  intro i hi
  rw [len_add] at hi
  by_cases e : i = L.length
  · subst e
    rw [pk_uLs]
    congr 1
    simp [List.getD]
  · rw [pk_uLn e, h i (by omega)]
    congr 1
    simp only [List.getD]
    rw [List.getElem?_append_left (by omega)]
/-- the JDK's bitCount, step by step -/
def bcU (v : Int32) (k : Int32) : Int32 := (v.toUInt32 >>> (k.toUInt32 &&& Int32.toUInt32 31)).toInt32
def bc1 (v : Int32) : Int32 := v - (bcU v (nI 1) &&& nI 1431655765)
def bc2 (v : Int32) : Int32 := (v &&& nI 858993459) + (bcU v (nI 2) &&& nI 858993459)
def bc3 (v : Int32) : Int32 := (v + bcU v (nI 4)) &&& nI 252645135
def bc4 (v : Int32) : Int32 := v + bcU v (nI 8)
def bc5 (v : Int32) : Int32 := v + bcU v (nI 16)
theorem bc_ok : ∀ x, x < 256 → bc5 (bc4 (bc3 (bc2 (bc1 (nI x))))) &&& nI 63 = nI (pc8 x) := by decide +kernel
theorem p2_63 {b : Nat} (h : b ≤ 62) : 2 ^ b < 2 ^ 63 := Nat.pow_lt_pow_right (by decide) (by omega)
theorem and_p2 (x : Nat) {b : Nat} (h : b ≤ 62) : x &&& 2 ^ b < 2 ^ 63 := Nat.lt_of_le_of_lt Nat.and_le_right (p2_63 h)
theorem tb_0 {x b : Nat} (h : x &&& 2 ^ b = 0) : x.testBit b = false := (fb_bit_nat x b).mp h
theorem tb_1 {x b : Nat} (h : ¬ x &&& 2 ^ b = 0) : x.testBit b = true := by
  cases e : x.testBit b with
  | true => rfl
  | false => exact absurd ((fb_bit_nat x b).mpr e) h
theorem take_s {α : Type} {L : List α} {i : Nat} (d : α) (h : i < L.length) : L.take (i + 1) = L.take i ++ [L.getD i d] := by
  rw [List.take_add_one, List.getElem?_eq_getElem h]
  simp [List.getD, List.getElem?_eq_getElem h]
/-- how many of the first i have a bit -/
def cwN (L : List Nat) (b i : Nat) : Nat := (L.take i).countP (fun d => d.testBit b)
theorem cwN_t {L : List Nat} {b i : Nat} (hi : i < L.length) (h : ¬ L.getD i 0 &&& 2 ^ b = 0) : cwN L b (i + 1) = cwN L b i + 1 := by
  unfold cwN
  rw [take_s 0 hi, List.countP_append, List.countP_singleton, if_pos (tb_1 h)]
theorem cwN_f {L : List Nat} {b i : Nat} (hi : i < L.length) (h : L.getD i 0 &&& 2 ^ b = 0) : cwN L b (i + 1) = cwN L b i := by
  unfold cwN
  rw [take_s 0 hi, List.countP_append, List.countP_singleton, if_neg (by rw [tb_0 h]; decide)]; rfl
theorem cwN_le (L : List Nat) (b i : Nat) : cwN L b i ≤ i := by
  unfold cwN
  exact Nat.le_trans List.countP_le_length (by rw [List.length_take]; exact Nat.min_le_left _ _)
/-- a filter of the first i, with a change -/
def fmN (F : Nat → Option Nat) (L : List Nat) (i : Nat) : List Nat := (L.take i).filterMap F
theorem fmN_s {F : Nat → Option Nat} {L : List Nat} {i v : Nat} (hi : i < L.length) (h : F (L.getD i 0) = some v) : fmN F L (i + 1) = fmN F L i ++ [v] := by
  unfold fmN
  rw [take_s 0 hi, List.filterMap_append, List.filterMap_cons_some h, List.filterMap_nil]
theorem fmN_n {F : Nat → Option Nat} {L : List Nat} {i : Nat} (hi : i < L.length) (h : F (L.getD i 0) = none) : fmN F L (i + 1) = fmN F L i := by
  unfold fmN
  rw [take_s 0 hi, List.filterMap_append, List.filterMap_cons_none h, List.filterMap_nil, List.append_nil]
theorem fmN_le (F : Nat → Option Nat) (L : List Nat) (i : Nat) : (fmN F L i).length ≤ i := by
  unfold fmN
  exact Nat.le_trans (List.length_filterMap_le _ _) (by rw [List.length_take]; exact Nat.min_le_left _ _)
/-- what is left of a deal behind a proof -/
def stP (b : Nat) (held : Bool) (d : Nat) : Option Nat := if d.testBit b = held then some d else none
/-- what is left of a deal behind an answer -/
def stA (g cards ans : Nat) (d : Nat) : Option Nat := if pc8 (hAt d g &&& cards) = ans then some d else if d.testBit (40 + g) = false then some (d ||| 2 ^ (40 + g)) else none
theorem updL_ge {f : Nat → Int64} {k j : Nat} {x : Int64} (h : k < j) : vp_updL f k x j = f j := pk_uLn (by omega)
theorem pc8_le (x : Nat) : pc8 x ≤ 8 := by unfold pc8; omega
theorem getD_lt {L : List Nat} {B i : Nat} (h : ∀ d ∈ L, d < B) (hi : i < L.length) : L.getD i 0 < B := by
  simp only [List.getD, List.getElem?_eq_getElem hi, Option.getD_some]
  exact h _ (List.getElem_mem hi)
theorem andL_le (L : List Nat) : ∀ a, L.foldl (· &&& ·) a ≤ a := by
  induction L with
  | nil => intro a; exact Nat.le_refl _
  | cons x L ih => intro a; exact Nat.le_trans (ih (a &&& x)) Nat.and_le_left
theorem andL_lt (L : List Nat) : andL L < 2 ^ 64 := Nat.lt_of_le_of_lt (andL_le L _) (by decide)
theorem orL_lt0 {L : List Nat} : ∀ a, a < 2 ^ 44 → (∀ d ∈ L, d < 2 ^ 44) → L.foldl (· ||| ·) a < 2 ^ 44 := by
  induction L with
  | nil => intro a h _; exact h
  | cons x L ih => intro a h hB; exact ih _ (Nat.or_lt_two_pow h (hB x List.mem_cons_self)) (fun d hd => hB d (List.mem_cons_of_mem _ hd))
theorem orL_lt {L : List Nat} (h : ∀ d ∈ L, d < 2 ^ 44) : orL L < 2 ^ 64 := Nat.lt_trans (orL_lt0 0 (by decide) h) (by decide)
theorem stP_k1 {x b : Nat} {Hp : Prop} [Decidable Hp] (h : ¬ x &&& 2 ^ b = 0) (hp : Hp) : stP b (decide Hp) x = some x := if_pos (by rw [tb_1 h, decide_eq_true hp])
theorem stP_k0 {x b : Nat} {Hp : Prop} [Decidable Hp] (h : x &&& 2 ^ b = 0) (hp : ¬ Hp) : stP b (decide Hp) x = some x := if_pos (by rw [tb_0 h, decide_eq_false hp])
theorem stP_d1 {x b : Nat} {Hp : Prop} [Decidable Hp] (h : ¬ x &&& 2 ^ b = 0) (hp : ¬ Hp) : stP b (decide Hp) x = none := if_neg (by rw [tb_1 h, decide_eq_false hp]; decide)
theorem stP_d0 {x b : Nat} {Hp : Prop} [Decidable Hp] (h : x &&& 2 ^ b = 0) (hp : Hp) : stP b (decide Hp) x = none := if_neg (by rw [tb_0 h, decide_eq_true hp]; decide)
theorem stA_e {g cards ans d : Nat} (h : pc8 (hAt d g &&& cards) = ans) : stA g cards ans d = some d := if_pos h
theorem stA_w {g cards ans d : Nat} (h : ¬ pc8 (hAt d g &&& cards) = ans) (h2 : d &&& 2 ^ (40 + g) = 0) : stA g cards ans d = some (d ||| 2 ^ (40 + g)) := by
  unfold stA; rw [if_neg h, if_pos (tb_0 h2)]
theorem stA_n {g cards ans d : Nat} (h : ¬ pc8 (hAt d g &&& cards) = ans) (h2 : ¬ d &&& 2 ^ (40 + g) = 0) : stA g cards ans d = none := by
  unfold stA; rw [if_neg h, if_neg (by rw [tb_1 h2]; decide)]
/-- how many cards are at a place (the guests' hands 0 to 3, the culprit's 4) -/
def szH (n q : Nat) : Nat := if n = 3 then (match q with | 0 => 3 | 1 => 2 | 2 => 2 | 3 => 0 | _ => 1) else (match q with | 0 => 2 | 1 => 2 | 2 => 2 | 3 => 1 | _ => 1)
theorem xt3_sz : ∀ q, q < 5 → xt_3 q = nI (szH 3 q) := by decide
theorem xt4_sz : ∀ q, q < 5 → xt_4 q = nI (szH 4 q) := by decide
theorem szH_le : ∀ n q, szH n q ≤ 3 := by
  intro n q; unfold szH; split
  · match q with | 0 => decide | 1 => decide | 2 => decide | 3 => decide | _ + 4 => simp
  · match q with | 0 => decide | 1 => decide | 2 => decide | 3 => decide | _ + 4 => simp
