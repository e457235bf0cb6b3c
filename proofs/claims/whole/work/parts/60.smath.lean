/-! the reference's possible deals out of the raw row -/
theorem wrK_cg {nw dl dl' : Nat → Nat} {g : Nat} (h : dl g = dl' g) : ∀ k, wrK nw dl g k = wrK nw dl' g k
  | 0 => rfl
  | k + 1 => by
    show wrK nw dl g k + _ = wrK nw dl' g k + _
    rw [wrK_cg h k, h]
theorem wsm_cg {w w' : Nat → Nat} : ∀ n, (∀ g, g < n → w g = w' g) → wsm w n = wsm w' n
  | 0, _ => rfl
  | n + 1, h => by
    show wsm w n + _ = wsm w' n + _
    rw [wsm_cg n (fun g hg => h g (by omega)), h n (by omega)]
theorem possD_cg {nw dl dl' : Nat → Nat} (h : ∀ g, g < nw 0 → dl g = dl' g) : possD nw dl ↔ possD nw dl' := by
  constructor
  · intro z
    refine ⟨fun g hg => ?_, fun g hg => ?_⟩
    · rw [← h g hg]; exact z.1 g hg
    · rw [← wrK_cg (h g hg)]; exact z.2 g hg
  · intro z
    refine ⟨fun g hg => ?_, fun g hg => ?_⟩
    · rw [h g hg]; exact z.1 g hg
    · rw [wrK_cg (h g hg)]; exact z.2 g hg
theorem hAt_pk {c : Nat} {dl : Nat → Nat} (hd : ∀ g, g < 4 → dl g < 256) (hc : c < 8) : ∀ g, g < 4 → hAt (pk4 c dl) g = dl g := by
  intro g hg
  have h := hAt_mk (n := 0) (w := fun _ => 0) hd hc g hg
  have e : mkW c dl (fun _ => 0) 0 = pk4 c dl := by unfold mkW wsm; rfl
  rwa [e] at h
theorem mkN_y {nw : Nat → Nat} {d : Nat} (h : possD nw (hAt d)) : mkN nw d = some (d + 1099511627776 * wsm (fun g => wrK nw (hAt d) g (nw 7)) (nw 0)) := if_pos h
theorem mkN_n {nw : Nat → Nat} {d : Nat} (h : ¬ possD nw (hAt d)) : mkN nw d = none := if_neg h
theorem adP_mk {nw dl : Nat → Nat} {c : Nat} {P : List Nat} (hn : nw 0 ≤ 4) (hd : ∀ g, g < 4 → dl g < 256) (hc : c < 8) : adP nw c dl P = P ++ [pk4 c dl].filterMap (mkN nw) := by
  have e : ∀ g, g < nw 0 → hAt (pk4 c dl) g = dl g := fun g hg => hAt_pk hd hc g (by omega)
  by_cases h : possD nw dl
  · have h2 := (possD_cg e).mpr h
    rw [List.filterMap_cons_some (mkN_y h2), List.filterMap_nil, show adP nw c dl P = P ++ [mkW c dl (fun g => wrK nw dl g (nw 7)) (nw 0)] from if_pos h]
    unfold mkW
    rw [wsm_cg (nw 0) (fun g hg => wrK_cg (e g hg) (nw 7))]
  · have h2 : ¬ possD nw (hAt (pk4 c dl)) := fun z => h ((possD_cg e).mp z)
    rw [List.filterMap_cons_none (mkN_n h2), List.filterMap_nil, List.append_nil]
    exact if_neg h
theorem lsT_lt {rs k : Nat} : ∀ m, ∀ i ∈ lsT rs k m, i < m ∧ i &&& nt rs = 0 ∧ pc8 i = k
  | 0, i, h => by cases h
  | m + 1, i, h => by
    have h1 : i ∈ (if m &&& nt rs = 0 ∧ pc8 m = k then lsT rs k m ++ [m] else lsT rs k m) := h
    by_cases e : m &&& nt rs = 0 ∧ pc8 m = k
    · rw [if_pos e] at h1
      rcases List.mem_append.mp h1 with q | q
      · have := lsT_lt m i q; exact ⟨by omega, this.2⟩
      · rw [List.mem_singleton.mp q]; exact ⟨by omega, e⟩
    · rw [if_neg e] at h1
      have := lsT_lt m i h1; exact ⟨by omega, this.2⟩
theorem bndL_app (f : Nat → List Nat) : ∀ a b, bndL (a ++ b) f = bndL a f ++ bndL b f
  | [], b => rfl
  | x :: a, b => by
    show f x ++ bndL (a ++ b) f = f x ++ bndL a f ++ bndL b f
    rw [bndL_app f a b, List.append_assoc]
theorem bndL_1 (f : Nat → List Nat) (x : Nat) : bndL [x] f = f x := by show f x ++ [] = f x; exact List.append_nil _
theorem cr3_raw {nw : Nat → Nat} {c d0 d1 lf : Nat} {P : List Nat} (hn : nw 0 ≤ 4) (hc : c < 8) (h0 : d0 < 256) (h1 : d1 < 256) (hl : lf < 256) : ∀ j, j ≤ 256 → cr3 nw c d0 d1 lf P j = P ++ ((lsT lf (nw 11) j).map (fun i => pk4 c (dq d0 d1 i (lf &&& nt i)))).filterMap (mkN nw)
  | 0, _ => by show P = P ++ []; rw [List.append_nil]
  | j + 1, hj => by
    by_cases e : j &&& nt lf = 0 ∧ pc8 j = nw 11
    · rw [cr3_y e.1 e.2, cr3_raw hn hc h0 h1 hl j (by omega), adP_mk hn (dq_lt h0 h1 (by omega) (an256 hl)) hc, show lsT lf (nw 11) (j + 1) = lsT lf (nw 11) j ++ [j] from if_pos e, List.map_append, List.filterMap_append, List.append_assoc]; rfl
    · rw [cr3_n e, cr3_raw hn hc h0 h1 hl j (by omega), show lsT lf (nw 11) (j + 1) = lsT lf (nw 11) j from if_neg e]
theorem cr2_raw {nw : Nat → Nat} {c d0 rs : Nat} {P : List Nat} (hn : nw 0 ≤ 4) (hc : c < 8) (h0 : d0 < 256) (hr : rs < 256) : ∀ j, j ≤ 256 → cr2 nw c d0 rs P j = P ++ (bndL (lsT rs (nw 10) j) (fun i => rw3 c d0 i (rs &&& nt i) (nw 11))).filterMap (mkN nw)
  | 0, _ => by show P = P ++ []; rw [List.append_nil]
  | j + 1, hj => by
    by_cases e : j &&& nt rs = 0 ∧ pc8 j = nw 10
    · rw [cr2_y e.1 e.2, cr2_raw hn hc h0 hr j (by omega), cr3_raw hn hc h0 (show j < 256 by omega) (an256 hr) 256 (Nat.le_refl _), show lsT rs (nw 10) (j + 1) = lsT rs (nw 10) j ++ [j] from if_pos e, bndL_app, bndL_1, List.filterMap_append, List.append_assoc]
      unfold rw3
      rw [subA_ls, List.append_nil]
    · rw [cr2_n e, cr2_raw hn hc h0 hr j (by omega), show lsT rs (nw 10) (j + 1) = lsT rs (nw 10) j from if_neg e]
theorem cr1_raw {nw : Nat → Nat} {c rs : Nat} {P : List Nat} (hn : nw 0 ≤ 4) (hc : c < 8) (hr : rs < 256) : ∀ j, j ≤ 256 → cr1 nw c rs P j = P ++ (bndL (lsT rs (nw 9) j) (fun i => rw2 c i (rs &&& nt i) (nw 10) (nw 11))).filterMap (mkN nw)
  | 0, _ => by show P = P ++ []; rw [List.append_nil]
  | j + 1, hj => by
    by_cases e : j &&& nt rs = 0 ∧ pc8 j = nw 9
    · rw [cr1_y e.1 e.2, cr1_raw hn hc hr j (by omega), cr2_raw hn hc (show j < 256 by omega) (an256 hr) 256 (Nat.le_refl _), show lsT rs (nw 9) (j + 1) = lsT rs (nw 9) j ++ [j] from if_pos e, bndL_app, bndL_1, List.filterMap_append, List.append_assoc]
      unfold rw2
      rw [subA_ls, List.append_nil]
    · rw [cr1_n e, cr1_raw hn hc hr j (by omega), show lsT rs (nw 9) (j + 1) = lsT rs (nw 9) j from if_neg e]
theorem cr0_raw {nw : Nat → Nat} (hn : nw 0 ≤ 4) : ∀ c, c ≤ 8 → cr0 nw c = (rw0 (nw 9) (nw 10) (nw 11) c).filterMap (mkN nw)
  | 0, _ => rfl
  | c + 1, hc => by
    show cr1 nw c (255 &&& nt (1 * 2 ^ c)) (cr0 nw c) 256 = (rw0 (nw 9) (nw 10) (nw 11) c ++ rw1 c (255 &&& nt (1 * 2 ^ c)) (nw 9) (nw 10) (nw 11)).filterMap (mkN nw)
    rw [cr1_raw hn (by omega) (an256 (by decide)) 256 (Nat.le_refl _), cr0_raw hn c (by omega), List.filterMap_append]
    unfold rw1
    rw [subA_ls, List.append_nil]
theorem crA_perm {nw : Nat → Nat} (hn : nw 0 = 3 ∨ nw 0 = 4) (h9 : nw 9 = szH (nw 0) 0) (h10 : nw 10 = szH (nw 0) 1) (h11 : nw 11 = szH (nw 0) 2) : (crA nw).Perm ((ext (nw 0) 8 0).filterMap (mkN nw)) := by
  rw [crA_y (by omega), cr0_raw (by omega) 8 (Nat.le_refl _), h9, h10, h11]
  exact (raw_perm hn).filterMap _
/-- what a row's deals depend on -/
theorem wrK_nw {nw nw' dl : Nat → Nat} {g : Nat} : ∀ k, (∀ i, i < k → nw (41 + 3 * i) = nw' (41 + 3 * i) ∧ nw (41 + 3 * i + 1) = nw' (41 + 3 * i + 1) ∧ nw (41 + 3 * i + 2) = nw' (41 + 3 * i + 2)) → wrK nw dl g k = wrK nw' dl g k
  | 0, _ => rfl
  | k + 1, h => by
    show wrK nw dl g k + _ = wrK nw' dl g k + _
    rw [wrK_nw k (fun i hi => h i (by omega)), (h k (by omega)).1, (h k (by omega)).2.1, (h k (by omega)).2.2]
theorem possD_nw {nw nw' dl : Nat → Nat} (h0 : nw 0 = nw' 0) (h7 : nw 7 = nw' 7) (hh : ∀ g, g < nw 0 → nw (33 + g) = nw' (33 + g) ∧ nw (37 + g) = nw' (37 + g)) (hq : ∀ i, i < nw 7 → nw (41 + 3 * i) = nw' (41 + 3 * i) ∧ nw (41 + 3 * i + 1) = nw' (41 + 3 * i + 1) ∧ nw (41 + 3 * i + 2) = nw' (41 + 3 * i + 2)) : possD nw dl ↔ possD nw' dl := by
  have e : ∀ g, wrK nw dl g (nw 7) = wrK nw' dl g (nw' 7) := fun g => by rw [← h7]; exact wrK_nw _ hq
  constructor
  · intro z
    refine ⟨fun g hg => ?_, fun g hg => ?_⟩
    · rw [← (hh g (by omega)).1, ← (hh g (by omega)).2]; exact z.1 g (by omega)
    · rw [← e]; exact z.2 g (by omega)
  · intro z
    refine ⟨fun g hg => ?_, fun g hg => ?_⟩
    · rw [(hh g hg).1, (hh g hg).2]; exact z.1 g (by omega)
    · rw [e]; exact z.2 g (by omega)
theorem mkN_nw {nw nw' : Nat → Nat} (h0 : nw 0 = nw' 0) (h7 : nw 7 = nw' 7) (hh : ∀ g, g < nw 0 → nw (33 + g) = nw' (33 + g) ∧ nw (37 + g) = nw' (37 + g)) (hq : ∀ i, i < nw 7 → nw (41 + 3 * i) = nw' (41 + 3 * i) ∧ nw (41 + 3 * i + 1) = nw' (41 + 3 * i + 1) ∧ nw (41 + 3 * i + 2) = nw' (41 + 3 * i + 2)) (d : Nat) : mkN nw d = mkN nw' d := by
  by_cases h : possD nw (hAt d)
  · rw [mkN_y h, mkN_y ((possD_nw h0 h7 hh hq).mp h), ← h0, ← h7, wsm_cg (nw 0) (fun g _ => wrK_nw (nw' := nw') (nw 7) hq)]
  · rw [mkN_n h, mkN_n (fun z => h ((possD_nw h0 h7 hh hq).mpr z))]
theorem fm_cg {F G : Nat → Option Nat} : ∀ l : List Nat, (∀ x ∈ l, F x = G x) → l.filterMap F = l.filterMap G
  | [], _ => rfl
  | x :: l, h => by
    have h1 := h x List.mem_cons_self
    have h2 := fm_cg l (fun y hy => h y (List.mem_cons_of_mem _ hy))
    cases e : F x with
    | none => rw [List.filterMap_cons_none e, List.filterMap_cons_none (h1 ▸ e), h2]
    | some v => rw [List.filterMap_cons_some e, List.filterMap_cons_some (h1 ▸ e), h2]
theorem fm_some : ∀ l : List Nat, l.filterMap some = l
  | [] => rfl
  | x :: l => by rw [List.filterMap_cons_some rfl, fm_some l]
/-- a value's parts: the hands, the wrong answers -/
theorem hAt_v {d w g : Nat} (hd : d < 2 ^ 40) (hg : g ≤ 4) : hAt (d + 1099511627776 * w) g = hAt d g := by
  unfold hAt
  rcases (show g = 0 ∨ g = 1 ∨ g = 2 ∨ g = 3 ∨ g = 4 by omega) with rfl | rfl | rfl | rfl | rfl
  · show (d + 1099511627776 * w) / 1 % 256 = d / 1 % 256; omega
  · show (d + 1099511627776 * w) / 256 % 256 = d / 256 % 256; omega
  · show (d + 1099511627776 * w) / 65536 % 256 = d / 65536 % 256; omega
  · show (d + 1099511627776 * w) / 16777216 % 256 = d / 16777216 % 256; omega
  · show (d + 1099511627776 * w) / 4294967296 % 256 = d / 4294967296 % 256; omega
theorem hi_v {d w : Nat} (hd : d < 2 ^ 40) : (d + 1099511627776 * w) / 1099511627776 = w := by
  have : d < 1099511627776 := hd
  omega
theorem bit_v {d w : Nat → Nat} {D n g : Nat} (hd : D < 2 ^ 40) (hn : n ≤ 4) (hw : ∀ g, g < n → w g ≤ 1) (hg : g < n) : (D + 1099511627776 * wsm w n).testBit (40 + g) = decide (w g = 1) := by
  rw [Nat.testBit_eq_decide_div_mod_eq, Nat.pow_add, ← Nat.div_div_eq_div_mul, show (2 : Nat) ^ 40 = 1099511627776 from rfl, hi_v hd, wsm_bit n hn hw g hg]
theorem wsm_lt {w : Nat → Nat} : ∀ n, (∀ g, g < n → w g ≤ 1) → wsm w n < 2 ^ n
  | 0, _ => by show 0 < 2 ^ 0; decide
  | n + 1, h => by
    have h1 := wsm_lt n (fun g hg => h g (by omega))
    have h2 := h n (by omega)
    show wsm w n + 2 ^ n * w n < 2 ^ (n + 1)
    rw [Nat.pow_succ]
    have h3 : 2 ^ n * w n ≤ 2 ^ n * 1 := Nat.mul_le_mul_left _ h2
    omega
theorem wsm_up {w : Nat → Nat} {g : Nat} (h0 : w g = 0) : ∀ n, g < n → wsm (va_up w g 1) n = wsm w n + 2 ^ g
  | 0, h => absurd h (Nat.not_lt_zero _)
  | n + 1, h => by
    show wsm (va_up w g 1) n + 2 ^ n * va_up w g 1 n = wsm w n + 2 ^ n * w n + 2 ^ g
    by_cases e : g = n
    · subst e
      rw [vuS, h0, wsm_cg (w := va_up w g 1) (w' := w) g (fun i hi => vuN (by omega))]; omega
    · rw [wsm_up h0 n (by omega), vuN (fun z => e z.symm)]; omega
theorem or_bit {v b : Nat} (h : v.testBit b = false) : v ||| 2 ^ b = v + 2 ^ b := by
  have h0 : v / 2 ^ b % 2 = 0 := by
    rw [Nat.testBit_eq_decide_div_mod_eq] at h
    have := of_decide_eq_false h
    omega
  have e1 : v = 2 ^ (b+1) * (v / 2 ^ (b+1)) + v % 2 ^ b := by
    have a1 := Nat.div_add_mod v (2 ^ b)
    have a2 := Nat.div_add_mod (v / 2 ^ b) 2
    rw [h0, Nat.div_div_eq_div_mul, ← Nat.pow_succ] at a2
    rw [← a2, Nat.add_zero, ← Nat.mul_assoc, ← Nat.pow_succ] at a1
    exact a1.symm
  have l1 : v % 2 ^ b < 2 ^ b := Nat.mod_lt _ (Nat.two_pow_pos b)
  have l2 : v % 2 ^ b + 2 ^ b < 2 ^ (b+1) := by rw [Nat.pow_succ]; omega
  have o1 : 2 ^ b * 1 + v % 2 ^ b = 2 ^ b * 1 ||| v % 2 ^ b := Nat.two_pow_add_eq_or_of_lt l1 1
  rw [Nat.mul_one] at o1
  generalize v / 2 ^ (b+1) = q at e1
  generalize hr : v % 2 ^ b = r at *
  have l3 : r < 2 ^ (b+1) := by omega
  have e2 := Nat.two_pow_add_eq_or_of_lt l3 q
  have e3 := Nat.two_pow_add_eq_or_of_lt l2 q
  calc v ||| 2 ^ b = (2 ^ (b+1) * q ||| r) ||| 2 ^ b := by rw [← e2, ← e1]
    _ = 2 ^ (b+1) * q ||| (2 ^ b ||| r) := by rw [Nat.or_assoc, Nat.or_comm r]
    _ = 2 ^ (b+1) * q + (r + 2 ^ b) := by rw [← o1, Nat.add_comm (2 ^ b), ← e3]
    _ = v + 2 ^ b := by omega
