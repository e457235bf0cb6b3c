/-! the dealt deal is one of all deals -/
theorem extS_mem {E : Nat → List Nat} {n c d i X : Nat} (h : pc8 (hAt d i) < szH n i) (hX : X ∈ E (d ||| 2 ^ (8 * i + c))) : ∀ k, i < k → X ∈ extS E n c d k
  | 0, hk => absurd hk (Nat.not_lt_zero _)
  | k + 1, hk => by
    show X ∈ extS E n c d k ++ _
    by_cases e : i = k
    · subst e; rw [if_pos h]; exact List.mem_append_right _ hX
    · exact List.mem_append_left _ (extS_mem h hX k (by omega))
def pkA (a0 a1 a2 a3 e : Nat) : Nat := a0 + 256 * a1 + 65536 * a2 + 16777216 * a3 + 4294967296 * e
theorem hAt_A {a0 a1 a2 a3 e : Nat} (h0 : a0 < 256) (h1 : a1 < 256) (h2 : a2 < 256) (h3 : a3 < 256) (he : e < 256) : hAt (pkA a0 a1 a2 a3 e) 0 = a0 ∧ hAt (pkA a0 a1 a2 a3 e) 1 = a1 ∧ hAt (pkA a0 a1 a2 a3 e) 2 = a2 ∧ hAt (pkA a0 a1 a2 a3 e) 3 = a3 ∧ hAt (pkA a0 a1 a2 a3 e) 4 = e := by
  unfold hAt pkA
  refine ⟨?_, ?_, ?_, ?_, ?_⟩
  · show _ / 1 % 256 = _; omega
  · show _ / 256 % 256 = _; omega
  · show _ / 65536 % 256 = _; omega
  · show _ / 16777216 % 256 = _; omega
  · show _ / 4294967296 % 256 = _; omega
def pd (hd : Nat → Nat) (cul c : Nat) : Nat := pkA (hd 0) (hd 1) (hd 2) (hd 3) (if cul < c then 2 ^ cul else 0)
theorem or_p2 {h c : Nat} (hh : h < 2 ^ c) : h ||| 1 * 2 ^ c = h + 2 ^ c := by
  rw [Nat.one_mul]
  exact or_bit (Nat.testBit_lt_two_pow hh)
theorem deal_mem {n cul s0 : Nat} (hn : n = 3 ∨ n = 4) (hs : s0 < 2147483648) (hc : cul < 8) : ∀ m, m ≤ 8 → pk4 cul (dlS n cul s0 8).2.1 ∈ ext n m (pd (dlS n cul s0 (8 - m)).2.1 cul (8 - m))
  | 0, _ => by
    show _ ∈ [pd (dlS n cul s0 8).2.1 cul 8]
    rw [List.mem_singleton]
    unfold pd pkA pk4
    rw [if_pos hc]
  | m + 1, hm => by
    have ih := deal_mem hn hs hc m (by omega)
    obtain ⟨c, ec⟩ : ∃ c, c = 7 - m := ⟨_, rfl⟩
    have e8 : 8 - (m + 1) = c := by omega
    have e7 : 8 - m = c + 1 := by omega
    rw [e7] at ih
    rw [e8]
    show _ ∈ extS (ext n m) n (7 - m) _ 5
    rw [← ec]
    have hI := dl_inv (n := n) (s0 := s0) hs hc c (by omega)
    have hS := dl_sum hn hs hc c (by omega)
    have p8 : ∀ g, (dlS n cul s0 c).2.1 g < 256 := fun g => Nat.lt_of_lt_of_le (hI.2.1 g) (Nat.pow_le_pow_right (n := 2) (by decide) (show c ≤ 8 by omega))
    have pe : (if cul < c then 2 ^ cul else 0) < 256 := by split; exact p2_8 hc; decide
    have hA := hAt_A (p8 0) (p8 1) (p8 2) (p8 3) pe
    by_cases e : c = cul
    · rw [dlS_c e] at ih
      subst e
      refine extS_mem (i := 4) ?_ ?_ 5 (by decide)
      · rw [show hAt (pd (dlS n c s0 c).2.1 c c) 4 = _ from hA.2.2.2.2, if_neg (Nat.lt_irrefl _)]
        rcases hn with rfl | rfl <;> decide
      · have e1 : pd (dlS n c s0 c).2.1 c c ||| 2 ^ (8 * 4 + c) = pd (dlS n c s0 c).2.1 c (c + 1) := by
          have hlt : pd (dlS n c s0 c).2.1 c c < 2 ^ (8 * 4 + c) := by
            unfold pd pkA
            rw [if_neg (Nat.lt_irrefl _)]
            have q0 := p8 0; have q1 := p8 1; have q2 := p8 2; have q3 := p8 3
            have h32 : 4294967296 * 1 ≤ 2 ^ (8 * 4 + c) := by
              rw [Nat.pow_add]; exact Nat.mul_le_mul_left _ (Nat.one_le_two_pow)
            omega
          rw [or_bit (Nat.testBit_lt_two_pow hlt)]
          unfold pd pkA
          rw [if_neg (Nat.lt_irrefl _), if_pos (Nat.lt_succ_self _), Nat.pow_add]
          rw [show (2 : Nat) ^ (8 * 4) = 4294967296 from rfl, Nat.mul_zero, Nat.add_zero]
        rw [e1]; exact ih
    · have hG := hS.2 (by omega) e
      have hin : pc8 ((dlS n cul s0 c).2.1 (hoG n (dlS n cul s0 c).2.1 (drw (dlS n cul s0 c).1 (dlS n cul s0 c).2.2) n 0 0)) < szH n (hoG n (dlS n cul s0 c).2.1 (drw (dlS n cul s0 c).1 (dlS n cul s0 c).2.2) n 0 0) := by
        rcases hoG_in n 0 0 (Nat.lt_of_lt_of_eq hG (Nat.zero_add n).symm) with q | q
        · exact q
        · omega
      rw [dlS_n e] at ih
      have ih : pk4 cul (dlS n cul s0 8).2.1 ∈ ext n m (pd (giv n (dlS n cul s0 c).2.1 c (drw (dlS n cul s0 c).1 (dlS n cul s0 c).2.2)) cul (c + 1)) := ih
      rw [giv_in hG] at ih
      generalize hGG : hoG n (dlS n cul s0 c).2.1 (drw (dlS n cul s0 c).1 (dlS n cul s0 c).2.2) n 0 0 = G at hG hin ih
      have hcc : (if cul < c + 1 then 2 ^ cul else 0) = (if cul < c then 2 ^ cul else 0) := by
        by_cases z : cul < c
        · rw [if_pos z, if_pos (by omega)]
        · rw [if_neg z, if_neg (by omega)]
      have hb := hI.2.1 G
      generalize hdd : (dlS n cul s0 c).2.1 = hd at p8 hA hin ih hb
      generalize hee : (if cul < c then 2 ^ cul else 0) = ee at pe hA hcc
      have epd : pd hd cul c = pkA (hd 0) (hd 1) (hd 2) (hd 3) ee := by unfold pd; rw [hee]
      have hAG : hAt (pd hd cul c) G = hd G := by
        rw [epd]
        rcases (show G = 0 ∨ G = 1 ∨ G = 2 ∨ G = 3 by omega) with rfl | rfl | rfl | rfl
        · exact hA.1
        · exact hA.2.1
        · exact hA.2.2.1
        · exact hA.2.2.2.1
      refine extS_mem (i := G) (by rw [hAG]; exact hin) ?_ 5 (by omega)
      have hbit : (pd hd cul c).testBit (8 * G + c) = false := by
        rw [← hAt_bit (show c < 8 by omega), hAG]
        exact Nat.testBit_lt_two_pow hb
      have e1 : pd hd cul c ||| 2 ^ (8 * G + c) = pd (va_up hd G (hd G ||| 1 * 2 ^ c)) cul (c + 1) := by
        rw [or_bit hbit, epd, or_p2 hb]
        unfold pd pkA
        rw [hcc, Nat.pow_add]
        generalize 2 ^ c = P
        rcases (show G = 0 ∨ G = 1 ∨ G = 2 ∨ G = 3 by omega) with rfl | rfl | rfl | rfl
        · rw [vuS, vuN (show ¬ 1 = 0 by decide), vuN (show ¬ 2 = 0 by decide), vuN (show ¬ 3 = 0 by decide), show (2 : Nat) ^ (8 * 0) = 1 from rfl]; omega
        · rw [vuS, vuN (show ¬ 0 = 1 by decide), vuN (show ¬ 2 = 1 by decide), vuN (show ¬ 3 = 1 by decide), show (2 : Nat) ^ (8 * 1) = 256 from rfl]; omega
        · rw [vuS, vuN (show ¬ 0 = 2 by decide), vuN (show ¬ 1 = 2 by decide), vuN (show ¬ 3 = 2 by decide), show (2 : Nat) ^ (8 * 2) = 65536 from rfl]; omega
        · rw [vuS, vuN (show ¬ 0 = 3 by decide), vuN (show ¬ 1 = 3 by decide), vuN (show ¬ 2 = 3 by decide), show (2 : Nat) ^ (8 * 3) = 16777216 from rfl]; omega
      rw [e1]; exact ih
theorem deal_in {n cul s0 : Nat} (hn : n = 3 ∨ n = 4) (hs : s0 < 2147483648) (hc : cul < 8) : pk4 cul (dlS n cul s0 8).2.1 ∈ ext n 8 0 := by
  have h := deal_mem hn hs hc 8 (Nat.le_refl _)
  have e : pd (dlS n cul s0 (8 - 8)).2.1 cul (8 - 8) = 0 := by
    show pkA 0 0 0 0 (if cul < 0 then 2 ^ cul else 0) = 0
    rw [if_neg (Nat.not_lt_zero _)]; rfl
  rwa [e] at h
/-! an evening begins -/
theorem opD_nw {n : Nat} {x nw : Nat → Nat} {z : Int} (h : nw 3 = x 0) : opS (fun _ => nw 3) z = opS x z ∧ opD n (fun _ => nw 3) z = opD n x z := by
  have h1 : opS (fun _ => nw 3) z = opS x z := by unfold opS; rw [← h]
  refine ⟨h1, ?_⟩
  unfold opD opC
  rw [h1]
theorem bgN_at {n : Nat} {nw : Nat → Nat} {z : Int} (j : Nat) : bgN n nw z j = if j = 3 then (opD n (fun _ => nw 3) z).1 else if 13 ≤ j ∧ j < 17 then (opD n (fun _ => nw 3) z).2.1 (j - 13) else if j = 2 then drw (opS (fun _ => nw 3) z) 8 else if j = 0 then n else if j = 1 then 1 else if j < 7 then nw j else if 9 ≤ j ∧ j < 9 + n then szH n (j - 9) else if 17 ≤ j ∧ j < 17 + n then 1 else 0 := by
  unfold bgN bgR
  by_cases a3 : j = 3
  · rw [if_pos a3, if_pos a3]
  · rw [if_neg a3, if_neg a3]
    by_cases b : 13 ≤ j ∧ j < 17
    · rw [if_pos b, if_pos b]
    · rw [if_neg b, if_neg b]
      unfold bgV
      rw [if_neg a3]
      by_cases a2 : j = 2
      · rw [if_pos a2, if_pos a2]
      · rw [if_neg a2, if_neg a2]
        unfold bgW
        by_cases a0 : j = 0
        · rw [if_pos a0, if_pos a0]
        · rw [if_neg a0, if_neg a0]
          by_cases a1 : j = 1
          · rw [if_pos a1, if_pos a1]
          · rw [if_neg a1, if_neg a1, if_neg a3]
theorem bgN_hi {n : Nat} {nw : Nat → Nat} {z : Int} {j : Nat} (hn : n ≤ 4) (h : 21 ≤ j ∨ j = 7 ∨ j = 8) : bgN n nw z j = 0 := by
  rw [bgN_at, if_neg (by omega), if_neg (by omega), if_neg (by omega), if_neg (by omega), if_neg (by omega), if_neg (by omega), if_neg (by omega), if_neg (by omega)]
theorem opD_ok {n : Nat} {x : Nat → Nat} {z : Int} (hn : n = 3 ∨ n = 4) : (opD n x z).1 < 2147483648 ∧ ∀ g, (opD n x z).2.1 g < 256 := by
  have h := dl_inv (n := n) (cul := opC x z) (s0 := lcg (opS x z)) (lcg_lt _) (drw_lt _ (by decide)) 8 (Nat.le_refl _)
  exact ⟨h.1, fun g => h.2.1 g⟩
theorem Rel_bg {t n : Nat} {hd : Nat → Nat} {d : DT} {nw : Nat → Nat} {z : Int} (R : RelD t hd d nw) (hn : n = 3 ∨ n = 4) (hgo : d.1 2 = 0) : RelD t (opD n d.1 z).2.1 (opX n d.1 z, fun _ => 0, d.2.2.1, d.2.2.2.1, d.2.2.2.2.1, ext n 8 0) (bgN n nw z) := by
  obtain ⟨⟨a0, a1, a3, a4, a5, a6, a7, a8⟩, ⟨b1, b0, b2, b3, b4, b7, b8, b12⟩, ⟨c1, c2⟩, G, Qn, hL, hR, h256⟩ := R
  have eD := (opD_nw (n := n) (z := z) a3).2
  have eS := (opD_nw (n := n) (z := z) a3).1
  have hn4 : n ≤ 4 := by omega
  have hn0 : ¬ n = 0 := by omega
  have hok := opD_ok (x := d.1) (z := z) hn
  have hp : ∀ dl, possD (bgN n nw z) dl := fun dl => by
    refine ⟨fun g _ => ?_, fun g _ => ?_⟩
    · rw [bgN_hi hn4 (by omega), bgN_hi hn4 (by omega)]; exact ⟨Nat.zero_and _, Nat.zero_and _⟩
    · rw [bgN_hi (j := 7) hn4 (by omega)]; exact Nat.zero_le _
  refine ⟨⟨?_, ?_, ?_, ?_, ?_, ?_, ?_, ?_⟩, ⟨?_, hok.1, Nat.le_refl _, drw_lt _ (by decide), b4, ?_, Nat.zero_lt_succ _, Nat.zero_le _⟩, ⟨fun q => absurd q hn0, fun _ => ⟨?_, fun q => absurd (show (1 : Nat) = 0 from q) (by decide)⟩⟩, ?_, fun i hi => absurd hi (Nat.not_lt_zero i), ?_, ?_, hok.2⟩
  · rw [bgN_at]; rfl
  · rw [bgN_at]; rfl
  · rw [bgN_at, if_pos rfl, eD]; rfl
  · rw [bgN_at]; show nw 4 = d.1 4; exact a4
  · rw [bgN_at]; show nw 5 = d.1 5; exact a5
  · rw [bgN_at]; show nw 6 = d.1 6; exact a6
  · rw [bgN_hi hn4 (by omega)]; rfl
  · rw [bgN_hi hn4 (by omega)]; rfl
  · show n = 0 ∨ n = 3 ∨ n = 4; omega
  · show 1 * 2 ^ n - 1 < 2 ^ n; rcases hn with rfl | rfl <;> decide
  · rw [bgN_at, if_neg (by decide), if_neg (by decide), if_pos rfl, eS]; rfl
  · intro g hg
    refine ⟨?_, ?_, ?_, ?_, ?_, ?_, ?_, ?_⟩
    · rw [bgN_at, if_neg (by omega), if_neg (by omega), if_neg (by omega), if_neg (by omega), if_neg (by omega), if_neg (by omega)]
      show _ = if g < n then szH n g else 0
      by_cases e : g < n
      · rw [if_pos (by omega), if_pos e, show 9 + g - 9 = g by omega]
      · rw [if_neg (by omega), if_neg e, if_neg (by omega)]
    · rw [bgN_at, if_neg (by omega), if_pos (by omega), eD, show 13 + g - 13 = g by omega]
    · rw [bgN_at, if_neg (by omega), if_neg (by omega), if_neg (by omega), if_neg (by omega), if_neg (by omega), if_neg (by omega), if_neg (by omega)]
      show _ = (1 * 2 ^ n - 1) / 2 ^ g % 2
      by_cases e : g < n
      · rw [if_pos (by omega)]
        rcases hn with rfl | rfl
        · rcases (show g = 0 ∨ g = 1 ∨ g = 2 by omega) with rfl | rfl | rfl <;> decide
        · rcases (show g = 0 ∨ g = 1 ∨ g = 2 ∨ g = 3 by omega) with rfl | rfl | rfl | rfl <;> decide
      · rw [if_neg (by omega)]
        rcases hn with rfl | rfl
        · rcases (show g = 3 by omega) with rfl; decide
        · omega
    · rw [bgN_hi hn4 (by omega)]; show 0 = 0 / 2 ^ g % 2; rw [Nat.zero_div]
    · rw [bgN_hi hn4 (by omega)]; rfl
    · rw [bgN_hi hn4 (by omega)]
    · rw [bgN_hi hn4 (by omega)]; decide
    · rw [bgN_hi hn4 (by omega)]; decide
  · intro _
    show ext n 8 0 = (ext n 8 0).filterMap (mkN (bgN n nw z))
    rw [fm_cg (F := mkN (bgN n nw z)) (G := some) (ext n 8 0) (fun D _ => ?_), fm_some]
    rw [mkN_y (hp _), bgN_hi (j := 7) hn4 (by omega), wsm_cg (w := fun g => wrK (bgN n nw z) (hAt D) g 0) (w' := fun _ => 0) _ (fun _ _ => rfl)]
    have e0 : ∀ m, wsm (fun _ => 0) m = 0 := fun m => by
      induction m with
      | zero => rfl
      | succ m ih => show wsm (fun _ => 0) m + 2 ^ m * 0 = 0; rw [ih, Nat.mul_zero]
    rw [e0, Nat.mul_zero, Nat.add_zero]
  · intro _
    refine ⟨deal_in hn (lcg_lt _) (drw_lt _ (by decide)), fun g hg => ?_⟩
    have hg : g < n := hg
    rw [bgN_hi hn4 (by omega), bgN_hi hn4 (by omega), bgN_hi (j := 7) hn4 (by omega)]
    exact ⟨Nat.zero_and _, Nat.zero_and _, Nat.zero_le _⟩
