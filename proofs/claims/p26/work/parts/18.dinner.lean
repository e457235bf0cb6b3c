set_option maxHeartbeats 4000000 in
set_option maxRecDepth 100000 in
theorem kX1_hasGuest (ll : Launch) (Y : GY) (a : Nat → Nat) (x : Nat → Nat) (g : Int32) (h1 : x 1 ≤ 4) : CT ll yX1_hasGuest wsX1_hasGuest { frames := 0, cells := 0, slots := 0, locals := 0 } Y [.ref (a 0), .int g] [oB (a 0) 1 [.int (nI (x 0)), .int (nI (x 1)), .int (nI (x 2)), .int (nI (x 3)), .int (nI (x 4)), .int (nI (x 5)), .int (nI (x 6)), .int (nI (x 7)), .int (nI (x 8)), .ref (a 1), .int (nI (x 10)), .ref (a 2), .int (nI (x 12)), .ref (a 3), .ref (a 4), .ref (a 5), .ref (a 6)]] (QI Y (fun (r : Int32) (_ : Unit) => r = p2i (0 ≤ g.toInt ∧ g.toInt < (x 1 : Int))) (fun _ => [oB (a 0) 1 [.int (nI (x 0)), .int (nI (x 1)), .int (nI (x 2)), .int (nI (x 3)), .int (nI (x 4)), .int (nI (x 5)), .int (nI (x 6)), .int (nI (x 7)), .int (nI (x 8)), .ref (a 1), .int (nI (x 10)), .ref (a 2), .int (nI (x 12)), .ref (a 3), .ref (a 4), .ref (a 5), .ref (a 6)]])) 0 0 := by
  refine CT_of (cc := cX1_hasGuest) (maxL := 2) (ret := (some .boolean)) (by decide) rfl (Nat.le_of_ble_eq_true rfl) ?_
  intro pp ee ss mm bl mt cc AA C hr hnm
  have w0 := C.t _ (List.mem_of_getElem? (i := 1) (show wsX1_hasGuest[1]? = some (Cond.fieldLink RX1 38 "SecretDinner$Dinner" "guests" "I") from rfl))
  have i1 : ∀ w ∈ wsX10, w ∈ wsX1_hasGuest := inPlaces [2, 3, 4, 5, 6, 7, 8, 9, 10, 11, 12, 13, 14, 15, 16, 17, 18] (by decide +kernel)
  refine J_eq (lv' := [(0, .ref (a 0)), (1, .int g)]) (ws' := [oB (a 0) 1 [.int (nI (x 0)), .int (nI (x 1)), .int (nI (x 2)), .int (nI (x 3)), .int (nI (x 4)), .int (nI (x 5)), .int (nI (x 6)), .int (nI (x 7)), .int (nI (x 8)), .ref (a 1), .int (nI (x 10)), .ref (a 2), .int (nI (x 12)), .ref (a 3), .ref (a 4), .ref (a 5), .ref (a 6)]]) rfl rfl rfl rfl ?_
  refine J_iload_n C dX1_hasGuest_0 rfl 1 rfl ?_
  refine J_if_ltT (tgt := 21) C dX1_hasGuest_1 (by decide) (fun cq1 => ?_) (fun cq1 => ?_)
  · refine J_iconst C dX1_hasGuest_21 (v := nI 0) (by decide) ?_
    exact J_zret C hr (by decide) dX1_hasGuest_22 (()) ((p2i_f (by omega)).symm) (rfl)
  · refine J_iload_n C dX1_hasGuest_4 rfl 1 rfl ?_
    refine J_aload_n C dX1_hasGuest_5 rfl 0 rfl ?_
    refine J_get (ci := 1) C i1 rfl 1 (by decide) w0 rfl 0 rfl rfl dX1_hasGuest_6 ?_
    refine J_icmp_geR (tgt := 21) C dX1_hasGuest_9 (by decide) (by omega) (fun cq9 => ?_) (fun cq9 => ?_)
    · refine J_iconst C dX1_hasGuest_21 (v := nI 0) (by decide) ?_
      exact J_zret C hr (by decide) dX1_hasGuest_22 (()) ((p2i_f (by omega)).symm) (rfl)
    · refine J_iload_n C dX1_hasGuest_12 rfl 1 rfl ?_
      refine J_iconst C dX1_hasGuest_13 (v := nI 4) (by decide) ?_
      refine J_icmp_geR (tgt := 21) C dX1_hasGuest_14 (by decide) (by omega) (fun cq14 => ?_) (fun cq14 => ?_)
      · refine J_iconst C dX1_hasGuest_21 (v := nI 0) (by decide) ?_
        exact J_zret C hr (by decide) dX1_hasGuest_22 (()) ((p2i_f (by omega)).symm) (rfl)
      · refine J_iconst C dX1_hasGuest_17 (v := nI 1) (by decide) ?_
        refine J_goto (tgt := 22) C dX1_hasGuest_18 (by decide) ?_
        exact J_zret C hr (by decide) dX1_hasGuest_22 (()) ((p2i_t (by omega)).symm) (rfl)

set_option maxHeartbeats 4000000 in
set_option maxRecDepth 100000 in
theorem kX1_hasGuest_n (ll : Launch) (Y : GY) (a : Nat → Nat) (x : Nat → Nat) (g : Nat) (h1 : x 1 ≤ 4) (hg : g < 2 ^ 31) : CT ll yX1_hasGuest wsX1_hasGuest { frames := 0, cells := 0, slots := 0, locals := 0 } Y [.ref (a 0), .int (nI g)] [oB (a 0) 1 [.int (nI (x 0)), .int (nI (x 1)), .int (nI (x 2)), .int (nI (x 3)), .int (nI (x 4)), .int (nI (x 5)), .int (nI (x 6)), .int (nI (x 7)), .int (nI (x 8)), .ref (a 1), .int (nI (x 10)), .ref (a 2), .int (nI (x 12)), .ref (a 3), .ref (a 4), .ref (a 5), .ref (a 6)]] (QI Y (fun (r : Int32) (_ : Unit) => r = p2i (g < x 1)) (fun _ => [oB (a 0) 1 [.int (nI (x 0)), .int (nI (x 1)), .int (nI (x 2)), .int (nI (x 3)), .int (nI (x 4)), .int (nI (x 5)), .int (nI (x 6)), .int (nI (x 7)), .int (nI (x 8)), .ref (a 1), .int (nI (x 10)), .ref (a 2), .int (nI (x 12)), .ref (a 3), .ref (a 4), .ref (a 5), .ref (a 6)]])) 0 0 := by
  refine CT_of (cc := cX1_hasGuest) (maxL := 2) (ret := (some .boolean)) (by decide) rfl (Nat.le_of_ble_eq_true rfl) ?_
  intro pp ee ss mm bl mt cc AA C hr hnm
  have w0 := C.t _ (List.mem_of_getElem? (i := 1) (show wsX1_hasGuest[1]? = some (Cond.fieldLink RX1 38 "SecretDinner$Dinner" "guests" "I") from rfl))
  have i1 : ∀ w ∈ wsX10, w ∈ wsX1_hasGuest := inPlaces [2, 3, 4, 5, 6, 7, 8, 9, 10, 11, 12, 13, 14, 15, 16, 17, 18] (by decide +kernel)
  refine J_eq (lv' := [(0, .ref (a 0)), (1, .int (nI g))]) (ws' := [oB (a 0) 1 [.int (nI (x 0)), .int (nI (x 1)), .int (nI (x 2)), .int (nI (x 3)), .int (nI (x 4)), .int (nI (x 5)), .int (nI (x 6)), .int (nI (x 7)), .int (nI (x 8)), .ref (a 1), .int (nI (x 10)), .ref (a 2), .int (nI (x 12)), .ref (a 3), .ref (a 4), .ref (a 5), .ref (a 6)]]) rfl rfl rfl rfl ?_
  refine J_iload_n C dX1_hasGuest_0 rfl 1 rfl ?_
  refine J_if_ltN (tgt := 21) C dX1_hasGuest_1 (by decide) (by omega) ?_
  refine J_iload_n C dX1_hasGuest_4 rfl 1 rfl ?_
  refine J_aload_n C dX1_hasGuest_5 rfl 0 rfl ?_
  refine J_get (ci := 1) C i1 rfl 1 (by decide) w0 rfl 0 rfl rfl dX1_hasGuest_6 ?_
  refine J_icmp_geN (tgt := 21) C dX1_hasGuest_9 (by decide) (by omega) (by omega) (fun cq9 => ?_) (fun cq9 => ?_)
  · refine J_iconst C dX1_hasGuest_21 (v := nI 0) (by decide) ?_
    exact J_zret C hr (by decide) dX1_hasGuest_22 (()) ((p2i_f (by omega)).symm) (rfl)
  · refine J_iload_n C dX1_hasGuest_12 rfl 1 rfl ?_
    refine J_iconst C dX1_hasGuest_13 (v := nI 4) (by decide) ?_
    refine J_icmp_geN (tgt := 21) C dX1_hasGuest_14 (by decide) (by omega) (by omega) (fun cq14 => ?_) (fun cq14 => ?_)
    · refine J_iconst C dX1_hasGuest_21 (v := nI 0) (by decide) ?_
      exact J_zret C hr (by decide) dX1_hasGuest_22 (()) ((p2i_f (by omega)).symm) (rfl)
    · refine J_iconst C dX1_hasGuest_17 (v := nI 1) (by decide) ?_
      refine J_goto (tgt := 22) C dX1_hasGuest_18 (by decide) ?_
      exact J_zret C hr (by decide) dX1_hasGuest_22 (()) ((p2i_t (by omega)).symm) (rfl)

set_option maxHeartbeats 4000000 in
set_option maxRecDepth 100000 in
theorem kX1_isThere (ll : Launch) (Y : GY) (a : Nat → Nat) (x : Nat → Nat) (g : Nat) (h1 : x 1 ≤ 4) (h2 : x 2 ≤ 1) (h7 : x 7 < 16) (hg : g ≤ 3) : CT ll yX1_isThere wsX1_isThere { frames := 1, cells := 0, slots := 0, locals := 21 } Y [.ref (a 0), .int (nI g)] [oB (a 0) 1 [.int (nI (x 0)), .int (nI (x 1)), .int (nI (x 2)), .int (nI (x 3)), .int (nI (x 4)), .int (nI (x 5)), .int (nI (x 6)), .int (nI (x 7)), .int (nI (x 8)), .ref (a 1), .int (nI (x 10)), .ref (a 2), .int (nI (x 12)), .ref (a 3), .ref (a 4), .ref (a 5), .ref (a 6)]] (QI Y (fun (r : Int32) (_ : Unit) => r = p2i (x 2 = 1 ∧ g < x 1 ∧ x 7 / 2 ^ g &&& 1 = 1)) (fun _ => [oB (a 0) 1 [.int (nI (x 0)), .int (nI (x 1)), .int (nI (x 2)), .int (nI (x 3)), .int (nI (x 4)), .int (nI (x 5)), .int (nI (x 6)), .int (nI (x 7)), .int (nI (x 8)), .ref (a 1), .int (nI (x 10)), .ref (a 2), .int (nI (x 12)), .ref (a 3), .ref (a 4), .ref (a 5), .ref (a 6)]])) 0 0 := by
  refine CT_of (cc := cX1_isThere) (maxL := 2) (ret := (some .boolean)) (by decide) rfl (Nat.le_of_ble_eq_true rfl) ?_
  intro pp ee ss mm bl mt cc AA C hr hnm
  have w0 := C.t _ (List.mem_of_getElem? (i := 1) (show wsX1_isThere[1]? = some (Cond.fieldLink RX1 41 "SecretDinner$Dinner" "going" "Z") from rfl))
  have w1 := C.t _ (List.mem_of_getElem? (i := 2) (show wsX1_isThere[2]? = some (Cond.fieldLink RX1 49 "SecretDinner$Dinner" "here" "I") from rfl))
  have i1 : ∀ w ∈ wsX10, w ∈ wsX1_isThere := inPlaces [9, 10, 11, 12, 13, 14, 15, 16, 17, 18, 19, 20, 21, 22, 23, 24, 25] (by decide +kernel)
  refine J_eq (lv' := [(0, .ref (a 0)), (1, .int (nI g))]) (ws' := [oB (a 0) 1 [.int (nI (x 0)), .int (nI (x 1)), .int (nI (x 2)), .int (nI (x 3)), .int (nI (x 4)), .int (nI (x 5)), .int (nI (x 6)), .int (nI (x 7)), .int (nI (x 8)), .ref (a 1), .int (nI (x 10)), .ref (a 2), .int (nI (x 12)), .ref (a 3), .ref (a 4), .ref (a 5), .ref (a 6)]]) rfl rfl rfl rfl ?_
  refine J_aload_n C dX1_isThere_0 rfl 0 rfl ?_
  refine J_get (ci := 1) C i1 rfl 2 (by decide) w0 rfl 0 rfl rfl dX1_isThere_1 ?_
  refine J_if_eqN (tgt := 31) C dX1_isThere_4 (by decide) (by omega) (fun cq4 => ?_) (fun cq4 => ?_)
  · refine J_iconst C dX1_isThere_31 (v := nI 0) (by decide) ?_
    exact J_zret C hr (by decide) dX1_isThere_32 (()) (by first | exact (p2i_f (fun z => cq24 z.2.2)).symm | exact (p2i_f (fun z => cq12 z.2.1)).symm | exact (p2i_f (fun z => by omega)).symm) (rfl)
  · refine J_aload_n C dX1_isThere_7 rfl 0 rfl ?_
    refine J_iload_n C dX1_isThere_8 rfl 1 rfl ?_
    refine J_callI (wr := []) C (R_V (st := []) (wc := [oB (a 0) 1 [.int (nI (x 0)), .int (nI (x 1)), .int (nI (x 2)), .int (nI (x 3)), .int (nI (x 4)), .int (nI (x 5)), .int (nI (x 6)), .int (nI (x 7)), .int (nI (x 8)), .ref (a 1), .int (nI (x 10)), .ref (a 2), .int (nI (x 12)), .ref (a 3), .ref (a 4), .ref (a 5), .ref (a 6)]]) C (kX1_hasGuest_n ll Y a x g (by first | assumption | omega) (by first | assumption | omega)) (cwV 1 C.t gX1_isThere_X1_hasGuest rfl rfl rfl (by decide +kernel) ⟨by decide, by decide⟩) rfl [0] rfl (by decide) ⟨0, 1, _, _, rfl, rfl, rfl⟩ rfl (Nat.le_of_ble_eq_true rfl) dX1_isThere_9 ⟨Nat.le_of_ble_eq_true rfl, Nat.le_of_ble_eq_true rfl⟩) [0] [] rfl rfl (by decide) (by decide) (fun r9 u9 hw9 => ?_)
    subst hw9
    refine J_eq (pc' := 12) (lv' := [(0, .ref (a 0)), (1, .int (nI g))]) (st' := [.int (p2i (g < x 1))]) (ws' := [oB (a 0) 1 [.int (nI (x 0)), .int (nI (x 1)), .int (nI (x 2)), .int (nI (x 3)), .int (nI (x 4)), .int (nI (x 5)), .int (nI (x 6)), .int (nI (x 7)), .int (nI (x 8)), .ref (a 1), .int (nI (x 10)), .ref (a 2), .int (nI (x 12)), .ref (a 3), .ref (a 4), .ref (a 5), .ref (a 6)]]) rfl rfl rfl rfl ?_
    refine J_if_eqP (tgt := 31) C dX1_isThere_12 (by decide) (fun cq12 => ?_) (fun cq12 => ?_)
    · refine J_iconst C dX1_isThere_31 (v := nI 0) (by decide) ?_
      exact J_zret C hr (by decide) dX1_isThere_32 (()) (by first | exact (p2i_f (fun z => cq24 z.2.2)).symm | exact (p2i_f (fun z => cq12 z.2.1)).symm | exact (p2i_f (fun z => by omega)).symm) (rfl)
    · refine J_aload_n C dX1_isThere_15 rfl 0 rfl ?_
      refine J_get (ci := 1) C i1 rfl 7 (by decide) w1 rfl 0 rfl rfl dX1_isThere_16 ?_
      refine J_iload_n C dX1_isThere_19 rfl 1 rfl ?_
      refine J_ishrN C dX1_isThere_20 (by omega) (by omega) ?_
      refine J_iconst C dX1_isThere_21 (v := nI 1) (by decide) ?_
      refine J_iandN C dX1_isThere_22 ?_
      refine J_iconst C dX1_isThere_23 (v := nI 1) (by decide) ?_
      refine J_icmp_neN (tgt := 31) C dX1_isThere_24 (by decide) (Nat.lt_of_le_of_lt Nat.and_le_right (by decide)) (by decide) (fun cq24 => ?_) (fun cq24 => ?_)
      · refine J_iconst C dX1_isThere_31 (v := nI 0) (by decide) ?_
        exact J_zret C hr (by decide) dX1_isThere_32 (()) (by first | exact (p2i_f (fun z => cq24 z.2.2)).symm | exact (p2i_f (fun z => cq12 z.2.1)).symm | exact (p2i_f (fun z => by omega)).symm) (rfl)
      · refine J_iconst C dX1_isThere_27 (v := nI 1) (by decide) ?_
        refine J_goto (tgt := 32) C dX1_isThere_28 (by decide) ?_
        exact J_zret C hr (by decide) dX1_isThere_32 (()) ((p2i_t (⟨by omega, cq12, cq24⟩)).symm) (rfl)

set_option maxHeartbeats 4000000 in
set_option maxRecDepth 100000 in
theorem kX1_canAnswer (ll : Launch) (Y : GY) (a : Nat → Nat) (x : Nat → Nat) (g : Nat) (Lp : Prop) [Decidable Lp] (h1 : x 1 ≤ 4) (h2 : x 2 ≤ 1) (h7 : x 7 < 16) (hg : g ≤ 3) (h8 : x 8 < 16) (h12 : x 12 ≤ 20) : CT ll yX1_canAnswer wsX1_canAnswer { frames := 2, cells := 0, slots := 0, locals := 42 } Y [.ref (a 0), .int (nI g), .int (p2i (Lp))] [oB (a 0) 1 [.int (nI (x 0)), .int (nI (x 1)), .int (nI (x 2)), .int (nI (x 3)), .int (nI (x 4)), .int (nI (x 5)), .int (nI (x 6)), .int (nI (x 7)), .int (nI (x 8)), .ref (a 1), .int (nI (x 10)), .ref (a 2), .int (nI (x 12)), .ref (a 3), .ref (a 4), .ref (a 5), .ref (a 6)]] (QI Y (fun (r : Int32) (_ : Unit) => r = p2i ((x 2 = 1 ∧ g < x 1 ∧ x 7 / 2 ^ g &&& 1 = 1) ∧ x 12 < 20 ∧ ¬ (Lp ∧ x 8 / 2 ^ g &&& 1 = 1))) (fun _ => [oB (a 0) 1 [.int (nI (x 0)), .int (nI (x 1)), .int (nI (x 2)), .int (nI (x 3)), .int (nI (x 4)), .int (nI (x 5)), .int (nI (x 6)), .int (nI (x 7)), .int (nI (x 8)), .ref (a 1), .int (nI (x 10)), .ref (a 2), .int (nI (x 12)), .ref (a 3), .ref (a 4), .ref (a 5), .ref (a 6)]])) 0 0 := by
  refine CT_of (cc := cX1_canAnswer) (maxL := 3) (ret := (some .boolean)) (by decide) rfl (Nat.le_of_ble_eq_true rfl) ?_
  intro pp ee ss mm bl mt cc AA C hr hnm
  have w0 := C.t _ (List.mem_of_getElem? (i := 1) (show wsX1_canAnswer[1]? = some (Cond.fieldLink RX1 55 "SecretDinner$Dinner" "asked" "I") from rfl))
  have w1 := C.t _ (List.mem_of_getElem? (i := 2) (show wsX1_canAnswer[2]? = some (Cond.fieldLink RX1 58 "SecretDinner$Dinner" "liars" "I") from rfl))
  have i1 : ∀ w ∈ wsX10, w ∈ wsX1_canAnswer := inPlaces [15, 16, 17, 18, 19, 20, 21, 22, 23, 24, 25, 26, 27, 28, 29, 30, 31] (by decide +kernel)
  refine J_eq (lv' := [(0, .ref (a 0)), (1, .int (nI g)), (2, .int (p2i (Lp)))]) (ws' := [oB (a 0) 1 [.int (nI (x 0)), .int (nI (x 1)), .int (nI (x 2)), .int (nI (x 3)), .int (nI (x 4)), .int (nI (x 5)), .int (nI (x 6)), .int (nI (x 7)), .int (nI (x 8)), .ref (a 1), .int (nI (x 10)), .ref (a 2), .int (nI (x 12)), .ref (a 3), .ref (a 4), .ref (a 5), .ref (a 6)]]) rfl rfl rfl rfl ?_
  refine J_aload_n C dX1_canAnswer_0 rfl 0 rfl ?_
  refine J_iload_n C dX1_canAnswer_1 rfl 1 rfl ?_
  refine J_callI (wr := []) C (R_V (st := []) (wc := [oB (a 0) 1 [.int (nI (x 0)), .int (nI (x 1)), .int (nI (x 2)), .int (nI (x 3)), .int (nI (x 4)), .int (nI (x 5)), .int (nI (x 6)), .int (nI (x 7)), .int (nI (x 8)), .ref (a 1), .int (nI (x 10)), .ref (a 2), .int (nI (x 12)), .ref (a 3), .ref (a 4), .ref (a 5), .ref (a 6)]]) C (kX1_isThere ll Y a x g (by first | assumption | omega) (by first | assumption | omega) (by first | assumption | omega) (by first | assumption | omega)) (cwV 1 C.t gX1_canAnswer_X1_isThere rfl rfl rfl (by decide +kernel) ⟨by decide, by decide⟩) rfl [0] rfl (by decide) ⟨0, 1, _, _, rfl, rfl, rfl⟩ rfl (Nat.le_of_ble_eq_true rfl) dX1_canAnswer_2 ⟨Nat.le_of_ble_eq_true rfl, Nat.le_of_ble_eq_true rfl⟩) [0] [] rfl rfl (by decide) (by decide) (fun r2 u2 hw2 => ?_)
  subst hw2
  refine J_eq (pc' := 5) (lv' := [(0, .ref (a 0)), (1, .int (nI g)), (2, .int (p2i (Lp)))]) (st' := [.int (p2i (x 2 = 1 ∧ g < x 1 ∧ x 7 / 2 ^ g &&& 1 = 1))]) (ws' := [oB (a 0) 1 [.int (nI (x 0)), .int (nI (x 1)), .int (nI (x 2)), .int (nI (x 3)), .int (nI (x 4)), .int (nI (x 5)), .int (nI (x 6)), .int (nI (x 7)), .int (nI (x 8)), .ref (a 1), .int (nI (x 10)), .ref (a 2), .int (nI (x 12)), .ref (a 3), .ref (a 4), .ref (a 5), .ref (a 6)]]) rfl rfl rfl rfl ?_
  refine J_if_eqP (tgt := 37) C dX1_canAnswer_5 (by decide) (fun cq5 => ?_) (fun cq5 => ?_)
  · refine J_iconst C dX1_canAnswer_37 (v := nI 0) (by decide) ?_
    exact J_zret C hr (by decide) dX1_canAnswer_38 (()) ((p2i_f (fun (z : (x 2 = 1 ∧ g < x 1 ∧ x 7 / 2 ^ g &&& 1 = 1) ∧ x 12 < 20 ∧ ¬ (Lp ∧ x 8 / 2 ^ g &&& 1 = 1)) => cq5 z.1)).symm) (rfl)
  · refine J_aload_n C dX1_canAnswer_8 rfl 0 rfl ?_
    refine J_get (ci := 1) C i1 rfl 12 (by decide) w0 rfl 0 rfl rfl dX1_canAnswer_9 ?_
    refine J_bipush C dX1_canAnswer_12 (v := nI 20) (by decide) ?_
    refine J_icmp_geN (tgt := 37) C dX1_canAnswer_14 (by decide) (by omega) (by omega) (fun cq14 => ?_) (fun cq14 => ?_)
    · refine J_iconst C dX1_canAnswer_37 (v := nI 0) (by decide) ?_
      exact J_zret C hr (by decide) dX1_canAnswer_38 (()) ((p2i_f (fun (z : (x 2 = 1 ∧ g < x 1 ∧ x 7 / 2 ^ g &&& 1 = 1) ∧ x 12 < 20 ∧ ¬ (Lp ∧ x 8 / 2 ^ g &&& 1 = 1)) => by omega)).symm) (rfl)
    · refine J_iload_n C dX1_canAnswer_17 rfl 2 rfl ?_
      refine J_if_eqP (tgt := 33) C dX1_canAnswer_18 (by decide) (fun cq18 => ?_) (fun cq18 => ?_)
      · refine J_iconst C dX1_canAnswer_33 (v := nI 1) (by decide) ?_
        refine J_goto (tgt := 38) C dX1_canAnswer_34 (by decide) ?_
        exact J_zret C hr (by decide) dX1_canAnswer_38 (()) ((p2i_t (show (x 2 = 1 ∧ g < x 1 ∧ x 7 / 2 ^ g &&& 1 = 1) ∧ x 12 < 20 ∧ ¬ (Lp ∧ x 8 / 2 ^ g &&& 1 = 1) from ⟨cq5, cq14, fun z => cq18 z.1⟩)).symm) (rfl)
      · refine J_aload_n C dX1_canAnswer_21 rfl 0 rfl ?_
        refine J_get (ci := 1) C i1 rfl 8 (by decide) w1 rfl 0 rfl rfl dX1_canAnswer_22 ?_
        refine J_iload_n C dX1_canAnswer_25 rfl 1 rfl ?_
        refine J_ishrN C dX1_canAnswer_26 (by omega) (by omega) ?_
        refine J_iconst C dX1_canAnswer_27 (v := nI 1) (by decide) ?_
        refine J_iandN C dX1_canAnswer_28 ?_
        refine J_iconst C dX1_canAnswer_29 (v := nI 1) (by decide) ?_
        refine J_icmp_eqN (tgt := 37) C dX1_canAnswer_30 (by decide) (Nat.lt_of_le_of_lt Nat.and_le_right (by decide)) (by decide) (fun cq30 => ?_) (fun cq30 => ?_)
        · refine J_iconst C dX1_canAnswer_37 (v := nI 0) (by decide) ?_
          exact J_zret C hr (by decide) dX1_canAnswer_38 (()) ((p2i_f (fun (z : (x 2 = 1 ∧ g < x 1 ∧ x 7 / 2 ^ g &&& 1 = 1) ∧ x 12 < 20 ∧ ¬ (Lp ∧ x 8 / 2 ^ g &&& 1 = 1)) => z.2.2 ⟨cq18, cq30⟩)).symm) (rfl)
        · refine J_iconst C dX1_canAnswer_33 (v := nI 1) (by decide) ?_
          refine J_goto (tgt := 38) C dX1_canAnswer_34 (by decide) ?_
          exact J_zret C hr (by decide) dX1_canAnswer_38 (()) ((p2i_t (show (x 2 = 1 ∧ g < x 1 ∧ x 7 / 2 ^ g &&& 1 = 1) ∧ x 12 < 20 ∧ ¬ (Lp ∧ x 8 / 2 ^ g &&& 1 = 1) from ⟨cq5, cq14, fun z => cq30 z.2⟩)).symm) (rfl)

set_option maxHeartbeats 4000000 in
set_option maxRecDepth 100000 in
theorem kX1_handOf (ll : Launch) (Y : GY) (a : Nat → Nat) (x : Nat → Nat) (hd : Nat → Nat) (g : Nat) (hg : g ≤ 3) : CT ll yX1_handOf wsX1_handOf { frames := 0, cells := 0, slots := 0, locals := 0 } Y [.ref (a 0), .int (nI g)] [oB (a 0) 1 [.int (nI (x 0)), .int (nI (x 1)), .int (nI (x 2)), .int (nI (x 3)), .int (nI (x 4)), .int (nI (x 5)), .int (nI (x 6)), .int (nI (x 7)), .int (nI (x 8)), .ref (a 1), .int (nI (x 10)), .ref (a 2), .int (nI (x 12)), .ref (a 3), .ref (a 4), .ref (a 5), .ref (a 6)], aI Y (a 1) 4 (nF hd)] (QI Y (fun (r : Int32) (_ : Unit) => r = nI (hd g)) (fun _ => [oB (a 0) 1 [.int (nI (x 0)), .int (nI (x 1)), .int (nI (x 2)), .int (nI (x 3)), .int (nI (x 4)), .int (nI (x 5)), .int (nI (x 6)), .int (nI (x 7)), .int (nI (x 8)), .ref (a 1), .int (nI (x 10)), .ref (a 2), .int (nI (x 12)), .ref (a 3), .ref (a 4), .ref (a 5), .ref (a 6)], aI Y (a 1) 4 (nF hd)])) 0 0 := by
  refine CT_of (cc := cX1_handOf) (maxL := 2) (ret := (some .int)) (by decide) rfl (Nat.le_of_ble_eq_true rfl) ?_
  intro pp ee ss mm bl mt cc AA C hr hnm
  have w0 := C.t _ (List.mem_of_getElem? (i := 1) (show wsX1_handOf[1]? = some (Cond.fieldLink RX1 15 "SecretDinner$Dinner" "hands" "[I") from rfl))
  have i1 : ∀ w ∈ wsX10, w ∈ wsX1_handOf := inPlaces [2, 3, 4, 5, 6, 7, 8, 9, 10, 11, 12, 13, 14, 15, 16, 17, 18] (by decide +kernel)
  refine J_eq (lv' := [(0, .ref (a 0)), (1, .int (nI g))]) (ws' := [oB (a 0) 1 [.int (nI (x 0)), .int (nI (x 1)), .int (nI (x 2)), .int (nI (x 3)), .int (nI (x 4)), .int (nI (x 5)), .int (nI (x 6)), .int (nI (x 7)), .int (nI (x 8)), .ref (a 1), .int (nI (x 10)), .ref (a 2), .int (nI (x 12)), .ref (a 3), .ref (a 4), .ref (a 5), .ref (a 6)], aI Y (a 1) 4 (nF hd)]) rfl rfl rfl rfl ?_
  refine J_iload_n C dX1_handOf_0 rfl 1 rfl ?_
  refine J_if_ltN (tgt := 18) C dX1_handOf_1 (by decide) (by omega) ?_
  refine J_iload_n C dX1_handOf_4 rfl 1 rfl ?_
  refine J_iconst C dX1_handOf_5 (v := nI 4) (by decide) ?_
  refine J_icmp_geN (tgt := 18) C dX1_handOf_6 (by decide) (by omega) (by omega) (fun cq6 => ?_) (fun cq6 => ?_)
  · exact absurd cq6 (by omega)
  · refine J_aload_n C dX1_handOf_9 rfl 0 rfl ?_
    refine J_get (ci := 1) C i1 rfl 9 (by decide) w0 rfl 0 rfl rfl dX1_handOf_10 ?_
    refine J_iload_n C dX1_handOf_13 rfl 1 rfl ?_
    refine J_ialdF C 1 rfl (by omega) (by omega) dX1_handOf_14 ?_
    refine J_goto (tgt := 19) C dX1_handOf_15 (by decide) ?_
    exact J_iret C hr dX1_handOf_19 (()) (rfl) (rfl)

set_option maxHeartbeats 4000000 in
set_option maxRecDepth 100000 in
theorem kX1_questionsTo (ll : Launch) (Y : GY) (a : Nat → Nat) (x : Nat → Nat) (ag : Nat → Nat) (g : Nat) (h12 : x 12 ≤ 20) (hag : ∀ i, i < x 12 → ag i < 4) (hg : g ≤ 3) : CT ll yX1_questionsTo wsX1_questionsTo { frames := 0, cells := 0, slots := 0, locals := 0 } Y [.ref (a 0), .int (nI g)] [oB (a 0) 1 [.int (nI (x 0)), .int (nI (x 1)), .int (nI (x 2)), .int (nI (x 3)), .int (nI (x 4)), .int (nI (x 5)), .int (nI (x 6)), .int (nI (x 7)), .int (nI (x 8)), .ref (a 1), .int (nI (x 10)), .ref (a 2), .int (nI (x 12)), .ref (a 3), .ref (a 4), .ref (a 5), .ref (a 6)], aI Y (a 3) 20 (nF ag)] (QI Y (fun (r : Int32) (_ : Unit) => r = nI (qtN ag (x 12) g)) (fun _ => [oB (a 0) 1 [.int (nI (x 0)), .int (nI (x 1)), .int (nI (x 2)), .int (nI (x 3)), .int (nI (x 4)), .int (nI (x 5)), .int (nI (x 6)), .int (nI (x 7)), .int (nI (x 8)), .ref (a 1), .int (nI (x 10)), .ref (a 2), .int (nI (x 12)), .ref (a 3), .ref (a 4), .ref (a 5), .ref (a 6)], aI Y (a 3) 20 (nF ag)])) 0 0 := by
  refine CT_of (cc := cX1_questionsTo) (maxL := 4) (ret := (some .int)) (by decide) rfl (Nat.le_of_ble_eq_true rfl) ?_
  intro pp ee ss mm bl mt cc AA C hr hnm
  have w0 := C.t _ (List.mem_of_getElem? (i := 1) (show wsX1_questionsTo[1]? = some (Cond.fieldLink RX1 55 "SecretDinner$Dinner" "asked" "I") from rfl))
  have w1 := C.t _ (List.mem_of_getElem? (i := 2) (show wsX1_questionsTo[2]? = some (Cond.fieldLink RX1 22 "SecretDinner$Dinner" "askedGuests" "[I") from rfl))
  have i1 : ∀ w ∈ wsX10, w ∈ wsX1_questionsTo := inPlaces [3, 4, 5, 6, 7, 8, 9, 10, 11, 12, 13, 14, 15, 16, 17, 18, 19] (by decide +kernel)
  refine J_eq (lv' := [(0, .ref (a 0)), (1, .int (nI g))]) (ws' := [oB (a 0) 1 [.int (nI (x 0)), .int (nI (x 1)), .int (nI (x 2)), .int (nI (x 3)), .int (nI (x 4)), .int (nI (x 5)), .int (nI (x 6)), .int (nI (x 7)), .int (nI (x 8)), .ref (a 1), .int (nI (x 10)), .ref (a 2), .int (nI (x 12)), .ref (a 3), .ref (a 4), .ref (a 5), .ref (a 6)], aI Y (a 3) 20 (nF ag)]) rfl rfl rfl rfl ?_
  refine J_iconst C dX1_questionsTo_0 (v := nI 0) (by decide) ?_
  refine J_istore_n (lv' := [(2, .int (nI 0)), (0, .ref (a 0)), (1, .int (nI g))]) C dX1_questionsTo_1 rfl (by decide) rfl ?_
  refine J_iconst C dX1_questionsTo_2 (v := nI 0) (by decide) ?_
  refine J_istore_n (lv' := [(3, .int (nI 0)), (2, .int (nI 0)), (0, .ref (a 0)), (1, .int (nI g))]) C dX1_questionsTo_3 rfl (by decide) rfl ?_
  refine J_lv (lv' := [(0, .ref (a 0)), (1, .int (nI g)), (2, .int (nI 0)), (3, .int (nI 0))]) [2, 3, 1, 0] rfl ?_
  refine J_loop (σ := Nat) (I := fun (i : Nat) => (i ≤ x 12)) (μ := fun (i : Nat) => x 12 - i) (lvf := fun (i : Nat) => [(0, .ref (a 0)), (1, .int (nI g)), (2, .int (nI (qtN ag i g))), (3, .int (nI i))]) (stf := fun (i : Nat) => []) (wsf := fun (i : Nat) => [oB (a 0) 1 [.int (nI (x 0)), .int (nI (x 1)), .int (nI (x 2)), .int (nI (x 3)), .int (nI (x 4)), .int (nI (x 5)), .int (nI (x 6)), .int (nI (x 7)), .int (nI (x 8)), .ref (a 1), .int (nI (x 10)), .ref (a 2), .int (nI (x 12)), .ref (a 3), .ref (a 4), .ref (a 5), .ref (a 6)], aI Y (a 3) 20 (nF ag)]) ?_ (0) (by omega) (rfl) rfl (rfl)
  rintro i hi ih4
  refine J_eq (lv' := [(0, .ref (a 0)), (1, .int (nI g)), (2, .int (nI (qtN ag i g))), (3, .int (nI i))]) (st' := []) (ws' := [oB (a 0) 1 [.int (nI (x 0)), .int (nI (x 1)), .int (nI (x 2)), .int (nI (x 3)), .int (nI (x 4)), .int (nI (x 5)), .int (nI (x 6)), .int (nI (x 7)), .int (nI (x 8)), .ref (a 1), .int (nI (x 10)), .ref (a 2), .int (nI (x 12)), .ref (a 3), .ref (a 4), .ref (a 5), .ref (a 6)], aI Y (a 3) 20 (nF ag)]) rfl rfl rfl rfl ?_
  refine J_iload_n C dX1_questionsTo_4 rfl 3 rfl ?_
  refine J_aload_n C dX1_questionsTo_5 rfl 0 rfl ?_
  refine J_get (ci := 1) C i1 rfl 12 (by decide) w0 rfl 0 rfl rfl dX1_questionsTo_6 ?_
  refine J_icmp_geN (tgt := 37) C dX1_questionsTo_9 (by decide) (by omega) (by omega) (fun cq9 => ?_) (fun cq9 => ?_)
  · refine J_iload_n C dX1_questionsTo_37 rfl 2 rfl ?_
    exact J_iret C hr dX1_questionsTo_38 (()) (by rw [show i = x 12 from by omega]) (rfl)
  · refine J_iload_n C dX1_questionsTo_12 rfl 3 rfl ?_
    refine J_bipush C dX1_questionsTo_13 (v := nI 20) (by decide) ?_
    refine J_icmp_geN (tgt := 37) C dX1_questionsTo_15 (by decide) (by omega) (by omega) (fun cq15 => ?_) (fun cq15 => ?_)
    · exact absurd cq15 (by omega)
    · refine J_aload_n C dX1_questionsTo_18 rfl 0 rfl ?_
      refine J_get (ci := 1) C i1 rfl 13 (by decide) w1 rfl 0 rfl rfl dX1_questionsTo_19 ?_
      refine J_iload_n C dX1_questionsTo_22 rfl 3 rfl ?_
      refine J_ialdF C 1 rfl (by omega) (by omega) dX1_questionsTo_23 ?_
      refine J_iload_n C dX1_questionsTo_24 rfl 1 rfl ?_
      refine J_icmp_neN (tgt := 31) C dX1_questionsTo_25 (by decide) (Nat.lt_trans (hag i (by omega)) (by decide)) (by omega) (fun cq25 => ?_) (fun cq25 => ?_)
      · refine J_iinc (j := 3) (v := nI (i + 1)) (lv' := [(3, .int (nI (i + 1))), (0, .ref (a 0)), (1, .int (nI g)), (2, .int (nI (qtN ag i g)))]) C dX1_questionsTo_31 rfl (nI_1 _) (by decide) rfl ?_
        refine J_goto (tgt := 4) C dX1_questionsTo_34 (by decide) ?_
        refine J_lv (lv' := [(0, .ref (a 0)), (1, .int (nI g)), (2, .int (nI (qtN ag i g))), (3, .int (nI (i + 1)))]) [1, 2, 3, 0] rfl ?_
        rw [← qtN_f cq25]
        exact ih4 (i + 1) (by omega) (show x 12 - (i + 1) < x 12 - i from by omega)
      · refine J_iinc (j := 2) (v := nI (qtN ag i g + 1)) (lv' := [(2, .int (nI (qtN ag i g + 1))), (0, .ref (a 0)), (1, .int (nI g)), (3, .int (nI i))]) C dX1_questionsTo_28 rfl (nI_1 _) (by decide) rfl ?_
        refine J_iinc (j := 3) (v := nI (i + 1)) (lv' := [(3, .int (nI (i + 1))), (2, .int (nI (qtN ag i g + 1))), (0, .ref (a 0)), (1, .int (nI g))]) C dX1_questionsTo_31 rfl (nI_1 _) (by decide) rfl ?_
        refine J_goto (tgt := 4) C dX1_questionsTo_34 (by decide) ?_
        refine J_lv (lv' := [(0, .ref (a 0)), (1, .int (nI g)), (2, .int (nI (qtN ag i g + 1))), (3, .int (nI (i + 1)))]) [2, 3, 1, 0] rfl ?_
        rw [← qtN_t cq25]
        exact ih4 (i + 1) (by omega) (show x 12 - (i + 1) < x 12 - i from by omega)

set_option maxHeartbeats 4000000 in
set_option maxRecDepth 100000 in
theorem kX1_sendHome (ll : Launch) (Y : GY) (a : Nat → Nat) (x : Nat → Nat) (g : Nat) (h7 : x 7 < 16) (hg : g ≤ 3) : CT ll yX1_sendHome wsX1_sendHome { frames := 1, cells := 0, slots := 0, locals := 20 } Y [.ref (a 0), .int (nI g)] [oB (a 0) 1 [.int (nI (x 0)), .int (nI (x 1)), .int (nI (x 2)), .int (nI (x 3)), .int (nI (x 4)), .int (nI (x 5)), .int (nI (x 6)), .int (nI (x 7)), .int (nI (x 8)), .ref (a 1), .int (nI (x 10)), .ref (a 2), .int (nI (x 12)), .ref (a 3), .ref (a 4), .ref (a 5), .ref (a 6)]] (QI Y (fun (r : Int32) (_ : Unit) => r = nI (pc8 (clr (x 7) g))) (fun _ => [oB (a 0) 1 [.int (nI (((va_up x 7 (clr (x 7) g))) 0)), .int (nI (((va_up x 7 (clr (x 7) g))) 1)), .int (nI (((va_up x 7 (clr (x 7) g))) 2)), .int (nI (((va_up x 7 (clr (x 7) g))) 3)), .int (nI (((va_up x 7 (clr (x 7) g))) 4)), .int (nI (((va_up x 7 (clr (x 7) g))) 5)), .int (nI (((va_up x 7 (clr (x 7) g))) 6)), .int (nI (((va_up x 7 (clr (x 7) g))) 7)), .int (nI (((va_up x 7 (clr (x 7) g))) 8)), .ref (a 1), .int (nI (((va_up x 7 (clr (x 7) g))) 10)), .ref (a 2), .int (nI (((va_up x 7 (clr (x 7) g))) 12)), .ref (a 3), .ref (a 4), .ref (a 5), .ref (a 6)]])) 0 0 := by
  refine CT_of (cc := cX1_sendHome) (maxL := 2) (ret := (some .int)) (by decide) rfl (Nat.le_of_ble_eq_true rfl) ?_
  intro pp ee ss mm bl mt cc AA C hr hnm
  have w0 := C.t _ (List.mem_of_getElem? (i := 1) (show wsX1_sendHome[1]? = some (Cond.fieldLink RX1 49 "SecretDinner$Dinner" "here" "I") from rfl))
  have i1 : ∀ w ∈ wsX10, w ∈ wsX1_sendHome := inPlaces [9, 10, 11, 12, 13, 14, 15, 16, 17, 18, 19, 20, 21, 22, 23, 24, 25] (by decide +kernel)
  refine J_eq (lv' := [(0, .ref (a 0)), (1, .int (nI g))]) (ws' := [oB (a 0) 1 [.int (nI (x 0)), .int (nI (x 1)), .int (nI (x 2)), .int (nI (x 3)), .int (nI (x 4)), .int (nI (x 5)), .int (nI (x 6)), .int (nI (x 7)), .int (nI (x 8)), .ref (a 1), .int (nI (x 10)), .ref (a 2), .int (nI (x 12)), .ref (a 3), .ref (a 4), .ref (a 5), .ref (a 6)]]) rfl rfl rfl rfl ?_
  refine J_aload_n C dX1_sendHome_0 rfl 0 rfl ?_
  refine J_dup C dX1_sendHome_1 rfl ?_
  refine J_get (ci := 1) C i1 rfl 7 (by decide) w0 rfl 0 rfl rfl dX1_sendHome_2 ?_
  refine J_iconst C dX1_sendHome_5 (v := nI 1) (by decide) ?_
  refine J_iload_n C dX1_sendHome_6 rfl 1 rfl ?_
  refine J_ishlN C dX1_sendHome_7 (by omega) (Nat.lt_of_le_of_lt (Nat.mul_le_mul_left 1 (Nat.pow_le_pow_right (by decide) hg)) (by decide)) ?_
  refine J_iconst C dX1_sendHome_8 (v := iZ ((-1))) (by decide) ?_
  refine J_ixor C dX1_sendHome_9 ?_
  refine J_iand C dX1_sendHome_10 ?_
  refine J_top (y := .int (nI (clr (x 7) g))) (congrArg Value.int (clr_ok _ h7 _ (by omega))) ?_
  refine J_put (ci := 1) (ty := .int) (ws' := [oB (a 0) 1 [.int (nI (x 0)), .int (nI (x 1)), .int (nI (x 2)), .int (nI (x 3)), .int (nI (x 4)), .int (nI (x 5)), .int (nI (x 6)), .int (nI (clr (x 7) g)), .int (nI (x 8)), .ref (a 1), .int (nI (x 10)), .ref (a 2), .int (nI (x 12)), .ref (a 3), .ref (a 4), .ref (a 5), .ref (a 6)]]) C i1 tyX1 tyX1_ok nmX1 rfl 7 (by decide) w0 rfl rfl (by decide +kernel) (rfl) (rfl) 0 rfl (Nat.le_of_ble_eq_true rfl) dX1_sendHome_11 rfl ?_
  refine J_aload_n C dX1_sendHome_14 rfl 0 rfl ?_
  refine J_get (ci := 1) C i1 rfl 7 (by decide) w0 rfl 0 rfl rfl dX1_sendHome_15 ?_
  refine J_callI (wr := [oB (a 0) 1 [.int (nI (x 0)), .int (nI (x 1)), .int (nI (x 2)), .int (nI (x 3)), .int (nI (x 4)), .int (nI (x 5)), .int (nI (x 6)), .int (nI (clr (x 7) g)), .int (nI (x 8)), .ref (a 1), .int (nI (x 10)), .ref (a 2), .int (nI (x 12)), .ref (a 3), .ref (a 4), .ref (a 5), .ref (a 6)]]) C (R_S (st := []) (wc := []) C (kJ6_bitCount_0f7a4 ll Y (clr (x 7) g) (Nat.lt_trans (clr_lt _ _ h7) (by decide))) (va_cwS 1 C.t gX1_sendHome_J6_bitCount_0f7a4 rfl rfl rfl (by decide +kernel) ⟨by decide, by decide⟩) rfl [] rfl (by decide) rfl (Nat.le_of_ble_eq_true rfl) dX1_sendHome_18 ⟨Nat.le_of_ble_eq_true rfl, Nat.le_of_ble_eq_true rfl⟩) [] [0] rfl rfl (by decide) (by decide) (fun r18 u18 hw18 => ?_)
  subst hw18
  refine J_eq (pc' := 21) (lv' := [(0, .ref (a 0)), (1, .int (nI g))]) (st' := [.int (nI (pc8 (clr (x 7) g)))]) (ws' := [oB (a 0) 1 [.int (nI (x 0)), .int (nI (x 1)), .int (nI (x 2)), .int (nI (x 3)), .int (nI (x 4)), .int (nI (x 5)), .int (nI (x 6)), .int (nI (clr (x 7) g)), .int (nI (x 8)), .ref (a 1), .int (nI (x 10)), .ref (a 2), .int (nI (x 12)), .ref (a 3), .ref (a 4), .ref (a 5), .ref (a 6)]]) rfl rfl rfl rfl ?_
  exact J_iret C hr dX1_sendHome_21 (()) (rfl) (rfl)

set_option maxHeartbeats 4000000 in
set_option maxRecDepth 100000 in
theorem kX1_close (ll : Launch) (Y : GY) (a : Nat → Nat) (x : Nat → Nat) (c0 : Nat) (h3 : x 3 < 8) (h12 : x 12 ≤ 20) (hc : c0 < 8) : CT ll yX1_close wsX1_close { frames := 0, cells := 0, slots := 0, locals := 0 } Y [.ref (a 0), .int (nI c0)] [oB (a 0) 1 [.int (nI (x 0)), .int (nI (x 1)), .int (nI (x 2)), .int (nI (x 3)), .int (nI (x 4)), .int (nI (x 5)), .int (nI (x 6)), .int (nI (x 7)), .int (nI (x 8)), .ref (a 1), .int (nI (x 10)), .ref (a 2), .int (nI (x 12)), .ref (a 3), .ref (a 4), .ref (a 5), .ref (a 6)]] (QI Y (fun (r : Int32) (_ : Unit) => r = nI (x 3)) (fun _ => [oB (a 0) 1 [.int (nI (((va_up (va_up (va_up (va_up x 2 0) 4 (x 4 + 1)) 5 (if c0 = x 3 then x 5 + 1 else x 5)) 6 (if c0 = x 3 then x 6 + (21 - x 12) else x 6 + 4294967286))) 0)), .int (nI (((va_up (va_up (va_up (va_up x 2 0) 4 (x 4 + 1)) 5 (if c0 = x 3 then x 5 + 1 else x 5)) 6 (if c0 = x 3 then x 6 + (21 - x 12) else x 6 + 4294967286))) 1)), .int (nI (((va_up (va_up (va_up (va_up x 2 0) 4 (x 4 + 1)) 5 (if c0 = x 3 then x 5 + 1 else x 5)) 6 (if c0 = x 3 then x 6 + (21 - x 12) else x 6 + 4294967286))) 2)), .int (nI (((va_up (va_up (va_up (va_up x 2 0) 4 (x 4 + 1)) 5 (if c0 = x 3 then x 5 + 1 else x 5)) 6 (if c0 = x 3 then x 6 + (21 - x 12) else x 6 + 4294967286))) 3)), .int (nI (((va_up (va_up (va_up (va_up x 2 0) 4 (x 4 + 1)) 5 (if c0 = x 3 then x 5 + 1 else x 5)) 6 (if c0 = x 3 then x 6 + (21 - x 12) else x 6 + 4294967286))) 4)), .int (nI (((va_up (va_up (va_up (va_up x 2 0) 4 (x 4 + 1)) 5 (if c0 = x 3 then x 5 + 1 else x 5)) 6 (if c0 = x 3 then x 6 + (21 - x 12) else x 6 + 4294967286))) 5)), .int (nI (((va_up (va_up (va_up (va_up x 2 0) 4 (x 4 + 1)) 5 (if c0 = x 3 then x 5 + 1 else x 5)) 6 (if c0 = x 3 then x 6 + (21 - x 12) else x 6 + 4294967286))) 6)), .int (nI (((va_up (va_up (va_up (va_up x 2 0) 4 (x 4 + 1)) 5 (if c0 = x 3 then x 5 + 1 else x 5)) 6 (if c0 = x 3 then x 6 + (21 - x 12) else x 6 + 4294967286))) 7)), .int (nI (((va_up (va_up (va_up (va_up x 2 0) 4 (x 4 + 1)) 5 (if c0 = x 3 then x 5 + 1 else x 5)) 6 (if c0 = x 3 then x 6 + (21 - x 12) else x 6 + 4294967286))) 8)), .ref (a 1), .int (nI (((va_up (va_up (va_up (va_up x 2 0) 4 (x 4 + 1)) 5 (if c0 = x 3 then x 5 + 1 else x 5)) 6 (if c0 = x 3 then x 6 + (21 - x 12) else x 6 + 4294967286))) 10)), .ref (a 2), .int (nI (((va_up (va_up (va_up (va_up x 2 0) 4 (x 4 + 1)) 5 (if c0 = x 3 then x 5 + 1 else x 5)) 6 (if c0 = x 3 then x 6 + (21 - x 12) else x 6 + 4294967286))) 12)), .ref (a 3), .ref (a 4), .ref (a 5), .ref (a 6)]])) 0 0 := by
  refine CT_of (cc := cX1_close) (maxL := 2) (ret := (some .int)) (by decide) rfl (Nat.le_of_ble_eq_true rfl) ?_
  intro pp ee ss mm bl mt cc AA C hr hnm
  have w0 := C.t _ (List.mem_of_getElem? (i := 1) (show wsX1_close[1]? = some (Cond.fieldLink RX1 41 "SecretDinner$Dinner" "going" "Z") from rfl))
  have w1 := C.t _ (List.mem_of_getElem? (i := 2) (show wsX1_close[2]? = some (Cond.fieldLink RX1 109 "SecretDinner$Dinner" "evenings" "I") from rfl))
  have w2 := C.t _ (List.mem_of_getElem? (i := 3) (show wsX1_close[3]? = some (Cond.fieldLink RX1 75 "SecretDinner$Dinner" "culprit" "I") from rfl))
  have w3 := C.t _ (List.mem_of_getElem? (i := 5) (show wsX1_close[5]? = some (Cond.fieldLink RX1 115 "SecretDinner$Dinner" "score" "I") from rfl))
  have w4 := C.t _ (List.mem_of_getElem? (i := 4) (show wsX1_close[4]? = some (Cond.fieldLink RX1 112 "SecretDinner$Dinner" "found" "I") from rfl))
  have w5 := C.t _ (List.mem_of_getElem? (i := 6) (show wsX1_close[6]? = some (Cond.fieldLink RX1 55 "SecretDinner$Dinner" "asked" "I") from rfl))
  have i1 : ∀ w ∈ wsX10, w ∈ wsX1_close := inPlaces [7, 8, 9, 10, 11, 12, 13, 14, 15, 16, 17, 18, 19, 20, 21, 22, 23] (by decide +kernel)
  refine J_eq (lv' := [(0, .ref (a 0)), (1, .int (nI c0))]) (ws' := [oB (a 0) 1 [.int (nI (x 0)), .int (nI (x 1)), .int (nI (x 2)), .int (nI (x 3)), .int (nI (x 4)), .int (nI (x 5)), .int (nI (x 6)), .int (nI (x 7)), .int (nI (x 8)), .ref (a 1), .int (nI (x 10)), .ref (a 2), .int (nI (x 12)), .ref (a 3), .ref (a 4), .ref (a 5), .ref (a 6)]]) rfl rfl rfl rfl ?_
  refine J_aload_n C dX1_close_0 rfl 0 rfl ?_
  refine J_iconst C dX1_close_1 (v := nI 0) (by decide) ?_
  refine J_put (ci := 1) (ty := .boolean) (ws' := [oB (a 0) 1 [.int (nI (x 0)), .int (nI (x 1)), .int (nI 0), .int (nI (x 3)), .int (nI (x 4)), .int (nI (x 5)), .int (nI (x 6)), .int (nI (x 7)), .int (nI (x 8)), .ref (a 1), .int (nI (x 10)), .ref (a 2), .int (nI (x 12)), .ref (a 3), .ref (a 4), .ref (a 5), .ref (a 6)]]) C i1 tyX1 tyX1_ok nmX1 rfl 2 (by decide) w0 rfl rfl (by decide +kernel) (rfl) (rfl) 0 rfl (Nat.le_of_ble_eq_true rfl) dX1_close_2 rfl ?_
  refine J_aload_n C dX1_close_5 rfl 0 rfl ?_
  refine J_dup C dX1_close_6 rfl ?_
  refine J_get (ci := 1) C i1 rfl 4 (by decide) w1 rfl 0 rfl rfl dX1_close_7 ?_
  refine J_iconst C dX1_close_10 (v := nI 1) (by decide) ?_
  refine J_iaddN C dX1_close_11 ?_
  refine J_put (ci := 1) (ty := .int) (ws' := [oB (a 0) 1 [.int (nI (x 0)), .int (nI (x 1)), .int (nI 0), .int (nI (x 3)), .int (nI ((x 4) + 1)), .int (nI (x 5)), .int (nI (x 6)), .int (nI (x 7)), .int (nI (x 8)), .ref (a 1), .int (nI (x 10)), .ref (a 2), .int (nI (x 12)), .ref (a 3), .ref (a 4), .ref (a 5), .ref (a 6)]]) C i1 tyX1 tyX1_ok nmX1 rfl 4 (by decide) w1 rfl rfl (by decide +kernel) (rfl) (rfl) 0 rfl (Nat.le_of_ble_eq_true rfl) dX1_close_12 rfl ?_
  refine J_iload_n C dX1_close_15 rfl 1 rfl ?_
  refine J_aload_n C dX1_close_16 rfl 0 rfl ?_
  refine J_get (ci := 1) C i1 rfl 3 (by decide) w2 rfl 0 rfl rfl dX1_close_17 ?_
  refine J_icmp_neN (tgt := 52) C dX1_close_20 (by decide) (by omega) (by omega) (fun cq20 => ?_) (fun cq20 => ?_)
  · refine J_aload_n C dX1_close_52 rfl 0 rfl ?_
    refine J_dup C dX1_close_53 rfl ?_
    refine J_get (ci := 1) C i1 rfl 6 (by decide) w3 rfl 0 rfl rfl dX1_close_54 ?_
    refine J_bipush C dX1_close_57 (v := nI 10) (by decide) ?_
    refine J_isubD C dX1_close_59 ?_
    refine J_top (y := .int (nI (x 6 + 4294967286))) (congrArg Value.int (sub10Z _)) ?_
    refine J_put (ci := 1) (ty := .int) (ws' := [oB (a 0) 1 [.int (nI (x 0)), .int (nI (x 1)), .int (nI 0), .int (nI (x 3)), .int (nI ((x 4) + 1)), .int (nI (x 5)), .int (nI (x 6 + 4294967286)), .int (nI (x 7)), .int (nI (x 8)), .ref (a 1), .int (nI (x 10)), .ref (a 2), .int (nI (x 12)), .ref (a 3), .ref (a 4), .ref (a 5), .ref (a 6)]]) C i1 tyX1 tyX1_ok nmX1 rfl 6 (by decide) w3 rfl rfl (by decide +kernel) (rfl) (rfl) 0 rfl (Nat.le_of_ble_eq_true rfl) dX1_close_60 rfl ?_
    refine J_aload_n C dX1_close_63 rfl 0 rfl ?_
    refine J_get (ci := 1) C i1 rfl 3 (by decide) w2 rfl 0 rfl rfl dX1_close_64 ?_
    exact J_iret C hr dX1_close_67 (()) (rfl) (by first | (rw [if_pos cq20, if_pos cq20]; rfl) | (rw [if_neg cq20, if_neg cq20]; rfl))
  · refine J_aload_n C dX1_close_23 rfl 0 rfl ?_
    refine J_dup C dX1_close_24 rfl ?_
    refine J_get (ci := 1) C i1 rfl 5 (by decide) w4 rfl 0 rfl rfl dX1_close_25 ?_
    refine J_iconst C dX1_close_28 (v := nI 1) (by decide) ?_
    refine J_iaddN C dX1_close_29 ?_
    refine J_put (ci := 1) (ty := .int) (ws' := [oB (a 0) 1 [.int (nI (x 0)), .int (nI (x 1)), .int (nI 0), .int (nI (x 3)), .int (nI ((x 4) + 1)), .int (nI ((x 5) + 1)), .int (nI (x 6)), .int (nI (x 7)), .int (nI (x 8)), .ref (a 1), .int (nI (x 10)), .ref (a 2), .int (nI (x 12)), .ref (a 3), .ref (a 4), .ref (a 5), .ref (a 6)]]) C i1 tyX1 tyX1_ok nmX1 rfl 5 (by decide) w4 rfl rfl (by decide +kernel) (rfl) (rfl) 0 rfl (Nat.le_of_ble_eq_true rfl) dX1_close_30 rfl ?_
    refine J_aload_n C dX1_close_33 rfl 0 rfl ?_
    refine J_dup C dX1_close_34 rfl ?_
    refine J_get (ci := 1) C i1 rfl 6 (by decide) w3 rfl 0 rfl rfl dX1_close_35 ?_
    refine J_bipush C dX1_close_38 (v := nI 21) (by decide) ?_
    refine J_aload_n C dX1_close_40 rfl 0 rfl ?_
    refine J_get (ci := 1) C i1 rfl 12 (by decide) w5 rfl 0 rfl rfl dX1_close_41 ?_
    refine J_isubN C dX1_close_44 (by omega) ?_
    refine J_iaddN C dX1_close_45 ?_
    refine J_put (ci := 1) (ty := .int) (ws' := [oB (a 0) 1 [.int (nI (x 0)), .int (nI (x 1)), .int (nI 0), .int (nI (x 3)), .int (nI ((x 4) + 1)), .int (nI ((x 5) + 1)), .int (nI ((x 6) + (21 - (x 12)))), .int (nI (x 7)), .int (nI (x 8)), .ref (a 1), .int (nI (x 10)), .ref (a 2), .int (nI (x 12)), .ref (a 3), .ref (a 4), .ref (a 5), .ref (a 6)]]) C i1 tyX1 tyX1_ok nmX1 rfl 6 (by decide) w3 rfl rfl (by decide +kernel) (rfl) (rfl) 0 rfl (Nat.le_of_ble_eq_true rfl) dX1_close_46 rfl ?_
    refine J_goto (tgt := 63) C dX1_close_49 (by decide) ?_
    refine J_aload_n C dX1_close_63 rfl 0 rfl ?_
    refine J_get (ci := 1) C i1 rfl 3 (by decide) w2 rfl 0 rfl rfl dX1_close_64 ?_
    exact J_iret C hr dX1_close_67 (()) (rfl) (by first | (rw [if_pos cq20, if_pos cq20]; rfl) | (rw [if_neg cq20, if_neg cq20]; rfl))

set_option maxHeartbeats 4000000 in
set_option maxRecDepth 100000 in
theorem kX1_aboutHouse (ll : Launch) (Y : GY) (a : Nat → Nat) (x : Nat → Nat) (w : Nat) (h2 : x 2 ≤ 1) (h4 : x 4 < 2 ^ 31) (h7 : x 7 < 16) (hw : w ≤ 9) : CT ll yX1_aboutHouse wsX1_aboutHouse { frames := 1, cells := 0, slots := 0, locals := 20 } Y [.ref (a 0), .int (nI w)] [oB (a 0) 1 [.int (nI (x 0)), .int (nI (x 1)), .int (nI (x 2)), .int (nI (x 3)), .int (nI (x 4)), .int (nI (x 5)), .int (nI (x 6)), .int (nI (x 7)), .int (nI (x 8)), .ref (a 1), .int (nI (x 10)), .ref (a 2), .int (nI (x 12)), .ref (a 3), .ref (a 4), .ref (a 5), .ref (a 6)]] (QI Y (fun (r : Int32) (_ : Unit) => r = nI (abH x w)) (fun _ => [oB (a 0) 1 [.int (nI (x 0)), .int (nI (x 1)), .int (nI (x 2)), .int (nI (x 3)), .int (nI (x 4)), .int (nI (x 5)), .int (nI (x 6)), .int (nI (x 7)), .int (nI (x 8)), .ref (a 1), .int (nI (x 10)), .ref (a 2), .int (nI (x 12)), .ref (a 3), .ref (a 4), .ref (a 5), .ref (a 6)]])) 0 0 := by
  refine CT_of (cc := cX1_aboutHouse) (maxL := 2) (ret := (some .int)) (by decide) rfl (Nat.le_of_ble_eq_true rfl) ?_
  intro pp ee ss mm bl mt cc AA C hr hnm
  have w0 := C.t _ (List.mem_of_getElem? (i := 1) (show wsX1_aboutHouse[1]? = some (Cond.fieldLink RX1 38 "SecretDinner$Dinner" "guests" "I") from rfl))
  have w1 := C.t _ (List.mem_of_getElem? (i := 2) (show wsX1_aboutHouse[2]? = some (Cond.fieldLink RX1 41 "SecretDinner$Dinner" "going" "Z") from rfl))
  have w2 := C.t _ (List.mem_of_getElem? (i := 3) (show wsX1_aboutHouse[3]? = some (Cond.fieldLink RX1 55 "SecretDinner$Dinner" "asked" "I") from rfl))
  have w3 := C.t _ (List.mem_of_getElem? (i := 4) (show wsX1_aboutHouse[4]? = some (Cond.fieldLink RX1 61 "SecretDinner$Dinner" "proofs" "I") from rfl))
  have w4 := C.t _ (List.mem_of_getElem? (i := 5) (show wsX1_aboutHouse[5]? = some (Cond.fieldLink RX1 109 "SecretDinner$Dinner" "evenings" "I") from rfl))
  have w5 := C.t _ (List.mem_of_getElem? (i := 6) (show wsX1_aboutHouse[6]? = some (Cond.fieldLink RX1 112 "SecretDinner$Dinner" "found" "I") from rfl))
  have w6 := C.t _ (List.mem_of_getElem? (i := 7) (show wsX1_aboutHouse[7]? = some (Cond.fieldLink RX1 115 "SecretDinner$Dinner" "score" "I") from rfl))
  have w7 := C.t _ (List.mem_of_getElem? (i := 8) (show wsX1_aboutHouse[8]? = some (Cond.fieldLink RX1 9 "SecretDinner$Dinner" "s" "I") from rfl))
  have w8 := C.t _ (List.mem_of_getElem? (i := 9) (show wsX1_aboutHouse[9]? = some (Cond.fieldLink RX1 49 "SecretDinner$Dinner" "here" "I") from rfl))
  have w9 := C.t _ (List.mem_of_getElem? (i := 10) (show wsX1_aboutHouse[10]? = some (Cond.fieldLink RX1 75 "SecretDinner$Dinner" "culprit" "I") from rfl))
  have i1 : ∀ w ∈ wsX10, w ∈ wsX1_aboutHouse := inPlaces [18, 19, 20, 21, 22, 23, 24, 25, 26, 27, 28, 29, 30, 31, 32, 33, 34] (by decide +kernel)
  refine J_eq (lv' := [(0, .ref (a 0)), (1, .int (nI w))]) (ws' := [oB (a 0) 1 [.int (nI (x 0)), .int (nI (x 1)), .int (nI (x 2)), .int (nI (x 3)), .int (nI (x 4)), .int (nI (x 5)), .int (nI (x 6)), .int (nI (x 7)), .int (nI (x 8)), .ref (a 1), .int (nI (x 10)), .ref (a 2), .int (nI (x 12)), .ref (a 3), .ref (a 4), .ref (a 5), .ref (a 6)]]) rfl rfl rfl rfl ?_
  refine J_iload_n C dX1_aboutHouse_0 rfl 1 rfl ?_
  rcases (show w = 0 ∨ w = 1 ∨ w = 2 ∨ w = 3 ∨ w = 4 ∨ w = 5 ∨ w = 6 ∨ w = 7 ∨ w = 8 ∨ w = 9 by omega) with rfl | rfl | rfl | rfl | rfl | rfl | rfl | rfl | rfl | rfl
  · refine J_tabIn (off := 51) (tgt := 52) C dX1_aboutHouse_1 (by decide) (by decide) (by decide) (by decide) ?_
    refine J_aload_n C dX1_aboutHouse_52 rfl 0 rfl ?_
    refine J_get (ci := 1) C i1 rfl 1 (by decide) w0 rfl 0 rfl rfl dX1_aboutHouse_53 ?_
    exact J_iret C hr dX1_aboutHouse_56 (()) (rfl) (rfl)
  · refine J_tabIn (off := 56) (tgt := 57) C dX1_aboutHouse_1 (by decide) (by decide) (by decide) (by decide) ?_
    refine J_aload_n C dX1_aboutHouse_57 rfl 0 rfl ?_
    refine J_get (ci := 1) C i1 rfl 2 (by decide) w1 rfl 0 rfl rfl dX1_aboutHouse_58 ?_
    refine J_if_eqN (tgt := 68) C dX1_aboutHouse_61 (by decide) (by omega) (fun cq61 => ?_) (fun cq61 => ?_)
    · refine J_iconst C dX1_aboutHouse_68 (v := nI 0) (by decide) ?_
      exact J_iret C hr dX1_aboutHouse_69 (()) (by rw [show abH x 1 = x 2 from rfl]; congr 1; omega) (rfl)
    · refine J_iconst C dX1_aboutHouse_64 (v := nI 1) (by decide) ?_
      refine J_goto (tgt := 69) C dX1_aboutHouse_65 (by decide) ?_
      exact J_iret C hr dX1_aboutHouse_69 (()) (by rw [show abH x 1 = x 2 from rfl]; congr 1; omega) (rfl)
  · refine J_tabIn (off := 69) (tgt := 70) C dX1_aboutHouse_1 (by decide) (by decide) (by decide) (by decide) ?_
    refine J_aload_n C dX1_aboutHouse_70 rfl 0 rfl ?_
    refine J_get (ci := 1) C i1 rfl 12 (by decide) w2 rfl 0 rfl rfl dX1_aboutHouse_71 ?_
    exact J_iret C hr dX1_aboutHouse_74 (()) (rfl) (rfl)
  · refine J_tabIn (off := 74) (tgt := 75) C dX1_aboutHouse_1 (by decide) (by decide) (by decide) (by decide) ?_
    refine J_aload_n C dX1_aboutHouse_75 rfl 0 rfl ?_
    refine J_get (ci := 1) C i1 rfl 10 (by decide) w3 rfl 0 rfl rfl dX1_aboutHouse_76 ?_
    exact J_iret C hr dX1_aboutHouse_79 (()) (rfl) (rfl)
  · refine J_tabIn (off := 79) (tgt := 80) C dX1_aboutHouse_1 (by decide) (by decide) (by decide) (by decide) ?_
    refine J_aload_n C dX1_aboutHouse_80 rfl 0 rfl ?_
    refine J_get (ci := 1) C i1 rfl 4 (by decide) w4 rfl 0 rfl rfl dX1_aboutHouse_81 ?_
    exact J_iret C hr dX1_aboutHouse_84 (()) (rfl) (rfl)
  · refine J_tabIn (off := 84) (tgt := 85) C dX1_aboutHouse_1 (by decide) (by decide) (by decide) (by decide) ?_
    refine J_aload_n C dX1_aboutHouse_85 rfl 0 rfl ?_
    refine J_get (ci := 1) C i1 rfl 5 (by decide) w5 rfl 0 rfl rfl dX1_aboutHouse_86 ?_
    exact J_iret C hr dX1_aboutHouse_89 (()) (rfl) (rfl)
  · refine J_tabIn (off := 89) (tgt := 90) C dX1_aboutHouse_1 (by decide) (by decide) (by decide) (by decide) ?_
    refine J_aload_n C dX1_aboutHouse_90 rfl 0 rfl ?_
    refine J_get (ci := 1) C i1 rfl 6 (by decide) w6 rfl 0 rfl rfl dX1_aboutHouse_91 ?_
    exact J_iret C hr dX1_aboutHouse_94 (()) (rfl) (rfl)
  · refine J_tabIn (off := 94) (tgt := 95) C dX1_aboutHouse_1 (by decide) (by decide) (by decide) (by decide) ?_
    refine J_aload_n C dX1_aboutHouse_95 rfl 0 rfl ?_
    refine J_get (ci := 1) C i1 rfl 0 (by decide) w7 rfl 0 rfl rfl dX1_aboutHouse_96 ?_
    exact J_iret C hr dX1_aboutHouse_99 (()) (rfl) (rfl)
  · refine J_tabIn (off := 99) (tgt := 100) C dX1_aboutHouse_1 (by decide) (by decide) (by decide) (by decide) ?_
    refine J_aload_n C dX1_aboutHouse_100 rfl 0 rfl ?_
    refine J_get (ci := 1) C i1 rfl 7 (by decide) w8 rfl 0 rfl rfl dX1_aboutHouse_101 ?_
    refine J_callI (wr := [oB (a 0) 1 [.int (nI (x 0)), .int (nI (x 1)), .int (nI (x 2)), .int (nI (x 3)), .int (nI (x 4)), .int (nI (x 5)), .int (nI (x 6)), .int (nI (x 7)), .int (nI (x 8)), .ref (a 1), .int (nI (x 10)), .ref (a 2), .int (nI (x 12)), .ref (a 3), .ref (a 4), .ref (a 5), .ref (a 6)]]) C (R_S (st := []) (wc := []) C (kJ6_bitCount_0f7a4 ll Y (x 7) (by first | assumption | omega)) (va_cwS 1 C.t gX1_aboutHouse_J6_bitCount_0f7a4 rfl rfl rfl (by decide +kernel) ⟨by decide, by decide⟩) rfl [] rfl (by decide) rfl (Nat.le_of_ble_eq_true rfl) dX1_aboutHouse_104 ⟨Nat.le_of_ble_eq_true rfl, Nat.le_of_ble_eq_true rfl⟩) [] [0] rfl rfl (by decide) (by decide) (fun r104 u104 hw104 => ?_)
    subst hw104
    refine J_eq (pc' := 107) (lv' := [(0, .ref (a 0)), (1, .int (nI 8))]) (st' := [.int (nI (pc8 (x 7)))]) (ws' := [oB (a 0) 1 [.int (nI (x 0)), .int (nI (x 1)), .int (nI (x 2)), .int (nI (x 3)), .int (nI (x 4)), .int (nI (x 5)), .int (nI (x 6)), .int (nI (x 7)), .int (nI (x 8)), .ref (a 1), .int (nI (x 10)), .ref (a 2), .int (nI (x 12)), .ref (a 3), .ref (a 4), .ref (a 5), .ref (a 6)]]) rfl rfl rfl rfl ?_
    exact J_iret C hr dX1_aboutHouse_107 (()) (rfl) (rfl)
  · refine J_tabOut (tgt := 108) C dX1_aboutHouse_1 (by decide) (by decide) ?_
    refine J_aload_n C dX1_aboutHouse_108 rfl 0 rfl ?_
    refine J_get (ci := 1) C i1 rfl 2 (by decide) w1 rfl 0 rfl rfl dX1_aboutHouse_109 ?_
    refine J_if_neN (tgt := 122) C dX1_aboutHouse_112 (by decide) (by omega) (fun cq112 => ?_) (fun cq112 => ?_)
    · refine J_iconst C dX1_aboutHouse_122 (v := iZ ((-1))) (by decide) ?_
      refine J_goto (tgt := 130) C dX1_aboutHouse_123 (by decide) ?_
      exact J_iret C hr dX1_aboutHouse_130 (()) (by first | rw [show abH x 9 = 4294967295 from if_pos (by omega), m1_nI] | rw [show abH x 9 = x 3 from if_neg (by omega)]) (rfl)
    · refine J_aload_n C dX1_aboutHouse_115 rfl 0 rfl ?_
      refine J_get (ci := 1) C i1 rfl 4 (by decide) w4 rfl 0 rfl rfl dX1_aboutHouse_116 ?_
      refine J_if_neN (tgt := 126) C dX1_aboutHouse_119 (by decide) (by omega) (fun cq119 => ?_) (fun cq119 => ?_)
      · refine J_aload_n C dX1_aboutHouse_126 rfl 0 rfl ?_
        refine J_get (ci := 1) C i1 rfl 3 (by decide) w9 rfl 0 rfl rfl dX1_aboutHouse_127 ?_
        exact J_iret C hr dX1_aboutHouse_130 (()) (by first | rw [show abH x 9 = 4294967295 from if_pos (by omega), m1_nI] | rw [show abH x 9 = x 3 from if_neg (by omega)]) (rfl)
      · refine J_iconst C dX1_aboutHouse_122 (v := iZ ((-1))) (by decide) ?_
        refine J_goto (tgt := 130) C dX1_aboutHouse_123 (by decide) ?_
        exact J_iret C hr dX1_aboutHouse_130 (()) (by first | rw [show abH x 9 = 4294967295 from if_pos (by omega), m1_nI] | rw [show abH x 9 = x 3 from if_neg (by omega)]) (rfl)

set_option maxHeartbeats 4000000 in
set_option maxRecDepth 100000 in
theorem kX1_aboutGuest (ll : Launch) (Y : GY) (a : Nat → Nat) (x : Nat → Nat) (hd : Nat → Nat) (pb : Nat → Nat) (ag : Nat → Nat) (L : List Nat) (f : Nat → Int64) (g : Nat) (w : Nat) (h1 : x 1 = 3 ∨ x 1 = 4) (h2 : x 2 ≤ 1) (h7 : x 7 < 16) (h12 : x 12 ≤ 20) (hag : ∀ i, i < x 12 → ag i < 4) (hL : L.length ≤ 5040) (hB : ∀ d ∈ L, d < 2 ^ 44) (hg : g ≤ 3) (hw : w ≤ 7) : CT ll yX1_aboutGuest wsX1_aboutGuest { frames := 2, cells := 0, slots := 0, locals := 43 } Y [.ref (a 0), .int (nI g), .int (nI w)] [oB (a 0) 1 [.int (nI (x 0)), .int (nI (x 1)), .int (nI (x 2)), .int (nI (x 3)), .int (nI (x 4)), .int (nI (x 5)), .int (nI (x 6)), .int (nI (x 7)), .int (nI (x 8)), .ref (a 1), .int (nI (x 10)), .ref (a 2), .int (nI (x 12)), .ref (a 3), .ref (a 4), .ref (a 5), .ref (a 6)], aI Y (a 1) 4 (nF hd), aI Y (a 2) 4 (nF pb), aI Y (a 3) 20 (nF ag), oB (a 6) 0 [.ref (a 7), .int (nI L.length), .long (lN (andL L)), .long (lN (orL L))], aJ Y (a 7) 5040 f] (QI Y (fun (r : Int32) (_ : Unit) => r = nI (abG x hd pb ag L g w)) (fun _ => [oB (a 0) 1 [.int (nI (x 0)), .int (nI (x 1)), .int (nI (x 2)), .int (nI (x 3)), .int (nI (x 4)), .int (nI (x 5)), .int (nI (x 6)), .int (nI (x 7)), .int (nI (x 8)), .ref (a 1), .int (nI (x 10)), .ref (a 2), .int (nI (x 12)), .ref (a 3), .ref (a 4), .ref (a 5), .ref (a 6)], aI Y (a 1) 4 (nF hd), aI Y (a 2) 4 (nF pb), aI Y (a 3) 20 (nF ag), oB (a 6) 0 [.ref (a 7), .int (nI L.length), .long (lN (andL L)), .long (lN (orL L))], aJ Y (a 7) 5040 f])) 0 0 := by
  refine CT_of (cc := cX1_aboutGuest) (maxL := 3) (ret := (some .int)) (by decide) rfl (Nat.le_of_ble_eq_true rfl) ?_
  intro pp ee ss mm bl mt cc AA C hr hnm
  have w0 := C.t _ (List.mem_of_getElem? (i := 1) (show wsX1_aboutGuest[1]? = some (Cond.fieldLink RX1 38 "SecretDinner$Dinner" "guests" "I") from rfl))
  have w1 := C.nm ("SecretDinner$Dinner", 82, yX4_sizeOfHand) (List.mem_of_getElem? (i := 6) (show xn_m[6]? = some ("SecretDinner$Dinner", 82, yX4_sizeOfHand) from rfl))
  have w2 := C.t _ (List.mem_of_getElem? (i := 7) (show wsX1_aboutGuest[7]? = some (Cond.initialized RX4) from rfl))
  have w3 := C.t _ (List.mem_of_getElem? (i := 6) (show wsX1_aboutGuest[6]? = some (Cond.static yX4_sizeOfHand) from rfl))
  have w4 := C.t _ (List.mem_of_getElem? (i := 2) (show wsX1_aboutGuest[2]? = some (Cond.fieldLink RX1 49 "SecretDinner$Dinner" "here" "I") from rfl))
  have w5 := C.t _ (List.mem_of_getElem? (i := 3) (show wsX1_aboutGuest[3]? = some (Cond.fieldLink RX1 19 "SecretDinner$Dinner" "proofsBy" "[I") from rfl))
  have w6 := C.t _ (List.mem_of_getElem? (i := 4) (show wsX1_aboutGuest[4]? = some (Cond.fieldLink RX1 34 "SecretDinner$Dinner" "possible" "LSecretDinner$Deals;") from rfl))
  have w7 := C.t _ (List.mem_of_getElem? (i := 5) (show wsX1_aboutGuest[5]? = some (Cond.fieldLink RX1 41 "SecretDinner$Dinner" "going" "Z") from rfl))
  have i1 : ∀ w ∈ wsX10, w ∈ wsX1_aboutGuest := inPlaces [45, 46, 47, 48, 49, 50, 51, 52, 53, 54, 55, 56, 57, 58, 59, 60, 61] (by decide +kernel)
  refine J_eq (lv' := [(0, .ref (a 0)), (1, .int (nI g)), (2, .int (nI w))]) (ws' := [oB (a 0) 1 [.int (nI (x 0)), .int (nI (x 1)), .int (nI (x 2)), .int (nI (x 3)), .int (nI (x 4)), .int (nI (x 5)), .int (nI (x 6)), .int (nI (x 7)), .int (nI (x 8)), .ref (a 1), .int (nI (x 10)), .ref (a 2), .int (nI (x 12)), .ref (a 3), .ref (a 4), .ref (a 5), .ref (a 6)], aI Y (a 1) 4 (nF hd), aI Y (a 2) 4 (nF pb), aI Y (a 3) 20 (nF ag), oB (a 6) 0 [.ref (a 7), .int (nI L.length), .long (lN (andL L)), .long (lN (orL L))], aJ Y (a 7) 5040 f]) rfl rfl rfl rfl ?_
  refine J_iload_n C dX1_aboutGuest_0 rfl 2 rfl ?_
  rcases (show w = 0 ∨ w = 1 ∨ w = 2 ∨ w = 3 ∨ w = 4 ∨ w = 5 ∨ w = 6 ∨ w = 7 by omega) with rfl | rfl | rfl | rfl | rfl | rfl | rfl | rfl
  · refine J_tabIn (off := 43) (tgt := 44) C dX1_aboutGuest_1 (by decide) (by decide) (by decide) (by decide) ?_
    refine J_aload_n C dX1_aboutGuest_44 rfl 0 rfl ?_
    refine J_get (ci := 1) C i1 rfl 1 (by decide) w0 rfl 0 rfl rfl dX1_aboutGuest_45 ?_
    refine J_iload_n C dX1_aboutGuest_48 rfl 1 rfl ?_
    refine J_callI (wr := [oB (a 0) 1 [.int (nI (x 0)), .int (nI (x 1)), .int (nI (x 2)), .int (nI (x 3)), .int (nI (x 4)), .int (nI (x 5)), .int (nI (x 6)), .int (nI (x 7)), .int (nI (x 8)), .ref (a 1), .int (nI (x 10)), .ref (a 2), .int (nI (x 12)), .ref (a 3), .ref (a 4), .ref (a 5), .ref (a 6)], aI Y (a 1) 4 (nF hd), aI Y (a 2) 4 (nF pb), aI Y (a 3) 20 (nF ag), oB (a 6) 0 [.ref (a 7), .int (nI L.length), .long (lN (andL L)), .long (lN (orL L))], aJ Y (a 7) 5040 f]) C (R_SN (st := []) (wc := []) C (kX4_sizeOfHand ll Y (x 1) g (by first | assumption | omega) (by first | assumption | omega)) ⟨va_cnB (host := "SecretDinner") 2 C.t gX1_aboutGuest_X4_sizeOfHand_n82 rfl rfl rfl (va_Nw.of rfl w1) w2 (by decide +kernel) ⟨by decide, by decide⟩, w3, trivial⟩ rfl [] rfl (by decide) rfl (Nat.le_of_ble_eq_true rfl) dX1_aboutGuest_49 ⟨Nat.le_of_ble_eq_true rfl, Nat.le_of_ble_eq_true rfl⟩) [] [0, 1, 2, 3, 4, 5] rfl rfl (by decide) (by decide) (fun r49 u49 hw49 => ?_)
    subst hw49
    refine J_eq (pc' := 52) (lv' := [(0, .ref (a 0)), (1, .int (nI g)), (2, .int (nI 0))]) (st' := [.int (nI (szH (x 1) g))]) (ws' := [oB (a 0) 1 [.int (nI (x 0)), .int (nI (x 1)), .int (nI (x 2)), .int (nI (x 3)), .int (nI (x 4)), .int (nI (x 5)), .int (nI (x 6)), .int (nI (x 7)), .int (nI (x 8)), .ref (a 1), .int (nI (x 10)), .ref (a 2), .int (nI (x 12)), .ref (a 3), .ref (a 4), .ref (a 5), .ref (a 6)], aI Y (a 1) 4 (nF hd), aI Y (a 2) 4 (nF pb), aI Y (a 3) 20 (nF ag), oB (a 6) 0 [.ref (a 7), .int (nI L.length), .long (lN (andL L)), .long (lN (orL L))], aJ Y (a 7) 5040 f]) rfl rfl rfl rfl ?_
    exact J_iret C hr dX1_aboutGuest_52 (()) (rfl) (rfl)
  · refine J_tabIn (off := 52) (tgt := 53) C dX1_aboutGuest_1 (by decide) (by decide) (by decide) (by decide) ?_
    refine J_aload_n C dX1_aboutGuest_53 rfl 0 rfl ?_
    refine J_get (ci := 1) C i1 rfl 7 (by decide) w4 rfl 0 rfl rfl dX1_aboutGuest_54 ?_
    refine J_iload_n C dX1_aboutGuest_57 rfl 1 rfl ?_
    refine J_ishrN C dX1_aboutGuest_58 (by omega) (by omega) ?_
    refine J_iconst C dX1_aboutGuest_59 (v := nI 1) (by decide) ?_
    refine J_iandN C dX1_aboutGuest_60 ?_
    exact J_iret C hr dX1_aboutGuest_61 (()) (rfl) (rfl)
  · refine J_tabIn (off := 61) (tgt := 62) C dX1_aboutGuest_1 (by decide) (by decide) (by decide) (by decide) ?_
    refine J_aload_n C dX1_aboutGuest_62 rfl 0 rfl ?_
    refine J_iload_n C dX1_aboutGuest_63 rfl 1 rfl ?_
    refine J_callI (wr := [aI Y (a 1) 4 (nF hd), aI Y (a 2) 4 (nF pb), oB (a 6) 0 [.ref (a 7), .int (nI L.length), .long (lN (andL L)), .long (lN (orL L))], aJ Y (a 7) 5040 f]) C (R_V (st := []) (wc := [oB (a 0) 1 [.int (nI (x 0)), .int (nI (x 1)), .int (nI (x 2)), .int (nI (x 3)), .int (nI (x 4)), .int (nI (x 5)), .int (nI (x 6)), .int (nI (x 7)), .int (nI (x 8)), .ref (a 1), .int (nI (x 10)), .ref (a 2), .int (nI (x 12)), .ref (a 3), .ref (a 4), .ref (a 5), .ref (a 6)], aI Y (a 3) 20 (nF ag)]) C (kX1_questionsTo ll Y a x ag g (by first | assumption | omega) (by first | assumption | omega) (by first | assumption | omega)) (cwV 1 C.t gX1_aboutGuest_X1_questionsTo rfl rfl rfl (by decide +kernel) ⟨by decide, by decide⟩) rfl [0, 3] rfl (by decide) ⟨0, 1, _, _, rfl, rfl, rfl⟩ rfl (Nat.le_of_ble_eq_true rfl) dX1_aboutGuest_64 ⟨Nat.le_of_ble_eq_true rfl, Nat.le_of_ble_eq_true rfl⟩) [0, 3] [1, 2, 4, 5] rfl rfl (by decide) (by decide) (fun r64 u64 hw64 => ?_)
    subst hw64
    refine J_eq (pc' := 67) (lv' := [(0, .ref (a 0)), (1, .int (nI g)), (2, .int (nI 2))]) (st' := [.int (nI (qtN ag (x 12) g))]) (ws' := [aI Y (a 1) 4 (nF hd), aI Y (a 2) 4 (nF pb), oB (a 6) 0 [.ref (a 7), .int (nI L.length), .long (lN (andL L)), .long (lN (orL L))], aJ Y (a 7) 5040 f, oB (a 0) 1 [.int (nI (x 0)), .int (nI (x 1)), .int (nI (x 2)), .int (nI (x 3)), .int (nI (x 4)), .int (nI (x 5)), .int (nI (x 6)), .int (nI (x 7)), .int (nI (x 8)), .ref (a 1), .int (nI (x 10)), .ref (a 2), .int (nI (x 12)), .ref (a 3), .ref (a 4), .ref (a 5), .ref (a 6)], aI Y (a 3) 20 (nF ag)]) rfl rfl rfl rfl ?_
    refine J_perm (ws' := [oB (a 0) 1 [.int (nI (x 0)), .int (nI (x 1)), .int (nI (x 2)), .int (nI (x 3)), .int (nI (x 4)), .int (nI (x 5)), .int (nI (x 6)), .int (nI (x 7)), .int (nI (x 8)), .ref (a 1), .int (nI (x 10)), .ref (a 2), .int (nI (x 12)), .ref (a 3), .ref (a 4), .ref (a 5), .ref (a 6)], aI Y (a 1) 4 (nF hd), aI Y (a 2) 4 (nF pb), aI Y (a 3) 20 (nF ag), oB (a 6) 0 [.ref (a 7), .int (nI L.length), .long (lN (andL L)), .long (lN (orL L))], aJ Y (a 7) 5040 f]) [4, 0, 1, 5, 2, 3] rfl (by decide) ?_
    exact J_iret C hr dX1_aboutGuest_67 (()) (rfl) (rfl)
  · refine J_tabIn (off := 67) (tgt := 68) C dX1_aboutGuest_1 (by decide) (by decide) (by decide) (by decide) ?_
    refine J_iload_n C dX1_aboutGuest_68 rfl 1 rfl ?_
    refine J_if_ltN (tgt := 86) C dX1_aboutGuest_69 (by decide) (by omega) ?_
    refine J_iload_n C dX1_aboutGuest_72 rfl 1 rfl ?_
    refine J_iconst C dX1_aboutGuest_73 (v := nI 4) (by decide) ?_
    refine J_icmp_geN (tgt := 86) C dX1_aboutGuest_74 (by decide) (by omega) (by omega) (fun cq74 => ?_) (fun cq74 => ?_)
    · exact absurd cq74 (by omega)
    · refine J_aload_n C dX1_aboutGuest_77 rfl 0 rfl ?_
      refine J_get (ci := 1) C i1 rfl 11 (by decide) w5 rfl 0 rfl rfl dX1_aboutGuest_78 ?_
      refine J_iload_n C dX1_aboutGuest_81 rfl 1 rfl ?_
      refine J_ialdF C 2 rfl (by omega) (by omega) dX1_aboutGuest_82 ?_
      refine J_goto (tgt := 87) C dX1_aboutGuest_83 (by decide) ?_
      exact J_iret C hr dX1_aboutGuest_87 (()) (rfl) (rfl)
  · refine J_tabIn (off := 87) (tgt := 88) C dX1_aboutGuest_1 (by decide) (by decide) (by decide) (by decide) ?_
    refine J_aload_n C dX1_aboutGuest_88 rfl 0 rfl ?_
    refine J_get (ci := 1) C i1 rfl 16 (by decide) w6 rfl 0 rfl rfl dX1_aboutGuest_89 ?_
    refine J_iload_n C dX1_aboutGuest_92 rfl 1 rfl ?_
    refine J_callI (wr := [oB (a 0) 1 [.int (nI (x 0)), .int (nI (x 1)), .int (nI (x 2)), .int (nI (x 3)), .int (nI (x 4)), .int (nI (x 5)), .int (nI (x 6)), .int (nI (x 7)), .int (nI (x 8)), .ref (a 1), .int (nI (x 10)), .ref (a 2), .int (nI (x 12)), .ref (a 3), .ref (a 4), .ref (a 5), .ref (a 6)], aI Y (a 1) 4 (nF hd), aI Y (a 2) 4 (nF pb), aI Y (a 3) 20 (nF ag)]) C (R_V (st := []) (wc := [oB (a 6) 0 [.ref (a 7), .int (nI L.length), .long (lN (andL L)), .long (lN (orL L))], aJ Y (a 7) 5040 f]) C (kX0_cardsInAll ll Y (a 6) (a 7) L f g (by first | assumption | omega) (by first | assumption | omega)) (cwV 1 C.t gX1_aboutGuest_X0_cardsInAll rfl rfl rfl (by decide +kernel) ⟨by decide, by decide⟩) rfl [4, 5] rfl (by decide) ⟨0, 0, _, _, rfl, rfl, rfl⟩ rfl (Nat.le_of_ble_eq_true rfl) dX1_aboutGuest_93 ⟨Nat.le_of_ble_eq_true rfl, Nat.le_of_ble_eq_true rfl⟩) [4, 5] [0, 1, 2, 3] rfl rfl (by decide) (by decide) (fun r93 u93 hw93 => ?_)
    subst hw93
    refine J_eq (pc' := 96) (lv' := [(0, .ref (a 0)), (1, .int (nI g)), (2, .int (nI 4))]) (st' := [.int (nI (if L.length = 0 then 0 else hAt (andL L) g))]) (ws' := [oB (a 0) 1 [.int (nI (x 0)), .int (nI (x 1)), .int (nI (x 2)), .int (nI (x 3)), .int (nI (x 4)), .int (nI (x 5)), .int (nI (x 6)), .int (nI (x 7)), .int (nI (x 8)), .ref (a 1), .int (nI (x 10)), .ref (a 2), .int (nI (x 12)), .ref (a 3), .ref (a 4), .ref (a 5), .ref (a 6)], aI Y (a 1) 4 (nF hd), aI Y (a 2) 4 (nF pb), aI Y (a 3) 20 (nF ag), oB (a 6) 0 [.ref (a 7), .int (nI L.length), .long (lN (andL L)), .long (lN (orL L))], aJ Y (a 7) 5040 f]) rfl rfl rfl rfl ?_
    exact J_iret C hr dX1_aboutGuest_96 (()) (rfl) (rfl)
  · refine J_tabIn (off := 96) (tgt := 97) C dX1_aboutGuest_1 (by decide) (by decide) (by decide) (by decide) ?_
    refine J_aload_n C dX1_aboutGuest_97 rfl 0 rfl ?_
    refine J_get (ci := 1) C i1 rfl 16 (by decide) w6 rfl 0 rfl rfl dX1_aboutGuest_98 ?_
    refine J_iload_n C dX1_aboutGuest_101 rfl 1 rfl ?_
    refine J_callI (wr := [oB (a 0) 1 [.int (nI (x 0)), .int (nI (x 1)), .int (nI (x 2)), .int (nI (x 3)), .int (nI (x 4)), .int (nI (x 5)), .int (nI (x 6)), .int (nI (x 7)), .int (nI (x 8)), .ref (a 1), .int (nI (x 10)), .ref (a 2), .int (nI (x 12)), .ref (a 3), .ref (a 4), .ref (a 5), .ref (a 6)], aI Y (a 1) 4 (nF hd), aI Y (a 2) 4 (nF pb), aI Y (a 3) 20 (nF ag)]) C (R_V (st := []) (wc := [oB (a 6) 0 [.ref (a 7), .int (nI L.length), .long (lN (andL L)), .long (lN (orL L))], aJ Y (a 7) 5040 f]) C (kX0_cardsInSome ll Y (a 6) (a 7) L f g (by first | assumption | omega) (by first | assumption | omega)) (cwV 1 C.t gX1_aboutGuest_X0_cardsInSome rfl rfl rfl (by decide +kernel) ⟨by decide, by decide⟩) rfl [4, 5] rfl (by decide) ⟨0, 0, _, _, rfl, rfl, rfl⟩ rfl (Nat.le_of_ble_eq_true rfl) dX1_aboutGuest_102 ⟨Nat.le_of_ble_eq_true rfl, Nat.le_of_ble_eq_true rfl⟩) [4, 5] [0, 1, 2, 3] rfl rfl (by decide) (by decide) (fun r102 u102 hw102 => ?_)
    subst hw102
    refine J_eq (pc' := 105) (lv' := [(0, .ref (a 0)), (1, .int (nI g)), (2, .int (nI 5))]) (st' := [.int (nI (hAt (orL L) g))]) (ws' := [oB (a 0) 1 [.int (nI (x 0)), .int (nI (x 1)), .int (nI (x 2)), .int (nI (x 3)), .int (nI (x 4)), .int (nI (x 5)), .int (nI (x 6)), .int (nI (x 7)), .int (nI (x 8)), .ref (a 1), .int (nI (x 10)), .ref (a 2), .int (nI (x 12)), .ref (a 3), .ref (a 4), .ref (a 5), .ref (a 6)], aI Y (a 1) 4 (nF hd), aI Y (a 2) 4 (nF pb), aI Y (a 3) 20 (nF ag), oB (a 6) 0 [.ref (a 7), .int (nI L.length), .long (lN (andL L)), .long (lN (orL L))], aJ Y (a 7) 5040 f]) rfl rfl rfl rfl ?_
    exact J_iret C hr dX1_aboutGuest_105 (()) (rfl) (rfl)
  · refine J_tabIn (off := 105) (tgt := 106) C dX1_aboutGuest_1 (by decide) (by decide) (by decide) (by decide) ?_
    refine J_aload_n C dX1_aboutGuest_106 rfl 0 rfl ?_
    refine J_get (ci := 1) C i1 rfl 16 (by decide) w6 rfl 0 rfl rfl dX1_aboutGuest_107 ?_
    refine J_iload_n C dX1_aboutGuest_110 rfl 1 rfl ?_
    refine J_callI (wr := [oB (a 0) 1 [.int (nI (x 0)), .int (nI (x 1)), .int (nI (x 2)), .int (nI (x 3)), .int (nI (x 4)), .int (nI (x 5)), .int (nI (x 6)), .int (nI (x 7)), .int (nI (x 8)), .ref (a 1), .int (nI (x 10)), .ref (a 2), .int (nI (x 12)), .ref (a 3), .ref (a 4), .ref (a 5), .ref (a 6)], aI Y (a 1) 4 (nF hd), aI Y (a 2) 4 (nF pb), aI Y (a 3) 20 (nF ag)]) C (R_V (st := []) (wc := [oB (a 6) 0 [.ref (a 7), .int (nI L.length), .long (lN (andL L)), .long (lN (orL L))], aJ Y (a 7) 5040 f]) C (kX0_isWrongInAll ll Y (a 6) (a 7) L f g (by first | assumption | omega) (by first | assumption | omega)) (cwV 1 C.t gX1_aboutGuest_X0_isWrongInAll rfl rfl rfl (by decide +kernel) ⟨by decide, by decide⟩) rfl [4, 5] rfl (by decide) ⟨0, 0, _, _, rfl, rfl, rfl⟩ rfl (Nat.le_of_ble_eq_true rfl) dX1_aboutGuest_111 ⟨Nat.le_of_ble_eq_true rfl, Nat.le_of_ble_eq_true rfl⟩) [4, 5] [0, 1, 2, 3] rfl rfl (by decide) (by decide) (fun r111 u111 hw111 => ?_)
    subst hw111
    refine J_eq (pc' := 114) (lv' := [(0, .ref (a 0)), (1, .int (nI g)), (2, .int (nI 6))]) (st' := [.int (p2i (0 < L.length ∧ (andL L).testBit (40 + g) = true))]) (ws' := [oB (a 0) 1 [.int (nI (x 0)), .int (nI (x 1)), .int (nI (x 2)), .int (nI (x 3)), .int (nI (x 4)), .int (nI (x 5)), .int (nI (x 6)), .int (nI (x 7)), .int (nI (x 8)), .ref (a 1), .int (nI (x 10)), .ref (a 2), .int (nI (x 12)), .ref (a 3), .ref (a 4), .ref (a 5), .ref (a 6)], aI Y (a 1) 4 (nF hd), aI Y (a 2) 4 (nF pb), aI Y (a 3) 20 (nF ag), oB (a 6) 0 [.ref (a 7), .int (nI L.length), .long (lN (andL L)), .long (lN (orL L))], aJ Y (a 7) 5040 f]) rfl rfl rfl rfl ?_
    refine J_if_eqP (tgt := 121) C dX1_aboutGuest_114 (by decide) (fun cq114 => ?_) (fun cq114 => ?_)
    · refine J_iconst C dX1_aboutGuest_121 (v := nI 0) (by decide) ?_
      exact J_iret C hr dX1_aboutGuest_122 (()) (by first | rw [show abG x hd pb ag L g 6 = 1 from if_pos cq114] | rw [show abG x hd pb ag L g 6 = 0 from if_neg cq114]) (rfl)
    · refine J_iconst C dX1_aboutGuest_117 (v := nI 1) (by decide) ?_
      refine J_goto (tgt := 122) C dX1_aboutGuest_118 (by decide) ?_
      exact J_iret C hr dX1_aboutGuest_122 (()) (by first | rw [show abG x hd pb ag L g 6 = 1 from if_pos cq114] | rw [show abG x hd pb ag L g 6 = 0 from if_neg cq114]) (rfl)
  · refine J_tabOut (tgt := 123) C dX1_aboutGuest_1 (by decide) (by decide) ?_
    refine J_aload_n C dX1_aboutGuest_123 rfl 0 rfl ?_
    refine J_get (ci := 1) C i1 rfl 2 (by decide) w7 rfl 0 rfl rfl dX1_aboutGuest_124 ?_
    refine J_if_eqN (tgt := 134) C dX1_aboutGuest_127 (by decide) (by omega) (fun cq127 => ?_) (fun cq127 => ?_)
    · refine J_aload_n C dX1_aboutGuest_134 rfl 0 rfl ?_
      refine J_iload_n C dX1_aboutGuest_135 rfl 1 rfl ?_
      refine J_callI (wr := [aI Y (a 2) 4 (nF pb), aI Y (a 3) 20 (nF ag), oB (a 6) 0 [.ref (a 7), .int (nI L.length), .long (lN (andL L)), .long (lN (orL L))], aJ Y (a 7) 5040 f]) C (R_V (st := []) (wc := [oB (a 0) 1 [.int (nI (x 0)), .int (nI (x 1)), .int (nI (x 2)), .int (nI (x 3)), .int (nI (x 4)), .int (nI (x 5)), .int (nI (x 6)), .int (nI (x 7)), .int (nI (x 8)), .ref (a 1), .int (nI (x 10)), .ref (a 2), .int (nI (x 12)), .ref (a 3), .ref (a 4), .ref (a 5), .ref (a 6)], aI Y (a 1) 4 (nF hd)]) C (kX1_handOf ll Y a x hd g (by first | assumption | omega)) (cwV 1 C.t gX1_aboutGuest_X1_handOf rfl rfl rfl (by decide +kernel) ⟨by decide, by decide⟩) rfl [0, 1] rfl (by decide) ⟨0, 1, _, _, rfl, rfl, rfl⟩ rfl (Nat.le_of_ble_eq_true rfl) dX1_aboutGuest_136 ⟨Nat.le_of_ble_eq_true rfl, Nat.le_of_ble_eq_true rfl⟩) [0, 1] [2, 3, 4, 5] rfl rfl (by decide) (by decide) (fun r136 u136 hw136 => ?_)
      subst hw136
      refine J_eq (pc' := 139) (lv' := [(0, .ref (a 0)), (1, .int (nI g)), (2, .int (nI 7))]) (st' := [.int (nI (hd g))]) (ws' := [aI Y (a 2) 4 (nF pb), aI Y (a 3) 20 (nF ag), oB (a 6) 0 [.ref (a 7), .int (nI L.length), .long (lN (andL L)), .long (lN (orL L))], aJ Y (a 7) 5040 f, oB (a 0) 1 [.int (nI (x 0)), .int (nI (x 1)), .int (nI (x 2)), .int (nI (x 3)), .int (nI (x 4)), .int (nI (x 5)), .int (nI (x 6)), .int (nI (x 7)), .int (nI (x 8)), .ref (a 1), .int (nI (x 10)), .ref (a 2), .int (nI (x 12)), .ref (a 3), .ref (a 4), .ref (a 5), .ref (a 6)], aI Y (a 1) 4 (nF hd)]) rfl rfl rfl rfl ?_
      refine J_perm (ws' := [oB (a 0) 1 [.int (nI (x 0)), .int (nI (x 1)), .int (nI (x 2)), .int (nI (x 3)), .int (nI (x 4)), .int (nI (x 5)), .int (nI (x 6)), .int (nI (x 7)), .int (nI (x 8)), .ref (a 1), .int (nI (x 10)), .ref (a 2), .int (nI (x 12)), .ref (a 3), .ref (a 4), .ref (a 5), .ref (a 6)], aI Y (a 1) 4 (nF hd), aI Y (a 2) 4 (nF pb), aI Y (a 3) 20 (nF ag), oB (a 6) 0 [.ref (a 7), .int (nI L.length), .long (lN (andL L)), .long (lN (orL L))], aJ Y (a 7) 5040 f]) [4, 5, 0, 1, 2, 3] rfl (by decide) ?_
      exact J_iret C hr dX1_aboutGuest_139 (()) (by first | rw [show abG x hd pb ag L g 7 = 4294967295 from if_pos (by omega), m1_nI] | rw [show abG x hd pb ag L g 7 = hd g from if_neg (by omega)]) (rfl)
    · refine J_iconst C dX1_aboutGuest_130 (v := iZ ((-1))) (by decide) ?_
      refine J_goto (tgt := 139) C dX1_aboutGuest_131 (by decide) ?_
      exact J_iret C hr dX1_aboutGuest_139 (()) (by first | rw [show abG x hd pb ag L g 7 = 4294967295 from if_pos (by omega), m1_nI] | rw [show abG x hd pb ag L g 7 = hd g from if_neg (by omega)]) (rfl)

set_option maxHeartbeats 4000000 in
set_option maxRecDepth 100000 in
theorem kX1_aboutQuestion (ll : Launch) (Y : GY) (a : Nat → Nat) (x : Nat → Nat) (ag : Nat → Nat) (ac : Nat → Nat) (an : Nat → Nat) (q : Nat) (w : Nat) (hq : q < 20) (hw : w ≤ 2) : CT ll yX1_aboutQuestion wsX1_aboutQuestion { frames := 0, cells := 0, slots := 0, locals := 0 } Y [.ref (a 0), .int (nI q), .int (nI w)] [oB (a 0) 1 [.int (nI (x 0)), .int (nI (x 1)), .int (nI (x 2)), .int (nI (x 3)), .int (nI (x 4)), .int (nI (x 5)), .int (nI (x 6)), .int (nI (x 7)), .int (nI (x 8)), .ref (a 1), .int (nI (x 10)), .ref (a 2), .int (nI (x 12)), .ref (a 3), .ref (a 4), .ref (a 5), .ref (a 6)], aI Y (a 3) 20 (nF ag), aI Y (a 4) 20 (nF ac), aI Y (a 5) 20 (nF an)] (QI Y (fun (r : Int32) (_ : Unit) => r = nI (abQ ag ac an q w)) (fun _ => [oB (a 0) 1 [.int (nI (x 0)), .int (nI (x 1)), .int (nI (x 2)), .int (nI (x 3)), .int (nI (x 4)), .int (nI (x 5)), .int (nI (x 6)), .int (nI (x 7)), .int (nI (x 8)), .ref (a 1), .int (nI (x 10)), .ref (a 2), .int (nI (x 12)), .ref (a 3), .ref (a 4), .ref (a 5), .ref (a 6)], aI Y (a 3) 20 (nF ag), aI Y (a 4) 20 (nF ac), aI Y (a 5) 20 (nF an)])) 0 0 := by
  refine CT_of (cc := cX1_aboutQuestion) (maxL := 3) (ret := (some .int)) (by decide) rfl (Nat.le_of_ble_eq_true rfl) ?_
  intro pp ee ss mm bl mt cc AA C hr hnm
  have w0 := C.t _ (List.mem_of_getElem? (i := 1) (show wsX1_aboutQuestion[1]? = some (Cond.fieldLink RX1 22 "SecretDinner$Dinner" "askedGuests" "[I") from rfl))
  have w1 := C.t _ (List.mem_of_getElem? (i := 2) (show wsX1_aboutQuestion[2]? = some (Cond.fieldLink RX1 25 "SecretDinner$Dinner" "askedCards" "[I") from rfl))
  have w2 := C.t _ (List.mem_of_getElem? (i := 3) (show wsX1_aboutQuestion[3]? = some (Cond.fieldLink RX1 28 "SecretDinner$Dinner" "answers" "[I") from rfl))
  have i1 : ∀ w ∈ wsX10, w ∈ wsX1_aboutQuestion := inPlaces [4, 5, 6, 7, 8, 9, 10, 11, 12, 13, 14, 15, 16, 17, 18, 19, 20] (by decide +kernel)
  refine J_eq (lv' := [(0, .ref (a 0)), (1, .int (nI q)), (2, .int (nI w))]) (ws' := [oB (a 0) 1 [.int (nI (x 0)), .int (nI (x 1)), .int (nI (x 2)), .int (nI (x 3)), .int (nI (x 4)), .int (nI (x 5)), .int (nI (x 6)), .int (nI (x 7)), .int (nI (x 8)), .ref (a 1), .int (nI (x 10)), .ref (a 2), .int (nI (x 12)), .ref (a 3), .ref (a 4), .ref (a 5), .ref (a 6)], aI Y (a 3) 20 (nF ag), aI Y (a 4) 20 (nF ac), aI Y (a 5) 20 (nF an)]) rfl rfl rfl rfl ?_
  refine J_iload_n C dX1_aboutQuestion_0 rfl 1 rfl ?_
  refine J_if_ltN (tgt := 10) C dX1_aboutQuestion_1 (by decide) (by omega) ?_
  refine J_iload_n C dX1_aboutQuestion_4 rfl 1 rfl ?_
  refine J_bipush C dX1_aboutQuestion_5 (v := nI 20) (by decide) ?_
  refine J_icmp_ltN (tgt := 12) C dX1_aboutQuestion_7 (by decide) (by omega) (by omega) (fun cq7 => ?_) (fun cq7 => ?_)
  · refine J_iload_n C dX1_aboutQuestion_12 rfl 2 rfl ?_
    rcases (show w = 0 ∨ w = 1 ∨ w = 2 by omega) with rfl | rfl | rfl
    · refine J_lookup (off := 27) (tgt := 40) C dX1_aboutQuestion_13 (by decide) (by decide) (by decide) ?_
      refine J_aload_n C dX1_aboutQuestion_40 rfl 0 rfl ?_
      refine J_get (ci := 1) C i1 rfl 13 (by decide) w0 rfl 0 rfl rfl dX1_aboutQuestion_41 ?_
      refine J_iload_n C dX1_aboutQuestion_44 rfl 1 rfl ?_
      refine J_ialdF C 1 rfl (by omega) (by omega) dX1_aboutQuestion_45 ?_
      exact J_iret C hr dX1_aboutQuestion_46 (()) (rfl) (rfl)
    · refine J_lookup (off := 34) (tgt := 47) C dX1_aboutQuestion_13 (by decide) (by decide) (by decide) ?_
      refine J_aload_n C dX1_aboutQuestion_47 rfl 0 rfl ?_
      refine J_get (ci := 1) C i1 rfl 14 (by decide) w1 rfl 0 rfl rfl dX1_aboutQuestion_48 ?_
      refine J_iload_n C dX1_aboutQuestion_51 rfl 1 rfl ?_
      refine J_ialdF C 2 rfl (by omega) (by omega) dX1_aboutQuestion_52 ?_
      exact J_iret C hr dX1_aboutQuestion_53 (()) (rfl) (rfl)
    · refine J_lookup (off := 41) (tgt := 54) C dX1_aboutQuestion_13 (by decide) (by decide) (by decide) ?_
      refine J_aload_n C dX1_aboutQuestion_54 rfl 0 rfl ?_
      refine J_get (ci := 1) C i1 rfl 15 (by decide) w2 rfl 0 rfl rfl dX1_aboutQuestion_55 ?_
      refine J_iload_n C dX1_aboutQuestion_58 rfl 1 rfl ?_
      refine J_ialdF C 3 rfl (by omega) (by omega) dX1_aboutQuestion_59 ?_
      exact J_iret C hr dX1_aboutQuestion_60 (()) (rfl) (rfl)
  · exact absurd cq7 (by omega)

