set_option maxHeartbeats 4000000 in
set_option maxRecDepth 100000 in
theorem kX5_append_r1 (ll : Launch) (Y : GY) (m : Nat → Nat) (v : Nat → Nat) (c : Int32) (hc : c.toInt < 0 ∨ 127 < c.toInt) : CT ll yX5_append wsX5_append { frames := 1, cells := 0, slots := 0, locals := 22 } Y [.ref (m 0), .int c] [oB (m 0) 5 [.ref (m 1), .ref (m 2), .int (nI (v 2)), .int (nI (v 3)), .ref (m 3), .int (nI (v 5)), .int (nI (v 6)), .ref (m 4), .ref (m 5), .ref (m 6), .ref (m 7), .ref (m 8), .ref (m 9), .ref (m 10), .ref (m 11), .int (nI (v 15)), .int (nI (v 16)), .int (nI (v 17)), .int (nI (v 18)), .long (lN (v 19))]] (QI Y (fun (r : Int32) (_ : Unit) => r = nI 0) (fun _ => [oB (m 0) 5 [.ref (m 1), .ref (m 2), .int (nI (((va_up v 3 1)) 2)), .int (nI (((va_up v 3 1)) 3)), .ref (m 3), .int (nI (((va_up v 3 1)) 5)), .int (nI (((va_up v 3 1)) 6)), .ref (m 4), .ref (m 5), .ref (m 6), .ref (m 7), .ref (m 8), .ref (m 9), .ref (m 10), .ref (m 11), .int (nI (((va_up v 3 1)) 15)), .int (nI (((va_up v 3 1)) 16)), .int (nI (((va_up v 3 1)) 17)), .int (nI (((va_up v 3 1)) 18)), .long (lN (((va_up v 3 1)) 19))]])) 0 0 := by
  refine CT_of (cc := cX5_append) (maxL := 2) (ret := (some .int)) (by decide) rfl (Nat.le_of_ble_eq_true rfl) ?_
  intro pp ee ss mm bl mt cc AA C hr hnm
  refine J_eq (lv' := [(0, .ref (m 0)), (1, .int c)]) (ws' := [oB (m 0) 5 [.ref (m 1), .ref (m 2), .int (nI (v 2)), .int (nI (v 3)), .ref (m 3), .int (nI (v 5)), .int (nI (v 6)), .ref (m 4), .ref (m 5), .ref (m 6), .ref (m 7), .ref (m 8), .ref (m 9), .ref (m 10), .ref (m 11), .int (nI (v 15)), .int (nI (v 16)), .int (nI (v 17)), .int (nI (v 18)), .long (lN (v 19))]]) rfl rfl rfl rfl ?_
  refine J_aload_n C dX5_append_0 rfl 0 rfl ?_
  refine J_iload_n C dX5_append_1 rfl 1 rfl ?_
  refine J_iconst C dX5_append_2 (v := nI 0) (by decide) ?_
  refine J_bipush C dX5_append_3 (v := nI 127) (by decide) ?_
  refine J_callI (wr := [oB (m 0) 5 [.ref (m 1), .ref (m 2), .int (nI (v 2)), .int (nI (v 3)), .ref (m 3), .int (nI (v 5)), .int (nI (v 6)), .ref (m 4), .ref (m 5), .ref (m 6), .ref (m 7), .ref (m 8), .ref (m 9), .ref (m 10), .ref (m 11), .int (nI (v 15)), .int (nI (v 16)), .int (nI (v 17)), .int (nI (v 18)), .long (lN (v 19))]]) C (R_S (st := [.ref (m 0)]) (wc := []) C (kX5_in ll Y c (nI 0) (nI 127)) (va_cwS 3 C.t gX5_append_X5_in rfl rfl rfl (by decide +kernel) ⟨by decide, by decide⟩) rfl [] rfl (by decide) rfl (Nat.le_of_ble_eq_true rfl) dX5_append_5 ⟨Nat.le_of_ble_eq_true rfl, Nat.le_of_ble_eq_true rfl⟩) [] [0] rfl rfl (by decide) (by decide) (fun r5 u5 hw5 => ?_)
  subst hw5
  refine J_eq (pc' := 8) (lv' := [(0, .ref (m 0)), (1, .int c)]) (st' := [.int (p2i ((nI 0).toInt ≤ c.toInt ∧ c.toInt ≤ (nI 127).toInt)), .ref (m 0)]) (ws' := [oB (m 0) 5 [.ref (m 1), .ref (m 2), .int (nI (v 2)), .int (nI (v 3)), .ref (m 3), .int (nI (v 5)), .int (nI (v 6)), .ref (m 4), .ref (m 5), .ref (m 6), .ref (m 7), .ref (m 8), .ref (m 9), .ref (m 10), .ref (m 11), .int (nI (v 15)), .int (nI (v 16)), .int (nI (v 17)), .int (nI (v 18)), .long (lN (v 19))]]) rfl rfl rfl rfl ?_
  refine J_top (y := .int (p2i (0 ≤ c.toInt ∧ c.toInt ≤ 127))) (congrArg Value.int (p2i_if (in_I (by decide) (by decide)))) ?_
  refine J_if_neP (tgt := 15) C dX5_append_8 (by decide) (fun cq8 => ?_) (fun cq8 => ?_)
  · exact absurd cq8 (by omega)
  · refine J_iconst C dX5_append_11 (v := nI 1) (by decide) ?_
    refine J_goto (tgt := 29) C dX5_append_12 (by decide) ?_
    refine J_callI (wr := []) C (R_V (st := []) (wc := [oB (m 0) 5 [.ref (m 1), .ref (m 2), .int (nI (v 2)), .int (nI (v 3)), .ref (m 3), .int (nI (v 5)), .int (nI (v 6)), .ref (m 4), .ref (m 5), .ref (m 6), .ref (m 7), .ref (m 8), .ref (m 9), .ref (m 10), .ref (m 11), .int (nI (v 15)), .int (nI (v 16)), .int (nI (v 17)), .int (nI (v 18)), .long (lN (v 19))]]) C (kX5_refused ll Y m v 1 (by first | assumption | omega)) (cwV 1 C.t gX5_append_X5_refused rfl rfl rfl (by decide +kernel) ⟨by decide, by decide⟩) rfl [0] rfl (by decide) ⟨0, 5, _, _, rfl, rfl, rfl⟩ rfl (Nat.le_of_ble_eq_true rfl) dX5_append_29 ⟨Nat.le_of_ble_eq_true rfl, Nat.le_of_ble_eq_true rfl⟩) [0] [] rfl rfl (by decide) (by decide) (fun r29 u29 hw29 => ?_)
    subst hw29
    refine J_eq (pc' := 32) (lv' := [(0, .ref (m 0)), (1, .int c)]) (st' := [.int (p2i (0 < 1))]) (ws' := [oB (m 0) 5 [.ref (m 1), .ref (m 2), .int (nI (((va_up v 3 1)) 2)), .int (nI (((va_up v 3 1)) 3)), .ref (m 3), .int (nI (((va_up v 3 1)) 5)), .int (nI (((va_up v 3 1)) 6)), .ref (m 4), .ref (m 5), .ref (m 6), .ref (m 7), .ref (m 8), .ref (m 9), .ref (m 10), .ref (m 11), .int (nI (((va_up v 3 1)) 15)), .int (nI (((va_up v 3 1)) 16)), .int (nI (((va_up v 3 1)) 17)), .int (nI (((va_up v 3 1)) 18)), .long (lN (((va_up v 3 1)) 19))]]) rfl rfl rfl rfl ?_
    refine J_if_eqP (tgt := 37) C dX5_append_32 (by decide) (fun cq32 => ?_) (fun cq32 => ?_)
    · exact absurd cq32 (by decide)
    · refine J_iconst C dX5_append_35 (v := nI 0) (by decide) ?_
      exact J_iret C hr dX5_append_36 (()) (rfl) (rfl)

set_option maxHeartbeats 4000000 in
set_option maxRecDepth 100000 in
theorem kX5_append_r2 (ll : Launch) (Y : GY) (m : Nat → Nat) (v : Nat → Nat) (c : Nat) (hc : c ≤ 127) (h5 : v 5 = 90) : CT ll yX5_append wsX5_append { frames := 1, cells := 0, slots := 0, locals := 22 } Y [.ref (m 0), .int (nI c)] [oB (m 0) 5 [.ref (m 1), .ref (m 2), .int (nI (v 2)), .int (nI (v 3)), .ref (m 3), .int (nI (v 5)), .int (nI (v 6)), .ref (m 4), .ref (m 5), .ref (m 6), .ref (m 7), .ref (m 8), .ref (m 9), .ref (m 10), .ref (m 11), .int (nI (v 15)), .int (nI (v 16)), .int (nI (v 17)), .int (nI (v 18)), .long (lN (v 19))]] (QI Y (fun (r : Int32) (_ : Unit) => r = nI 0) (fun _ => [oB (m 0) 5 [.ref (m 1), .ref (m 2), .int (nI (((va_up v 3 2)) 2)), .int (nI (((va_up v 3 2)) 3)), .ref (m 3), .int (nI (((va_up v 3 2)) 5)), .int (nI (((va_up v 3 2)) 6)), .ref (m 4), .ref (m 5), .ref (m 6), .ref (m 7), .ref (m 8), .ref (m 9), .ref (m 10), .ref (m 11), .int (nI (((va_up v 3 2)) 15)), .int (nI (((va_up v 3 2)) 16)), .int (nI (((va_up v 3 2)) 17)), .int (nI (((va_up v 3 2)) 18)), .long (lN (((va_up v 3 2)) 19))]])) 0 0 := by
  refine CT_of (cc := cX5_append) (maxL := 2) (ret := (some .int)) (by decide) rfl (Nat.le_of_ble_eq_true rfl) ?_
  intro pp ee ss mm bl mt cc AA C hr hnm
  have w0 := C.t _ (List.mem_of_getElem? (i := 1) (show wsX5_append[1]? = some (Cond.fieldLink RX5 142 "SecretDinnerModel" "length" "I") from rfl))
  have i5 : ∀ w ∈ wsX50, w ∈ wsX5_append := inPlaces [12, 13, 14, 15, 16, 17, 18, 19, 20, 21, 22, 23, 24, 25, 26, 27, 28, 29, 30, 31] (by decide +kernel)
  refine J_eq (lv' := [(0, .ref (m 0)), (1, .int (nI c))]) (ws' := [oB (m 0) 5 [.ref (m 1), .ref (m 2), .int (nI (v 2)), .int (nI (v 3)), .ref (m 3), .int (nI (v 5)), .int (nI (v 6)), .ref (m 4), .ref (m 5), .ref (m 6), .ref (m 7), .ref (m 8), .ref (m 9), .ref (m 10), .ref (m 11), .int (nI (v 15)), .int (nI (v 16)), .int (nI (v 17)), .int (nI (v 18)), .long (lN (v 19))]]) rfl rfl rfl rfl ?_
  refine J_aload_n C dX5_append_0 rfl 0 rfl ?_
  refine J_iload_n C dX5_append_1 rfl 1 rfl ?_
  refine J_iconst C dX5_append_2 (v := nI 0) (by decide) ?_
  refine J_bipush C dX5_append_3 (v := nI 127) (by decide) ?_
  refine J_callI (wr := [oB (m 0) 5 [.ref (m 1), .ref (m 2), .int (nI (v 2)), .int (nI (v 3)), .ref (m 3), .int (nI (v 5)), .int (nI (v 6)), .ref (m 4), .ref (m 5), .ref (m 6), .ref (m 7), .ref (m 8), .ref (m 9), .ref (m 10), .ref (m 11), .int (nI (v 15)), .int (nI (v 16)), .int (nI (v 17)), .int (nI (v 18)), .long (lN (v 19))]]) C (R_S (st := [.ref (m 0)]) (wc := []) C (kX5_in_n ll Y c 0 127 (by first | assumption | omega) (by first | assumption | omega) (by first | assumption | omega)) (va_cwS 3 C.t gX5_append_X5_in rfl rfl rfl (by decide +kernel) ⟨by decide, by decide⟩) rfl [] rfl (by decide) rfl (Nat.le_of_ble_eq_true rfl) dX5_append_5 ⟨Nat.le_of_ble_eq_true rfl, Nat.le_of_ble_eq_true rfl⟩) [] [0] rfl rfl (by decide) (by decide) (fun r5 u5 hw5 => ?_)
  subst hw5
  refine J_eq (pc' := 8) (lv' := [(0, .ref (m 0)), (1, .int (nI c))]) (st' := [.int (p2i (0 ≤ c ∧ c ≤ 127)), .ref (m 0)]) (ws' := [oB (m 0) 5 [.ref (m 1), .ref (m 2), .int (nI (v 2)), .int (nI (v 3)), .ref (m 3), .int (nI (v 5)), .int (nI (v 6)), .ref (m 4), .ref (m 5), .ref (m 6), .ref (m 7), .ref (m 8), .ref (m 9), .ref (m 10), .ref (m 11), .int (nI (v 15)), .int (nI (v 16)), .int (nI (v 17)), .int (nI (v 18)), .long (lN (v 19))]]) rfl rfl rfl rfl ?_
  refine J_if_neP (tgt := 15) C dX5_append_8 (by decide) (fun cq8 => ?_) (fun cq8 => ?_)
  · refine J_aload_n C dX5_append_15 rfl 0 rfl ?_
    refine J_get (ci := 5) C i5 rfl 5 (by decide) w0 rfl 0 rfl rfl dX5_append_16 ?_
    refine J_bipush C dX5_append_19 (v := nI 90) (by decide) ?_
    refine J_icmp_neN (tgt := 28) C dX5_append_21 (by decide) (by omega) (by omega) (fun cq21 => ?_) (fun cq21 => ?_)
    · exact absurd cq21 (by omega)
    · refine J_iconst C dX5_append_24 (v := nI 2) (by decide) ?_
      refine J_goto (tgt := 29) C dX5_append_25 (by decide) ?_
      refine J_callI (wr := []) C (R_V (st := []) (wc := [oB (m 0) 5 [.ref (m 1), .ref (m 2), .int (nI (v 2)), .int (nI (v 3)), .ref (m 3), .int (nI (v 5)), .int (nI (v 6)), .ref (m 4), .ref (m 5), .ref (m 6), .ref (m 7), .ref (m 8), .ref (m 9), .ref (m 10), .ref (m 11), .int (nI (v 15)), .int (nI (v 16)), .int (nI (v 17)), .int (nI (v 18)), .long (lN (v 19))]]) C (kX5_refused ll Y m v 2 (by first | assumption | omega)) (cwV 1 C.t gX5_append_X5_refused rfl rfl rfl (by decide +kernel) ⟨by decide, by decide⟩) rfl [0] rfl (by decide) ⟨0, 5, _, _, rfl, rfl, rfl⟩ rfl (Nat.le_of_ble_eq_true rfl) dX5_append_29 ⟨Nat.le_of_ble_eq_true rfl, Nat.le_of_ble_eq_true rfl⟩) [0] [] rfl rfl (by decide) (by decide) (fun r29 u29 hw29 => ?_)
      subst hw29
      refine J_eq (pc' := 32) (lv' := [(0, .ref (m 0)), (1, .int (nI c))]) (st' := [.int (p2i (0 < 2))]) (ws' := [oB (m 0) 5 [.ref (m 1), .ref (m 2), .int (nI (((va_up v 3 2)) 2)), .int (nI (((va_up v 3 2)) 3)), .ref (m 3), .int (nI (((va_up v 3 2)) 5)), .int (nI (((va_up v 3 2)) 6)), .ref (m 4), .ref (m 5), .ref (m 6), .ref (m 7), .ref (m 8), .ref (m 9), .ref (m 10), .ref (m 11), .int (nI (((va_up v 3 2)) 15)), .int (nI (((va_up v 3 2)) 16)), .int (nI (((va_up v 3 2)) 17)), .int (nI (((va_up v 3 2)) 18)), .long (lN (((va_up v 3 2)) 19))]]) rfl rfl rfl rfl ?_
      refine J_if_eqP (tgt := 37) C dX5_append_32 (by decide) (fun cq32 => ?_) (fun cq32 => ?_)
      · exact absurd cq32 (by decide)
      · refine J_iconst C dX5_append_35 (v := nI 0) (by decide) ?_
        exact J_iret C hr dX5_append_36 (()) (rfl) (rfl)
  · exact absurd cq8 (by omega)

set_option maxHeartbeats 4000000 in
set_option maxRecDepth 100000 in
theorem kX5_append_k (ll : Launch) (Y : GY) (m : Nat → Nat) (v : Nat → Nat) (tx : Nat → Nat) (c : Nat) (hc : c ≤ 127) (h5 : v 5 < 90) : CT ll yX5_append wsX5_append { frames := 1, cells := 0, slots := 0, locals := 22 } Y [.ref (m 0), .int (nI c)] [oB (m 0) 5 [.ref (m 1), .ref (m 2), .int (nI (v 2)), .int (nI (v 3)), .ref (m 3), .int (nI (v 5)), .int (nI (v 6)), .ref (m 4), .ref (m 5), .ref (m 6), .ref (m 7), .ref (m 8), .ref (m 9), .ref (m 10), .ref (m 11), .int (nI (v 15)), .int (nI (v 16)), .int (nI (v 17)), .int (nI (v 18)), .long (lN (v 19))], aI Y (m 3) 90 (nF tx)] (QI Y (fun (r : Int32) (_ : Unit) => r = nI (v 5 + 1)) (fun _ => [oB (m 0) 5 [.ref (m 1), .ref (m 2), .int (nI (((va_up (va_up v 3 0) 5 (v 5 + 1))) 2)), .int (nI (((va_up (va_up v 3 0) 5 (v 5 + 1))) 3)), .ref (m 3), .int (nI (((va_up (va_up v 3 0) 5 (v 5 + 1))) 5)), .int (nI (((va_up (va_up v 3 0) 5 (v 5 + 1))) 6)), .ref (m 4), .ref (m 5), .ref (m 6), .ref (m 7), .ref (m 8), .ref (m 9), .ref (m 10), .ref (m 11), .int (nI (((va_up (va_up v 3 0) 5 (v 5 + 1))) 15)), .int (nI (((va_up (va_up v 3 0) 5 (v 5 + 1))) 16)), .int (nI (((va_up (va_up v 3 0) 5 (v 5 + 1))) 17)), .int (nI (((va_up (va_up v 3 0) 5 (v 5 + 1))) 18)), .long (lN (((va_up (va_up v 3 0) 5 (v 5 + 1))) 19))], aI Y (m 3) 90 (nF ((va_up tx (v 5) c)))])) 0 0 := by
  refine CT_of (cc := cX5_append) (maxL := 2) (ret := (some .int)) (by decide) rfl (Nat.le_of_ble_eq_true rfl) ?_
  intro pp ee ss mm bl mt cc AA C hr hnm
  have w0 := C.t _ (List.mem_of_getElem? (i := 1) (show wsX5_append[1]? = some (Cond.fieldLink RX5 142 "SecretDinnerModel" "length" "I") from rfl))
  have w1 := C.t _ (List.mem_of_getElem? (i := 2) (show wsX5_append[2]? = some (Cond.fieldLink RX5 16 "SecretDinnerModel" "text" "[I") from rfl))
  have i5 : ∀ w ∈ wsX50, w ∈ wsX5_append := inPlaces [12, 13, 14, 15, 16, 17, 18, 19, 20, 21, 22, 23, 24, 25, 26, 27, 28, 29, 30, 31] (by decide +kernel)
  refine J_eq (lv' := [(0, .ref (m 0)), (1, .int (nI c))]) (ws' := [oB (m 0) 5 [.ref (m 1), .ref (m 2), .int (nI (v 2)), .int (nI (v 3)), .ref (m 3), .int (nI (v 5)), .int (nI (v 6)), .ref (m 4), .ref (m 5), .ref (m 6), .ref (m 7), .ref (m 8), .ref (m 9), .ref (m 10), .ref (m 11), .int (nI (v 15)), .int (nI (v 16)), .int (nI (v 17)), .int (nI (v 18)), .long (lN (v 19))], aI Y (m 3) 90 (nF tx)]) rfl rfl rfl rfl ?_
  refine J_aload_n C dX5_append_0 rfl 0 rfl ?_
  refine J_iload_n C dX5_append_1 rfl 1 rfl ?_
  refine J_iconst C dX5_append_2 (v := nI 0) (by decide) ?_
  refine J_bipush C dX5_append_3 (v := nI 127) (by decide) ?_
  refine J_callI (wr := [oB (m 0) 5 [.ref (m 1), .ref (m 2), .int (nI (v 2)), .int (nI (v 3)), .ref (m 3), .int (nI (v 5)), .int (nI (v 6)), .ref (m 4), .ref (m 5), .ref (m 6), .ref (m 7), .ref (m 8), .ref (m 9), .ref (m 10), .ref (m 11), .int (nI (v 15)), .int (nI (v 16)), .int (nI (v 17)), .int (nI (v 18)), .long (lN (v 19))], aI Y (m 3) 90 (nF tx)]) C (R_S (st := [.ref (m 0)]) (wc := []) C (kX5_in_n ll Y c 0 127 (by first | assumption | omega) (by first | assumption | omega) (by first | assumption | omega)) (va_cwS 3 C.t gX5_append_X5_in rfl rfl rfl (by decide +kernel) ⟨by decide, by decide⟩) rfl [] rfl (by decide) rfl (Nat.le_of_ble_eq_true rfl) dX5_append_5 ⟨Nat.le_of_ble_eq_true rfl, Nat.le_of_ble_eq_true rfl⟩) [] [0, 1] rfl rfl (by decide) (by decide) (fun r5 u5 hw5 => ?_)
  subst hw5
  refine J_eq (pc' := 8) (lv' := [(0, .ref (m 0)), (1, .int (nI c))]) (st' := [.int (p2i (0 ≤ c ∧ c ≤ 127)), .ref (m 0)]) (ws' := [oB (m 0) 5 [.ref (m 1), .ref (m 2), .int (nI (v 2)), .int (nI (v 3)), .ref (m 3), .int (nI (v 5)), .int (nI (v 6)), .ref (m 4), .ref (m 5), .ref (m 6), .ref (m 7), .ref (m 8), .ref (m 9), .ref (m 10), .ref (m 11), .int (nI (v 15)), .int (nI (v 16)), .int (nI (v 17)), .int (nI (v 18)), .long (lN (v 19))], aI Y (m 3) 90 (nF tx)]) rfl rfl rfl rfl ?_
  refine J_if_neP (tgt := 15) C dX5_append_8 (by decide) (fun cq8 => ?_) (fun cq8 => ?_)
  · refine J_aload_n C dX5_append_15 rfl 0 rfl ?_
    refine J_get (ci := 5) C i5 rfl 5 (by decide) w0 rfl 0 rfl rfl dX5_append_16 ?_
    refine J_bipush C dX5_append_19 (v := nI 90) (by decide) ?_
    refine J_icmp_neN (tgt := 28) C dX5_append_21 (by decide) (by omega) (by omega) (fun cq21 => ?_) (fun cq21 => ?_)
    · refine J_iconst C dX5_append_28 (v := nI 0) (by decide) ?_
      refine J_callI (wr := [aI Y (m 3) 90 (nF tx)]) C (R_V (st := []) (wc := [oB (m 0) 5 [.ref (m 1), .ref (m 2), .int (nI (v 2)), .int (nI (v 3)), .ref (m 3), .int (nI (v 5)), .int (nI (v 6)), .ref (m 4), .ref (m 5), .ref (m 6), .ref (m 7), .ref (m 8), .ref (m 9), .ref (m 10), .ref (m 11), .int (nI (v 15)), .int (nI (v 16)), .int (nI (v 17)), .int (nI (v 18)), .long (lN (v 19))]]) C (kX5_refused ll Y m v 0 (by first | assumption | omega)) (cwV 1 C.t gX5_append_X5_refused rfl rfl rfl (by decide +kernel) ⟨by decide, by decide⟩) rfl [0] rfl (by decide) ⟨0, 5, _, _, rfl, rfl, rfl⟩ rfl (Nat.le_of_ble_eq_true rfl) dX5_append_29 ⟨Nat.le_of_ble_eq_true rfl, Nat.le_of_ble_eq_true rfl⟩) [0] [1] rfl rfl (by decide) (by decide) (fun r29 u29 hw29 => ?_)
      subst hw29
      refine J_eq (pc' := 32) (lv' := [(0, .ref (m 0)), (1, .int (nI c))]) (st' := [.int (p2i (0 < 0))]) (ws' := [aI Y (m 3) 90 (nF tx), oB (m 0) 5 [.ref (m 1), .ref (m 2), .int (nI (((va_up v 3 0)) 2)), .int (nI (((va_up v 3 0)) 3)), .ref (m 3), .int (nI (((va_up v 3 0)) 5)), .int (nI (((va_up v 3 0)) 6)), .ref (m 4), .ref (m 5), .ref (m 6), .ref (m 7), .ref (m 8), .ref (m 9), .ref (m 10), .ref (m 11), .int (nI (((va_up v 3 0)) 15)), .int (nI (((va_up v 3 0)) 16)), .int (nI (((va_up v 3 0)) 17)), .int (nI (((va_up v 3 0)) 18)), .long (lN (((va_up v 3 0)) 19))]]) rfl rfl rfl rfl ?_
      refine J_perm (ws' := [oB (m 0) 5 [.ref (m 1), .ref (m 2), .int (nI (((va_up v 3 0)) 2)), .int (nI (((va_up v 3 0)) 3)), .ref (m 3), .int (nI (((va_up v 3 0)) 5)), .int (nI (((va_up v 3 0)) 6)), .ref (m 4), .ref (m 5), .ref (m 6), .ref (m 7), .ref (m 8), .ref (m 9), .ref (m 10), .ref (m 11), .int (nI (((va_up v 3 0)) 15)), .int (nI (((va_up v 3 0)) 16)), .int (nI (((va_up v 3 0)) 17)), .int (nI (((va_up v 3 0)) 18)), .long (lN (((va_up v 3 0)) 19))], aI Y (m 3) 90 (nF tx)]) [1, 0] rfl (by decide) ?_
      refine J_if_eqP (tgt := 37) C dX5_append_32 (by decide) (fun cq32 => ?_) (fun cq32 => ?_)
      · refine J_eq (ws' := [oB (m 0) 5 [.ref (m 1), .ref (m 2), .int (nI (((va_up v 3 0)) 2)), .int (nI (((va_up v 3 0)) 3)), .ref (m 3), .int (nI (v 5)), .int (nI (((va_up v 3 0)) 6)), .ref (m 4), .ref (m 5), .ref (m 6), .ref (m 7), .ref (m 8), .ref (m 9), .ref (m 10), .ref (m 11), .int (nI (((va_up v 3 0)) 15)), .int (nI (((va_up v 3 0)) 16)), .int (nI (((va_up v 3 0)) 17)), .int (nI (((va_up v 3 0)) 18)), .long (lN (((va_up v 3 0)) 19))], aI Y (m 3) 90 (nF tx)]) rfl rfl rfl (rfl) ?_
        refine J_aload_n C dX5_append_37 rfl 0 rfl ?_
        refine J_get (ci := 5) C i5 rfl 4 (by decide) w1 rfl 0 rfl rfl dX5_append_38 ?_
        refine J_aload_n C dX5_append_41 rfl 0 rfl ?_
        refine J_get (ci := 5) C i5 rfl 5 (by decide) w0 rfl 0 rfl rfl dX5_append_42 ?_
        refine J_iload_n C dX5_append_45 rfl 1 rfl ?_
        refine J_iastF (ws' := [oB (m 0) 5 [.ref (m 1), .ref (m 2), .int (nI (((va_up v 3 0)) 2)), .int (nI (((va_up v 3 0)) 3)), .ref (m 3), .int (nI (v 5)), .int (nI (((va_up v 3 0)) 6)), .ref (m 4), .ref (m 5), .ref (m 6), .ref (m 7), .ref (m 8), .ref (m 9), .ref (m 10), .ref (m 11), .int (nI (((va_up v 3 0)) 15)), .int (nI (((va_up v 3 0)) 16)), .int (nI (((va_up v 3 0)) 17)), .int (nI (((va_up v 3 0)) 18)), .long (lN (((va_up v 3 0)) 19))], aI Y (m 3) 90 (nF (va_up tx (v 5) c))]) C 1 rfl (by omega) (by omega) dX5_append_46 rfl ?_
        refine J_aload_n C dX5_append_47 rfl 0 rfl ?_
        refine J_dup C dX5_append_48 rfl ?_
        refine J_get (ci := 5) C i5 rfl 5 (by decide) w0 rfl 0 rfl rfl dX5_append_49 ?_
        refine J_iconst C dX5_append_52 (v := nI 1) (by decide) ?_
        refine J_iaddN C dX5_append_53 ?_
        refine J_put (ci := 5) (ty := .int) (ws' := [oB (m 0) 5 [.ref (m 1), .ref (m 2), .int (nI (((va_up v 3 0)) 2)), .int (nI (((va_up v 3 0)) 3)), .ref (m 3), .int (nI ((v 5) + 1)), .int (nI (((va_up v 3 0)) 6)), .ref (m 4), .ref (m 5), .ref (m 6), .ref (m 7), .ref (m 8), .ref (m 9), .ref (m 10), .ref (m 11), .int (nI (((va_up v 3 0)) 15)), .int (nI (((va_up v 3 0)) 16)), .int (nI (((va_up v 3 0)) 17)), .int (nI (((va_up v 3 0)) 18)), .long (lN (((va_up v 3 0)) 19))], aI Y (m 3) 90 (nF (va_up tx (v 5) c))]) C i5 tyX5 tyX5_ok nmX5 rfl 5 (by decide) w0 rfl rfl (by decide +kernel) (rfl) (rfl) 0 rfl (Nat.le_of_ble_eq_true rfl) dX5_append_54 rfl ?_
        refine J_aload_n C dX5_append_57 rfl 0 rfl ?_
        refine J_get (ci := 5) C i5 rfl 5 (by decide) w0 rfl 0 rfl rfl dX5_append_58 ?_
        exact J_iret C hr dX5_append_61 (()) (rfl) (rfl)
      · exact absurd cq32 (by decide)
    · exact absurd cq21 (by omega)
  · exact absurd cq8 (by omega)

set_option maxHeartbeats 4000000 in
set_option maxRecDepth 100000 in
theorem kX5_clearText (ll : Launch) (Y : GY) (m : Nat → Nat) (v : Nat → Nat)  : CT ll yX5_clearText wsX5_clearText { frames := 0, cells := 0, slots := 0, locals := 0 } Y [.ref (m 0)] [oB (m 0) 5 [.ref (m 1), .ref (m 2), .int (nI (v 2)), .int (nI (v 3)), .ref (m 3), .int (nI (v 5)), .int (nI (v 6)), .ref (m 4), .ref (m 5), .ref (m 6), .ref (m 7), .ref (m 8), .ref (m 9), .ref (m 10), .ref (m 11), .int (nI (v 15)), .int (nI (v 16)), .int (nI (v 17)), .int (nI (v 18)), .long (lN (v 19))]] (QI Y (fun (r : Int32) (_ : Unit) => r = nI (v 5)) (fun _ => [oB (m 0) 5 [.ref (m 1), .ref (m 2), .int (nI (((va_up (va_up v 3 0) 5 0)) 2)), .int (nI (((va_up (va_up v 3 0) 5 0)) 3)), .ref (m 3), .int (nI (((va_up (va_up v 3 0) 5 0)) 5)), .int (nI (((va_up (va_up v 3 0) 5 0)) 6)), .ref (m 4), .ref (m 5), .ref (m 6), .ref (m 7), .ref (m 8), .ref (m 9), .ref (m 10), .ref (m 11), .int (nI (((va_up (va_up v 3 0) 5 0)) 15)), .int (nI (((va_up (va_up v 3 0) 5 0)) 16)), .int (nI (((va_up (va_up v 3 0) 5 0)) 17)), .int (nI (((va_up (va_up v 3 0) 5 0)) 18)), .long (lN (((va_up (va_up v 3 0) 5 0)) 19))]])) 0 0 := by
  refine CT_of (cc := cX5_clearText) (maxL := 2) (ret := (some .int)) (by decide) rfl (Nat.le_of_ble_eq_true rfl) ?_
  intro pp ee ss mm bl mt cc AA C hr hnm
  have w0 := C.t _ (List.mem_of_getElem? (i := 1) (show wsX5_clearText[1]? = some (Cond.fieldLink RX5 43 "SecretDinnerModel" "refusal" "I") from rfl))
  have w1 := C.t _ (List.mem_of_getElem? (i := 2) (show wsX5_clearText[2]? = some (Cond.fieldLink RX5 142 "SecretDinnerModel" "length" "I") from rfl))
  have i5 : ∀ w ∈ wsX50, w ∈ wsX5_clearText := inPlaces [3, 4, 5, 6, 7, 8, 9, 10, 11, 12, 13, 14, 15, 16, 17, 18, 19, 20, 21, 22] (by decide +kernel)
  refine J_eq (lv' := [(0, .ref (m 0))]) (ws' := [oB (m 0) 5 [.ref (m 1), .ref (m 2), .int (nI (v 2)), .int (nI (v 3)), .ref (m 3), .int (nI (v 5)), .int (nI (v 6)), .ref (m 4), .ref (m 5), .ref (m 6), .ref (m 7), .ref (m 8), .ref (m 9), .ref (m 10), .ref (m 11), .int (nI (v 15)), .int (nI (v 16)), .int (nI (v 17)), .int (nI (v 18)), .long (lN (v 19))]]) rfl rfl rfl rfl ?_
  refine J_aload_n C dX5_clearText_0 rfl 0 rfl ?_
  refine J_iconst C dX5_clearText_1 (v := nI 0) (by decide) ?_
  refine J_put (ci := 5) (ty := .int) (ws' := [oB (m 0) 5 [.ref (m 1), .ref (m 2), .int (nI (v 2)), .int (nI 0), .ref (m 3), .int (nI (v 5)), .int (nI (v 6)), .ref (m 4), .ref (m 5), .ref (m 6), .ref (m 7), .ref (m 8), .ref (m 9), .ref (m 10), .ref (m 11), .int (nI (v 15)), .int (nI (v 16)), .int (nI (v 17)), .int (nI (v 18)), .long (lN (v 19))]]) C i5 tyX5 tyX5_ok nmX5 rfl 3 (by decide) w0 rfl rfl (by decide +kernel) (rfl) (rfl) 0 rfl (Nat.le_of_ble_eq_true rfl) dX5_clearText_2 rfl ?_
  refine J_aload_n C dX5_clearText_5 rfl 0 rfl ?_
  refine J_get (ci := 5) C i5 rfl 5 (by decide) w1 rfl 0 rfl rfl dX5_clearText_6 ?_
  refine J_istore_n (lv' := [(1, .int (nI (v 5))), (0, .ref (m 0))]) C dX5_clearText_9 rfl (by decide) rfl ?_
  refine J_aload_n C dX5_clearText_10 rfl 1 rfl ?_
  refine J_iconst C dX5_clearText_11 (v := nI 0) (by decide) ?_
  refine J_put (ci := 5) (ty := .int) (ws' := [oB (m 0) 5 [.ref (m 1), .ref (m 2), .int (nI (v 2)), .int (nI 0), .ref (m 3), .int (nI 0), .int (nI (v 6)), .ref (m 4), .ref (m 5), .ref (m 6), .ref (m 7), .ref (m 8), .ref (m 9), .ref (m 10), .ref (m 11), .int (nI (v 15)), .int (nI (v 16)), .int (nI (v 17)), .int (nI (v 18)), .long (lN (v 19))]]) C i5 tyX5 tyX5_ok nmX5 rfl 5 (by decide) w1 rfl rfl (by decide +kernel) (rfl) (rfl) 0 rfl (Nat.le_of_ble_eq_true rfl) dX5_clearText_12 rfl ?_
  refine J_iload_n C dX5_clearText_15 rfl 0 rfl ?_
  exact J_iret C hr dX5_clearText_16 (()) (rfl) (rfl)

set_option maxHeartbeats 4000000 in
set_option maxRecDepth 100000 in
theorem kX5_isAt (ll : Launch) (Y : GY) (m : Nat → Nat) (v : Nat → Nat) (n : Nat) (sp : Nat) (lt : Nat) (wh : Nat) (cs : Nat) (tx : Nat → Nat) (lo : Nat) (hi : Nat) (hn : n ≤ 90) (ht : ∀ i, tx i < 128) (hsp : sp ≤ 200) (hlo : lo ≤ 300 ∧ hi ≤ 300) : CT ll yX5_isAt wsX5_isAt { frames := 1, cells := 0, slots := 0, locals := 22 } Y [.ref (m 0), .int (nI lo), .int (nI hi)] [oB (m 0) 5 [.ref (m 1), .ref (m 2), .int (nI (v 2)), .int (nI (v 3)), .ref (m 3), .int (nI n), .int (nI (v 6)), .ref (m 4), .ref (m 5), .ref (m 6), .ref (m 7), .ref (m 8), .ref (m 9), .ref (m 10), .ref (m 11), .int (nI sp), .int (nI lt), .int (nI wh), .int (nI cs), .long (lN (v 19))], aI Y (m 3) 90 (nF tx)] (QI Y (fun (r : Int32) (_ : Unit) => r = p2i ((lo : Int) ≤ tk tx n sp ∧ tk tx n sp ≤ (hi : Int))) (fun _ => [oB (m 0) 5 [.ref (m 1), .ref (m 2), .int (nI (v 2)), .int (nI (v 3)), .ref (m 3), .int (nI n), .int (nI (v 6)), .ref (m 4), .ref (m 5), .ref (m 6), .ref (m 7), .ref (m 8), .ref (m 9), .ref (m 10), .ref (m 11), .int (nI sp), .int (nI lt), .int (nI wh), .int (nI cs), .long (lN (v 19))], aI Y (m 3) 90 (nF tx)])) 0 0 := by
  refine CT_of (cc := cX5_isAt) (maxL := 3) (ret := (some .boolean)) (by decide) rfl (Nat.le_of_ble_eq_true rfl) ?_
  intro pp ee ss mm bl mt cc AA C hr hnm
  have w0 := C.t _ (List.mem_of_getElem? (i := 1) (show wsX5_isAt[1]? = some (Cond.fieldLink RX5 145 "SecretDinnerModel" "spot" "I") from rfl))
  have w1 := C.t _ (List.mem_of_getElem? (i := 2) (show wsX5_isAt[2]? = some (Cond.fieldLink RX5 142 "SecretDinnerModel" "length" "I") from rfl))
  have w2 := C.t _ (List.mem_of_getElem? (i := 3) (show wsX5_isAt[3]? = some (Cond.fieldLink RX5 16 "SecretDinnerModel" "text" "[I") from rfl))
  have i5 : ∀ w ∈ wsX50, w ∈ wsX5_isAt := inPlaces [8, 9, 10, 11, 12, 13, 14, 15, 16, 17, 18, 19, 20, 21, 22, 23, 24, 25, 26, 27] (by decide +kernel)
  refine J_eq (lv' := [(0, .ref (m 0)), (1, .int (nI lo)), (2, .int (nI hi))]) (ws' := [oB (m 0) 5 [.ref (m 1), .ref (m 2), .int (nI (v 2)), .int (nI (v 3)), .ref (m 3), .int (nI n), .int (nI (v 6)), .ref (m 4), .ref (m 5), .ref (m 6), .ref (m 7), .ref (m 8), .ref (m 9), .ref (m 10), .ref (m 11), .int (nI sp), .int (nI lt), .int (nI wh), .int (nI cs), .long (lN (v 19))], aI Y (m 3) 90 (nF tx)]) rfl rfl rfl rfl ?_
  refine J_aload_n C dX5_isAt_0 rfl 0 rfl ?_
  refine J_get (ci := 5) C i5 rfl 15 (by decide) w0 rfl 0 rfl rfl dX5_isAt_1 ?_
  refine J_aload_n C dX5_isAt_4 rfl 0 rfl ?_
  refine J_get (ci := 5) C i5 rfl 5 (by decide) w1 rfl 0 rfl rfl dX5_isAt_5 ?_
  refine J_icmp_geN (tgt := 32) C dX5_isAt_8 (by decide) (by omega) (by omega) (fun cq8 => ?_) (fun cq8 => ?_)
  · refine J_iconst C dX5_isAt_32 (v := nI 0) (by decide) ?_
    exact J_zret C hr (by decide) dX5_isAt_33 (()) ((p2i_f (by rw [tk_out cq8]; omega)).symm) (rfl)
  · refine J_aload_n C dX5_isAt_11 rfl 0 rfl ?_
    refine J_get (ci := 5) C i5 rfl 4 (by decide) w2 rfl 0 rfl rfl dX5_isAt_12 ?_
    refine J_aload_n C dX5_isAt_15 rfl 0 rfl ?_
    refine J_get (ci := 5) C i5 rfl 15 (by decide) w0 rfl 0 rfl rfl dX5_isAt_16 ?_
    refine J_ialdF C 1 rfl (by omega) (by omega) dX5_isAt_19 ?_
    refine J_iload_n C dX5_isAt_20 rfl 1 rfl ?_
    refine J_iload_n C dX5_isAt_21 rfl 2 rfl ?_
    refine J_callI (wr := [oB (m 0) 5 [.ref (m 1), .ref (m 2), .int (nI (v 2)), .int (nI (v 3)), .ref (m 3), .int (nI n), .int (nI (v 6)), .ref (m 4), .ref (m 5), .ref (m 6), .ref (m 7), .ref (m 8), .ref (m 9), .ref (m 10), .ref (m 11), .int (nI sp), .int (nI lt), .int (nI wh), .int (nI cs), .long (lN (v 19))], aI Y (m 3) 90 (nF tx)]) C (R_S (st := []) (wc := []) C (kX5_in_n ll Y (tx sp) lo hi (Nat.lt_trans (ht sp) (by decide)) (by first | assumption | omega) (by first | assumption | omega)) (va_cwS 3 C.t gX5_isAt_X5_in rfl rfl rfl (by decide +kernel) ⟨by decide, by decide⟩) rfl [] rfl (by decide) rfl (Nat.le_of_ble_eq_true rfl) dX5_isAt_22 ⟨Nat.le_of_ble_eq_true rfl, Nat.le_of_ble_eq_true rfl⟩) [] [0, 1] rfl rfl (by decide) (by decide) (fun r22 u22 hw22 => ?_)
    subst hw22
    refine J_eq (pc' := 25) (lv' := [(0, .ref (m 0)), (1, .int (nI lo)), (2, .int (nI hi))]) (st' := [.int (p2i (lo ≤ (tx sp) ∧ (tx sp) ≤ hi))]) (ws' := [oB (m 0) 5 [.ref (m 1), .ref (m 2), .int (nI (v 2)), .int (nI (v 3)), .ref (m 3), .int (nI n), .int (nI (v 6)), .ref (m 4), .ref (m 5), .ref (m 6), .ref (m 7), .ref (m 8), .ref (m 9), .ref (m 10), .ref (m 11), .int (nI sp), .int (nI lt), .int (nI wh), .int (nI cs), .long (lN (v 19))], aI Y (m 3) 90 (nF tx)]) rfl rfl rfl rfl ?_
    refine J_if_eqP (tgt := 32) C dX5_isAt_25 (by decide) (fun cq25 => ?_) (fun cq25 => ?_)
    · refine J_iconst C dX5_isAt_32 (v := nI 0) (by decide) ?_
      exact J_zret C hr (by decide) dX5_isAt_33 (()) ((p2i_f (by rw [tk_in cq8]; omega)).symm) (rfl)
    · refine J_iconst C dX5_isAt_28 (v := nI 1) (by decide) ?_
      refine J_goto (tgt := 33) C dX5_isAt_29 (by decide) ?_
      exact J_zret C hr (by decide) dX5_isAt_33 (()) ((p2i_t (by rw [tk_in cq8]; omega)).symm) (rfl)

set_option maxHeartbeats 4000000 in
set_option maxRecDepth 100000 in
theorem kX5_takes (ll : Launch) (Y : GY) (m : Nat → Nat) (v : Nat → Nat) (n : Nat) (sp : Nat) (lt : Nat) (wh : Nat) (cs : Nat) (tx : Nat → Nat) (lo : Nat) (hi : Nat) (hn : n ≤ 90) (ht : ∀ i, tx i < 128) (hsp : sp ≤ 200) (hlo : lo ≤ 300 ∧ hi ≤ 300) : CT ll yX5_takes wsX5_takes { frames := 2, cells := 0, slots := 0, locals := 44 } Y [.ref (m 0), .int (nI lo), .int (nI hi)] [oB (m 0) 5 [.ref (m 1), .ref (m 2), .int (nI (v 2)), .int (nI (v 3)), .ref (m 3), .int (nI n), .int (nI (v 6)), .ref (m 4), .ref (m 5), .ref (m 6), .ref (m 7), .ref (m 8), .ref (m 9), .ref (m 10), .ref (m 11), .int (nI sp), .int (nI lt), .int (nI wh), .int (nI cs), .long (lN (v 19))], aI Y (m 3) 90 (nF tx)] (QI Y (fun (r : Int32) (_ : Unit) => r = p2i ((lo : Int) ≤ tk tx n sp ∧ tk tx n sp ≤ (hi : Int))) (fun _ => [oB (m 0) 5 [.ref (m 1), .ref (m 2), .int (nI (v 2)), .int (nI (v 3)), .ref (m 3), .int (nI n), .int (nI (v 6)), .ref (m 4), .ref (m 5), .ref (m 6), .ref (m 7), .ref (m 8), .ref (m 9), .ref (m 10), .ref (m 11), .int (nI (if (lo : Int) ≤ tk tx n sp ∧ tk tx n sp ≤ (hi : Int) then sp + 1 else sp)), .int (nI lt), .int (nI wh), .int (nI cs), .long (lN (v 19))], aI Y (m 3) 90 (nF tx)])) 0 0 := by
  refine CT_of (cc := cX5_takes) (maxL := 4) (ret := (some .boolean)) (by decide) rfl (Nat.le_of_ble_eq_true rfl) ?_
  intro pp ee ss mm bl mt cc AA C hr hnm
  have w0 := C.t _ (List.mem_of_getElem? (i := 1) (show wsX5_takes[1]? = some (Cond.fieldLink RX5 145 "SecretDinnerModel" "spot" "I") from rfl))
  have i5 : ∀ w ∈ wsX50, w ∈ wsX5_takes := inPlaces [12, 13, 14, 15, 16, 17, 18, 19, 20, 21, 22, 23, 24, 25, 26, 27, 28, 29, 30, 31] (by decide +kernel)
  refine J_eq (lv' := [(0, .ref (m 0)), (1, .int (nI lo)), (2, .int (nI hi))]) (ws' := [oB (m 0) 5 [.ref (m 1), .ref (m 2), .int (nI (v 2)), .int (nI (v 3)), .ref (m 3), .int (nI n), .int (nI (v 6)), .ref (m 4), .ref (m 5), .ref (m 6), .ref (m 7), .ref (m 8), .ref (m 9), .ref (m 10), .ref (m 11), .int (nI sp), .int (nI lt), .int (nI wh), .int (nI cs), .long (lN (v 19))], aI Y (m 3) 90 (nF tx)]) rfl rfl rfl rfl ?_
  refine J_aload_n C dX5_takes_0 rfl 0 rfl ?_
  refine J_iload_n C dX5_takes_1 rfl 1 rfl ?_
  refine J_iload_n C dX5_takes_2 rfl 2 rfl ?_
  refine J_callI (wr := []) C (R_V (st := []) (wc := [oB (m 0) 5 [.ref (m 1), .ref (m 2), .int (nI (v 2)), .int (nI (v 3)), .ref (m 3), .int (nI n), .int (nI (v 6)), .ref (m 4), .ref (m 5), .ref (m 6), .ref (m 7), .ref (m 8), .ref (m 9), .ref (m 10), .ref (m 11), .int (nI sp), .int (nI lt), .int (nI wh), .int (nI cs), .long (lN (v 19))], aI Y (m 3) 90 (nF tx)]) C (kX5_isAt ll Y m v n sp lt wh cs tx lo hi (by first | assumption | omega) (by first | assumption | omega) (by first | assumption | omega) (by first | assumption | omega)) (cwV 2 C.t gX5_takes_X5_isAt rfl rfl rfl (by decide +kernel) ⟨by decide, by decide⟩) rfl [0, 1] rfl (by decide) ⟨0, 5, _, _, rfl, rfl, rfl⟩ rfl (Nat.le_of_ble_eq_true rfl) dX5_takes_3 ⟨Nat.le_of_ble_eq_true rfl, Nat.le_of_ble_eq_true rfl⟩) [0, 1] [] rfl rfl (by decide) (by decide) (fun r3 u3 hw3 => ?_)
  subst hw3
  refine J_eq (pc' := 6) (lv' := [(0, .ref (m 0)), (1, .int (nI lo)), (2, .int (nI hi))]) (st' := [.int (p2i ((lo : Int) ≤ tk tx n sp ∧ tk tx n sp ≤ (hi : Int)))]) (ws' := [oB (m 0) 5 [.ref (m 1), .ref (m 2), .int (nI (v 2)), .int (nI (v 3)), .ref (m 3), .int (nI n), .int (nI (v 6)), .ref (m 4), .ref (m 5), .ref (m 6), .ref (m 7), .ref (m 8), .ref (m 9), .ref (m 10), .ref (m 11), .int (nI sp), .int (nI lt), .int (nI wh), .int (nI cs), .long (lN (v 19))], aI Y (m 3) 90 (nF tx)]) rfl rfl rfl rfl ?_
  refine J_istore_n (lv' := [(3, .int (p2i ((lo : Int) ≤ tk tx n sp ∧ tk tx n sp ≤ (hi : Int)))), (0, .ref (m 0)), (1, .int (nI lo)), (2, .int (nI hi))]) C dX5_takes_6 rfl (by decide) rfl ?_
  refine J_aload_n C dX5_takes_7 rfl 1 rfl ?_
  refine J_dup C dX5_takes_8 rfl ?_
  refine J_get (ci := 5) C i5 rfl 15 (by decide) w0 rfl 0 rfl rfl dX5_takes_9 ?_
  refine J_iload_n C dX5_takes_12 rfl 0 rfl ?_
  refine J_if_eqP (tgt := 20) C dX5_takes_13 (by decide) (fun cq13 => ?_) (fun cq13 => ?_)
  · refine J_iconst C dX5_takes_20 (v := nI 0) (by decide) ?_
    refine J_iaddN C dX5_takes_21 ?_
    refine J_put (ci := 5) (ty := .int) (ws' := [oB (m 0) 5 [.ref (m 1), .ref (m 2), .int (nI (v 2)), .int (nI (v 3)), .ref (m 3), .int (nI n), .int (nI (v 6)), .ref (m 4), .ref (m 5), .ref (m 6), .ref (m 7), .ref (m 8), .ref (m 9), .ref (m 10), .ref (m 11), .int (nI (sp + 0)), .int (nI lt), .int (nI wh), .int (nI cs), .long (lN (v 19))], aI Y (m 3) 90 (nF tx)]) C i5 tyX5 tyX5_ok nmX5 rfl 15 (by decide) w0 rfl rfl (by decide +kernel) (rfl) (rfl) 0 rfl (Nat.le_of_ble_eq_true rfl) dX5_takes_22 rfl ?_
    refine J_iload_n C dX5_takes_25 rfl 0 rfl ?_
    exact J_zret C hr p2i_nar dX5_takes_26 (()) (rfl) (by rw [if_neg cq13]; first | done | rfl)
  · refine J_iconst C dX5_takes_16 (v := nI 1) (by decide) ?_
    refine J_goto (tgt := 21) C dX5_takes_17 (by decide) ?_
    refine J_iaddN C dX5_takes_21 ?_
    refine J_put (ci := 5) (ty := .int) (ws' := [oB (m 0) 5 [.ref (m 1), .ref (m 2), .int (nI (v 2)), .int (nI (v 3)), .ref (m 3), .int (nI n), .int (nI (v 6)), .ref (m 4), .ref (m 5), .ref (m 6), .ref (m 7), .ref (m 8), .ref (m 9), .ref (m 10), .ref (m 11), .int (nI (sp + 1)), .int (nI lt), .int (nI wh), .int (nI cs), .long (lN (v 19))], aI Y (m 3) 90 (nF tx)]) C i5 tyX5 tyX5_ok nmX5 rfl 15 (by decide) w0 rfl rfl (by decide +kernel) (rfl) (rfl) 0 rfl (Nat.le_of_ble_eq_true rfl) dX5_takes_22 rfl ?_
    refine J_iload_n C dX5_takes_25 rfl 0 rfl ?_
    exact J_zret C hr p2i_nar dX5_takes_26 (()) (rfl) (by rw [if_pos cq13]; first | done | rfl)

set_option maxHeartbeats 4000000 in
set_option maxRecDepth 100000 in
theorem kX5_cardOf (ll : Launch) (Y : GY) (c : Nat) (hc : c ≤ 7) : CT ll yX5_cardOf wsX5_cardOf { frames := 0, cells := 0, slots := 0, locals := 0 } Y [.int (nI (1 * 2 ^ c))] [] (QI Y (fun (r : Int32) (_ : Unit) => r = nI c) (fun _ => [])) 0 0 := by
  refine CT_of (cc := cX5_cardOf) (maxL := 2) (ret := (some .int)) (by decide) rfl (Nat.le_of_ble_eq_true rfl) ?_
  intro pp ee ss mm bl mt cc AA C hr hnm
  refine J_eq (lv' := [(0, .int (nI (1 * 2 ^ c)))]) (ws' := []) rfl rfl rfl rfl ?_
  refine J_iconst C dX5_cardOf_0 (v := nI 0) (by decide) ?_
  refine J_istore_n (lv' := [(1, .int (nI 0)), (0, .int (nI (1 * 2 ^ c)))]) C dX5_cardOf_1 rfl (by decide) rfl ?_
  refine J_lv (lv' := [(0, .int (nI (1 * 2 ^ c))), (1, .int (nI 0))]) [1, 0] rfl ?_
  refine J_loop (σ := Nat) (I := fun (k : Nat) => (k ≤ c)) (μ := fun (k : Nat) => c - k) (lvf := fun (k : Nat) => [(0, .int (nI (1 * 2 ^ c))), (1, .int (nI k))]) (stf := fun (k : Nat) => []) (wsf := fun (k : Nat) => []) ?_ (0) (by omega) (rfl) rfl (rfl)
  rintro k hk ih2
  refine J_eq (lv' := [(0, .int (nI (1 * 2 ^ c))), (1, .int (nI k))]) (st' := []) (ws' := []) rfl rfl rfl rfl ?_
  refine J_iload_n C dX5_cardOf_2 rfl 0 rfl ?_
  refine J_iload_n C dX5_cardOf_3 rfl 1 rfl ?_
  refine J_ishrN C dX5_cardOf_4 (by omega) ((c_p31 (k := k) hc).2) ?_
  refine J_iconst C dX5_cardOf_5 (v := nI 1) (by decide) ?_
  refine J_icmp_eqN (tgt := 15) C dX5_cardOf_6 (by decide) ((c_p31 hc).1) (by decide) (fun cq6 => ?_) (fun cq6 => ?_)
  · refine J_iload_n C dX5_cardOf_15 rfl 1 rfl ?_
    exact J_iret C hr dX5_cardOf_16 (()) (by rw [(c_one c (by omega) k (by omega) hk).mp cq6]) (rfl)
  · refine J_iinc (j := 1) (v := nI (k + 1)) (lv' := [(1, .int (nI (k + 1))), (0, .int (nI (1 * 2 ^ c)))]) C dX5_cardOf_9 rfl (nI_1 _) (by decide) rfl ?_
    refine J_goto (tgt := 2) C dX5_cardOf_12 (by decide) ?_
    refine J_lv (lv' := [(0, .int (nI (1 * 2 ^ c))), (1, .int (nI (k + 1)))]) [1, 0] rfl ?_
    exact ih2 (k + 1) (by have := c_one c (by omega) k (by omega) hk; have h9 : ¬ k = c := fun z => cq6 (this.mpr z); omega) (show c - (k + 1) < c - k from by have := c_one c (by omega) k (by omega) hk; have h9 : ¬ k = c := fun z => cq6 (this.mpr z); omega)

