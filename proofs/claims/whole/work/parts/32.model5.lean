set_option maxHeartbeats 4000000 in
set_option maxRecDepth 100000 in
theorem kX5_append_r1 (ll : Launch) (Y : GY) (m : Nat → Nat) (v : Nat → Nat) (c : Int32) (hc : c.toInt < 0 ∨ 127 < c.toInt) : CT ll yX5_append wsX5_append { frames := 1, cells := 0, slots := 0, locals := 22 } Y [.ref (m 0), .int c] [oB (m 0) 5 [.ref (m 1), .ref (m 2), .int (nI (v 2)), .int (nI (v 3)), .ref (m 3), .int (nI (v 5)), .int (nI (v 6)), .ref (m 4), .ref (m 5), .ref (m 6), .ref (m 7), .ref (m 8), .ref (m 9), .ref (m 10), .ref (m 11), .int (nI (v 15)), .int (nI (v 16)), .int (nI (v 17)), .int (nI (v 18)), .long (lN (v 19))]] (QI Y (fun (r : Int32) (_ : Unit) => r = nI 0) (fun _ => [oB (m 0) 5 [.ref (m 1), .ref (m 2), .int (nI (((va_up v 3 1)) 2)), .int (nI (((va_up v 3 1)) 3)), .ref (m 3), .int (nI (((va_up v 3 1)) 5)), .int (nI (((va_up v 3 1)) 6)), .ref (m 4), .ref (m 5), .ref (m 6), .ref (m 7), .ref (m 8), .ref (m 9), .ref (m 10), .ref (m 11), .int (nI (((va_up v 3 1)) 15)), .int (nI (((va_up v 3 1)) 16)), .int (nI (((va_up v 3 1)) 17)), .int (nI (((va_up v 3 1)) 18)), .long (lN (((va_up v 3 1)) 19))]])) 0 0 := by
  refine CT_of (cc := cX5_append) (maxL := 2) (ret := (some .int)) (by decide) rfl (Nat.le_of_ble_eq_true rfl) ?_
  intro pp ee ss mm bl mt cc AA C hr hnm
  refine J_eq (lv' := [(0, .ref (m 0)), (1, .int c)]) (ws' := [oB (m 0) 5 [.ref (m 1), .ref (m 2), .int (nI (v 2)), .int (nI (v 3)), .ref (m 3), .int (nI (v 5)), .int (nI (v 6)), .ref (m 4), .ref (m 5), .ref (m 6), .ref (m 7), .ref (m 8), .ref (m 9), .ref (m 10), .ref (m 11), .int (nI (v 15)), .int (nI (v 16)), .int (nI (v 17)), .int (nI (v 18)), .long (lN (v 19))]]) rfl rfl rfl rfl ?_
  refine J_aload_n C dX5_append_0 rfl 0 rfl ?_
  refine J_iload_n C dX5_append_1 rfl 1 rfl ?_
  refine J_iconst C dX5_append_2 (v := nI 0) (by decide) ?_
  refine J_bipush C dX5_append_3 (v := nI 127) (by decide) ?_
  refine J_callI (wr := [oB (m 0) 5 [.ref (m 1), .ref (m 2), .int (nI (v 2)), .int (nI (v 3)), .ref (m 3), .int (nI (v 5)), .int (nI (v 6)), .ref (m 4), .ref (m 5), .ref (m 6), .ref (m 7), .ref (m 8), .ref (m 9), .ref (m 10), .ref (m 11), .int (nI (v 15)), .int (nI (v 16)), .int (nI (v 17)), .int (nI (v 18)), .long (lN (v 19))]]) C (R_S (st := [.ref (m 0)]) (wc := []) C (kX5_in ll Y c (nI 0) (nI 127)) (va_cwS 3 C.t gX5_append_X5_in rfl rfl rfl (by decide +kernel) ⟨by decide, by decide⟩) rfl [] rfl (by decide) rfl (Nat.le_of_ble_eq_true rfl) dX5_append_5 ⟨Nat.le_of_ble_eq_true rfl, Nat.le_of_ble_eq_true rfl⟩) [] [0] rfl rfl (by decide) (by decide) (fun r5 u5 hw5 => ?_)
  subst hw5
  refine J_eq (pc' := 8) (lv' := [(0, .ref (m 0)), (1, .int c)]) (st' := [.int (p2i ((nI 0).toInt ≤ c.toInt ∧ c.toInt ≤ (nI 127).toInt)), .ref (m 0)]) (ws' := [oB (m 0) 5 [.ref (m 1), .ref (m 2), .int (nI (v 2)), .int (nI (v 3)), .ref (m 3), .int (nI (v 5)), .int (nI (v 6)), .ref (m 4), .ref (m 5), .ref (m 6), .ref (m 7), .ref (m 8), .ref (m 9), .ref (m 10), .ref (m 11), .int (nI (v 15)), .int (nI (v 16)), .int (nI (v 17)), .int (nI (v 18)), .long (lN (v 19))]]) rfl rfl rfl rfl ?_
  refine J_top (y := .int (p2i (0 ≤ c.toInt ∧ c.toInt ≤ 127))) (congrArg Value.int (p2i_if (in_I (by decide) (by decide)))) ?_
  refine J_if_neP (tgt := 15) C dX5_append_8 (by decide) (fun cq8 => ?_) (fun cq8 => ?_)
  · exact absurd cq8 (by omega)
  · refine J_iconst C dX5_append_11 (v := nI 1) (by decide) ?_
    refine J_goto (tgt := 29) C dX5_append_12 (by decide) ?_
    refine J_callI (wr := []) C (R_V (st := []) (wc := [oB (m 0) 5 [.ref (m 1), .ref (m 2), .int (nI (v 2)), .int (nI (v 3)), .ref (m 3), .int (nI (v 5)), .int (nI (v 6)), .ref (m 4), .ref (m 5), .ref (m 6), .ref (m 7), .ref (m 8), .ref (m 9), .ref (m 10), .ref (m 11), .int (nI (v 15)), .int (nI (v 16)), .int (nI (v 17)), .int (nI (v 18)), .long (lN (v 19))]]) C (kX5_refused ll Y m v 1 (by first | assumption | omega)) (cwV 1 C.t gX5_append_X5_refused rfl rfl rfl (by decide +kernel) ⟨by decide, by decide⟩) rfl [0] rfl (by decide) ⟨0, 5, _, _, rfl, rfl, rfl⟩ rfl (Nat.le_of_ble_eq_true rfl) dX5_append_29 ⟨Nat.le_of_ble_eq_true rfl, Nat.le_of_ble_eq_true rfl⟩) [0] [] rfl rfl (by decide) (by decide) (fun r29 u29 hw29 => ?_)
    subst hw29
    refine J_eq (pc' := 32) (lv' := [(0, .ref (m 0)), (1, .int c)]) (st' := [.int (p2i (0 < 1))]) (ws' := [oB (m 0) 5 [.ref (m 1), .ref (m 2), .int (nI (((va_up v 3 1)) 2)), .int (nI (((va_up v 3 1)) 3)), .ref (m 3), .int (nI (((va_up v 3 1)) 5)), .int (nI (((va_up v 3 1)) 6)), .ref (m 4), .ref (m 5), .ref (m 6), .ref (m 7), .ref (m 8), .ref (m 9), .ref (m 10), .ref (m 11), .int (nI (((va_up v 3 1)) 15)), .int (nI (((va_up v 3 1)) 16)), .int (nI (((va_up v 3 1)) 17)), .int (nI (((va_up v 3 1)) 18)), .long (lN (((va_up v 3 1)) 19))]]) rfl rfl rfl rfl ?_
    refine J_if_eqP (tgt := 37) C dX5_append_32 (by decide) (fun cq32 => ?_) (fun cq32 => ?_)
    · exact absurd cq32 (by decide)
    · refine J_iconst C dX5_append_35 (v := nI 0) (by decide) ?_
      exact J_iret C hr dX5_append_36 (()) (rfl) (rfl)

set_option maxHeartbeats 4000000 in
set_option maxRecDepth 100000 in
theorem kX5_append_r2 (ll : Launch) (Y : GY) (m : Nat → Nat) (v : Nat → Nat) (c : Nat) (hc : c ≤ 127) (h5 : v 5 = 90) : CT ll yX5_append wsX5_append { frames := 1, cells := 0, slots := 0, locals := 22 } Y [.ref (m 0), .int (nI c)] [oB (m 0) 5 [.ref (m 1), .ref (m 2), .int (nI (v 2)), .int (nI (v 3)), .ref (m 3), .int (nI (v 5)), .int (nI (v 6)), .ref (m 4), .ref (m 5), .ref (m 6), .ref (m 7), .ref (m 8), .ref (m 9), .ref (m 10), .ref (m 11), .int (nI (v 15)), .int (nI (v 16)), .int (nI (v 17)), .int (nI (v 18)), .long (lN (v 19))]] (QI Y (fun (r : Int32) (_ : Unit) => r = nI 0) (fun _ => [oB (m 0) 5 [.ref (m 1), .ref (m 2), .int (nI (((va_up v 3 2)) 2)), .int (nI (((va_up v 3 2)) 3)), .ref (m 3), .int (nI (((va_up v 3 2)) 5)), .int (nI (((va_up v 3 2)) 6)), .ref (m 4), .ref (m 5), .ref (m 6), .ref (m 7), .ref (m 8), .ref (m 9), .ref (m 10), .ref (m 11), .int (nI (((va_up v 3 2)) 15)), .int (nI (((va_up v 3 2)) 16)), .int (nI (((va_up v 3 2)) 17)), .int (nI (((va_up v 3 2)) 18)), .long (lN (((va_up v 3 2)) 19))]])) 0 0 := by
  refine CT_of (cc := cX5_append) (maxL := 2) (ret := (some .int)) (by decide) rfl (Nat.le_of_ble_eq_true rfl) ?_
  intro pp ee ss mm bl mt cc AA C hr hnm
  have w0 := C.t _ (List.mem_of_getElem? (i := 1) (show wsX5_append[1]? = some (Cond.fieldLink RX5 142 "SecretDinnerModel" "length" "I") from rfl))
  have i5 : ∀ w ∈ wsX50, w ∈ wsX5_append := inPlaces [12, 13, 14, 15, 16, 17, 18, 19, 20, 21, 22, 23, 24, 25, 26, 27, 28, 29, 30, 31] (by decide +kernel)
  refine J_eq (lv' := [(0, .ref (m 0)), (1, .int (nI c))]) (ws' := [oB (m 0) 5 [.ref (m 1), .ref (m 2), .int (nI (v 2)), .int (nI (v 3)), .ref (m 3), .int (nI (v 5)), .int (nI (v 6)), .ref (m 4), .ref (m 5), .ref (m 6), .ref (m 7), .ref (m 8), .ref (m 9), .ref (m 10), .ref (m 11), .int (nI (v 15)), .int (nI (v 16)), .int (nI (v 17)), .int (nI (v 18)), .long (lN (v 19))]]) rfl rfl rfl rfl ?_
  refine J_aload_n C dX5_append_0 rfl 0 rfl ?_
  refine J_iload_n C dX5_append_1 rfl 1 rfl ?_
  refine J_iconst C dX5_append_2 (v := nI 0) (by decide) ?_
  refine J_bipush C dX5_append_3 (v := nI 127) (by decide) ?_
  refine J_callI (wr := [oB (m 0) 5 [.ref (m 1), .ref (m 2), .int (nI (v 2)), .int (nI (v 3)), .ref (m 3), .int (nI (v 5)), .int (nI (v 6)), .ref (m 4), .ref (m 5), .ref (m 6), .ref (m 7), .ref (m 8), .ref (m 9), .ref (m 10), .ref (m 11), .int (nI (v 15)), .int (nI (v 16)), .int (nI (v 17)), .int (nI (v 18)), .long (lN (v 19))]]) C (R_S (st := [.ref (m 0)]) (wc := []) C (kX5_in_n ll Y c 0 127 (by first | assumption | omega) (by first | assumption | omega) (by first | assumption | omega)) (va_cwS 3 C.t gX5_append_X5_in rfl rfl rfl (by decide +kernel) ⟨by decide, by decide⟩) rfl [] rfl (by decide) rfl (Nat.le_of_ble_eq_true rfl) dX5_append_5 ⟨Nat.le_of_ble_eq_true rfl, Nat.le_of_ble_eq_true rfl⟩) [] [0] rfl rfl (by decide) (by decide) (fun r5 u5 hw5 => ?_)
  subst hw5
  refine J_eq (pc' := 8) (lv' := [(0, .ref (m 0)), (1, .int (nI c))]) (st' := [.int (p2i (0 ≤ c ∧ c ≤ 127)), .ref (m 0)]) (ws' := [oB (m 0) 5 [.ref (m 1), .ref (m 2), .int (nI (v 2)), .int (nI (v 3)), .ref (m 3), .int (nI (v 5)), .int (nI (v 6)), .ref (m 4), .ref (m 5), .ref (m 6), .ref (m 7), .ref (m 8), .ref (m 9), .ref (m 10), .ref (m 11), .int (nI (v 15)), .int (nI (v 16)), .int (nI (v 17)), .int (nI (v 18)), .long (lN (v 19))]]) rfl rfl rfl rfl ?_
  refine J_if_neP (tgt := 15) C dX5_append_8 (by decide) (fun cq8 => ?_) (fun cq8 => ?_)
  · refine J_aload_n C dX5_append_15 rfl 0 rfl ?_
    refine J_get (ci := 5) C i5 rfl 5 (by decide) w0 rfl 0 rfl rfl dX5_append_16 ?_
    refine J_bipush C dX5_append_19 (v := nI 90) (by decide) ?_
    refine J_icmp_neN (tgt := 28) C dX5_append_21 (by decide) (by omega) (by omega) (fun cq21 => ?_) (fun cq21 => ?_)
    · exact absurd cq21 (by omega)
    · refine J_iconst C dX5_append_24 (v := nI 2) (by decide) ?_
      refine J_goto (tgt := 29) C dX5_append_25 (by decide) ?_
      refine J_callI (wr := []) C (R_V (st := []) (wc := [oB (m 0) 5 [.ref (m 1), .ref (m 2), .int (nI (v 2)), .int (nI (v 3)), .ref (m 3), .int (nI (v 5)), .int (nI (v 6)), .ref (m 4), .ref (m 5), .ref (m 6), .ref (m 7), .ref (m 8), .ref (m 9), .ref (m 10), .ref (m 11), .int (nI (v 15)), .int (nI (v 16)), .int (nI (v 17)), .int (nI (v 18)), .long (lN (v 19))]]) C (kX5_refused ll Y m v 2 (by first | assumption | omega)) (cwV 1 C.t gX5_append_X5_refused rfl rfl rfl (by decide +kernel) ⟨by decide, by decide⟩) rfl [0] rfl (by decide) ⟨0, 5, _, _, rfl, rfl, rfl⟩ rfl (Nat.le_of_ble_eq_true rfl) dX5_append_29 ⟨Nat.le_of_ble_eq_true rfl, Nat.le_of_ble_eq_true rfl⟩) [0] [] rfl rfl (by decide) (by decide) (fun r29 u29 hw29 => ?_)
      subst hw29
      refine J_eq (pc' := 32) (lv' := [(0, .ref (m 0)), (1, .int (nI c))]) (st' := [.int (p2i (0 < 2))]) (ws' := [oB (m 0) 5 [.ref (m 1), .ref (m 2), .int (nI (((va_up v 3 2)) 2)), .int (nI (((va_up v 3 2)) 3)), .ref (m 3), .int (nI (((va_up v 3 2)) 5)), .int (nI (((va_up v 3 2)) 6)), .ref (m 4), .ref (m 5), .ref (m 6), .ref (m 7), .ref (m 8), .ref (m 9), .ref (m 10), .ref (m 11), .int (nI (((va_up v 3 2)) 15)), .int (nI (((va_up v 3 2)) 16)), .int (nI (((va_up v 3 2)) 17)), .int (nI (((va_up v 3 2)) 18)), .long (lN (((va_up v 3 2)) 19))]]) rfl rfl rfl rfl ?_
      refine J_if_eqP (tgt := 37) C dX5_append_32 (by decide) (fun cq32 => ?_) (fun cq32 => ?_)
      · exact absurd cq32 (by decide)
      · refine J_iconst C dX5_append_35 (v := nI 0) (by decide) ?_
        exact J_iret C hr dX5_append_36 (()) (rfl) (rfl)
  · exact absurd cq8 (by omega)

set_option maxHeartbeats 4000000 in
set_option maxRecDepth 100000 in
theorem kX5_append_k (ll : Launch) (Y : GY) (m : Nat → Nat) (v : Nat → Nat) (tx : Nat → Nat) (c : Nat) (hc : c ≤ 127) (h5 : v 5 < 90) : CT ll yX5_append wsX5_append { frames := 1, cells := 0, slots := 0, locals := 22 } Y [.ref (m 0), .int (nI c)] [oB (m 0) 5 [.ref (m 1), .ref (m 2), .int (nI (v 2)), .int (nI (v 3)), .ref (m 3), .int (nI (v 5)), .int (nI (v 6)), .ref (m 4), .ref (m 5), .ref (m 6), .ref (m 7), .ref (m 8), .ref (m 9), .ref (m 10), .ref (m 11), .int (nI (v 15)), .int (nI (v 16)), .int (nI (v 17)), .int (nI (v 18)), .long (lN (v 19))], aI Y (m 3) 90 (nF tx)] (QI Y (fun (r : Int32) (_ : Unit) => r = nI (v 5 + 1)) (fun _ => [oB (m 0) 5 [.ref (m 1), .ref (m 2), .int (nI (((va_up (va_up v 3 0) 5 (v 5 + 1))) 2)), .int (nI (((va_up (va_up v 3 0) 5 (v 5 + 1))) 3)), .ref (m 3), .int (nI (((va_up (va_up v 3 0) 5 (v 5 + 1))) 5)), .int (nI (((va_up (va_up v 3 0) 5 (v 5 + 1))) 6)), .ref (m 4), .ref (m 5), .ref (m 6), .ref (m 7), .ref (m 8), .ref (m 9), .ref (m 10), .ref (m 11), .int (nI (((va_up (va_up v 3 0) 5 (v 5 + 1))) 15)), .int (nI (((va_up (va_up v 3 0) 5 (v 5 + 1))) 16)), .int (nI (((va_up (va_up v 3 0) 5 (v 5 + 1))) 17)), .int (nI (((va_up (va_up v 3 0) 5 (v 5 + 1))) 18)), .long (lN (((va_up (va_up v 3 0) 5 (v 5 + 1))) 19))], aI Y (m 3) 90 (nF ((va_up tx (v 5) c)))])) 0 0 := by
  refine CT_of (cc := cX5_append) (maxL := 2) (ret := (some .int)) (by decide) rfl (Nat.le_of_ble_eq_true rfl) ?_
  intro pp ee ss mm bl mt cc AA C hr hnm
  have w0 := C.t _ (List.mem_of_getElem? (i := 1) (show wsX5_append[1]? = some (Cond.fieldLink RX5 142 "SecretDinnerModel" "length" "I") from rfl))
  have w1 := C.t _ (List.mem_of_getElem? (i := 2) (show wsX5_append[2]? = some (Cond.fieldLink RX5 16 "SecretDinnerModel" "text" "[I") from rfl))
  have i5 : ∀ w ∈ wsX50, w ∈ wsX5_append := inPlaces [12, 13, 14, 15, 16, 17, 18, 19, 20, 21, 22, 23, 24, 25, 26, 27, 28, 29, 30, 31] (by decide +kernel)
  refine J_eq (lv' := [(0, .ref (m 0)), (1, .int (nI c))]) (ws' := [oB (m 0) 5 [.ref (m 1), .ref (m 2), .int (nI (v 2)), .int (nI (v 3)), .ref (m 3), .int (nI (v 5)), .int (nI (v 6)), .ref (m 4), .ref (m 5), .ref (m 6), .ref (m 7), .ref (m 8), .ref (m 9), .ref (m 10), .ref (m 11), .int (nI (v 15)), .int (nI (v 16)), .int (nI (v 17)), .int (nI (v 18)), .long (lN (v 19))], aI Y (m 3) 90 (nF tx)]) rfl rfl rfl rfl ?_
  refine J_aload_n C dX5_append_0 rfl 0 rfl ?_
  refine J_iload_n C dX5_append_1 rfl 1 rfl ?_
  refine J_iconst C dX5_append_2 (v := nI 0) (by decide) ?_
  refine J_bipush C dX5_append_3 (v := nI 127) (by decide) ?_
  refine J_callI (wr := [oB (m 0) 5 [.ref (m 1), .ref (m 2), .int (nI (v 2)), .int (nI (v 3)), .ref (m 3), .int (nI (v 5)), .int (nI (v 6)), .ref (m 4), .ref (m 5), .ref (m 6), .ref (m 7), .ref (m 8), .ref (m 9), .ref (m 10), .ref (m 11), .int (nI (v 15)), .int (nI (v 16)), .int (nI (v 17)), .int (nI (v 18)), .long (lN (v 19))], aI Y (m 3) 90 (nF tx)]) C (R_S (st := [.ref (m 0)]) (wc := []) C (kX5_in_n ll Y c 0 127 (by first | assumption | omega) (by first | assumption | omega) (by first | assumption | omega)) (va_cwS 3 C.t gX5_append_X5_in rfl rfl rfl (by decide +kernel) ⟨by decide, by decide⟩) rfl [] rfl (by decide) rfl (Nat.le_of_ble_eq_true rfl) dX5_append_5 ⟨Nat.le_of_ble_eq_true rfl, Nat.le_of_ble_eq_true rfl⟩) [] [0, 1] rfl rfl (by decide) (by decide) (fun r5 u5 hw5 => ?_)
  subst hw5
  refine J_eq (pc' := 8) (lv' := [(0, .ref (m 0)), (1, .int (nI c))]) (st' := [.int (p2i (0 ≤ c ∧ c ≤ 127)), .ref (m 0)]) (ws' := [oB (m 0) 5 [.ref (m 1), .ref (m 2), .int (nI (v 2)), .int (nI (v 3)), .ref (m 3), .int (nI (v 5)), .int (nI (v 6)), .ref (m 4), .ref (m 5), .ref (m 6), .ref (m 7), .ref (m 8), .ref (m 9), .ref (m 10), .ref (m 11), .int (nI (v 15)), .int (nI (v 16)), .int (nI (v 17)), .int (nI (v 18)), .long (lN (v 19))], aI Y (m 3) 90 (nF tx)]) rfl rfl rfl rfl ?_
  refine J_if_neP (tgt := 15) C dX5_append_8 (by decide) (fun cq8 => ?_) (fun cq8 => ?_)
  · refine J_aload_n C dX5_append_15 rfl 0 rfl ?_
    refine J_get (ci := 5) C i5 rfl 5 (by decide) w0 rfl 0 rfl rfl dX5_append_16 ?_
    refine J_bipush C dX5_append_19 (v := nI 90) (by decide) ?_
    refine J_icmp_neN (tgt := 28) C dX5_append_21 (by decide) (by omega) (by omega) (fun cq21 => ?_) (fun cq21 => ?_)
    · refine J_iconst C dX5_append_28 (v := nI 0) (by decide) ?_
      refine J_callI (wr := [aI Y (m 3) 90 (nF tx)]) C (R_V (st := []) (wc := [oB (m 0) 5 [.ref (m 1), .ref (m 2), .int (nI (v 2)), .int (nI (v 3)), .ref (m 3), .int (nI (v 5)), .int (nI (v 6)), .ref (m 4), .ref (m 5), .ref (m 6), .ref (m 7), .ref (m 8), .ref (m 9), .ref (m 10), .ref (m 11), .int (nI (v 15)), .int (nI (v 16)), .int (nI (v 17)), .int (nI (v 18)), .long (lN (v 19))]]) C (kX5_refused ll Y m v 0 (by first | assumption | omega)) (cwV 1 C.t gX5_append_X5_refused rfl rfl rfl (by decide +kernel) ⟨by decide, by decide⟩) rfl [0] rfl (by decide) ⟨0, 5, _, _, rfl, rfl, rfl⟩ rfl (Nat.le_of_ble_eq_true rfl) dX5_append_29 ⟨Nat.le_of_ble_eq_true rfl, Nat.le_of_ble_eq_true rfl⟩) [0] [1] rfl rfl (by decide) (by decide) (fun r29 u29 hw29 => ?_)
      subst hw29
      refine J_eq (pc' := 32) (lv' := [(0, .ref (m 0)), (1, .int (nI c))]) (st' := [.int (p2i (0 < 0))]) (ws' := [aI Y (m 3) 90 (nF tx), oB (m 0) 5 [.ref (m 1), .ref (m 2), .int (nI (((va_up v 3 0)) 2)), .int (nI (((va_up v 3 0)) 3)), .ref (m 3), .int (nI (((va_up v 3 0)) 5)), .int (nI (((va_up v 3 0)) 6)), .ref (m 4), .ref (m 5), .ref (m 6), .ref (m 7), .ref (m 8), .ref (m 9), .ref (m 10), .ref (m 11), .int (nI (((va_up v 3 0)) 15)), .int (nI (((va_up v 3 0)) 16)), .int (nI (((va_up v 3 0)) 17)), .int (nI (((va_up v 3 0)) 18)), .long (lN (((va_up v 3 0)) 19))]]) rfl rfl rfl rfl ?_
      refine J_perm (ws' := [oB (m 0) 5 [.ref (m 1), .ref (m 2), .int (nI (((va_up v 3 0)) 2)), .int (nI (((va_up v 3 0)) 3)), .ref (m 3), .int (nI (((va_up v 3 0)) 5)), .int (nI (((va_up v 3 0)) 6)), .ref (m 4), .ref (m 5), .ref (m 6), .ref (m 7), .ref (m 8), .ref (m 9), .ref (m 10), .ref (m 11), .int (nI (((va_up v 3 0)) 15)), .int (nI (((va_up v 3 0)) 16)), .int (nI (((va_up v 3 0)) 17)), .int (nI (((va_up v 3 0)) 18)), .long (lN (((va_up v 3 0)) 19))], aI Y (m 3) 90 (nF tx)]) [1, 0] rfl (by decide) ?_
      refine J_if_eqP (tgt := 37) C dX5_append_32 (by decide) (fun cq32 => ?_) (fun cq32 => ?_)
      · refine J_eq (ws' := [oB (m 0) 5 [.ref (m 1), .ref (m 2), .int (nI (((va_up v 3 0)) 2)), .int (nI (((va_up v 3 0)) 3)), .ref (m 3), .int (nI (v 5)), .int (nI (((va_up v 3 0)) 6)), .ref (m 4), .ref (m 5), .ref (m 6), .ref (m 7), .ref (m 8), .ref (m 9), .ref (m 10), .ref (m 11), .int (nI (((va_up v 3 0)) 15)), .int (nI (((va_up v 3 0)) 16)), .int (nI (((va_up v 3 0)) 17)), .int (nI (((va_up v 3 0)) 18)), .long (lN (((va_up v 3 0)) 19))], aI Y (m 3) 90 (nF tx)]) rfl rfl rfl (rfl) ?_
        refine J_aload_n C dX5_append_37 rfl 0 rfl ?_
        refine J_get (ci := 5) C i5 rfl 4 (by decide) w1 rfl 0 rfl rfl dX5_append_38 ?_
        refine J_aload_n C dX5_append_41 rfl 0 rfl ?_
        refine J_get (ci := 5) C i5 rfl 5 (by decide) w0 rfl 0 rfl rfl dX5_append_42 ?_
        refine J_iload_n C dX5_append_45 rfl 1 rfl ?_
        refine J_iastF (ws' := [oB (m 0) 5 [.ref (m 1), .ref (m 2), .int (nI (((va_up v 3 0)) 2)), .int (nI (((va_up v 3 0)) 3)), .ref (m 3), .int (nI (v 5)), .int (nI (((va_up v 3 0)) 6)), .ref (m 4), .ref (m 5), .ref (m 6), .ref (m 7), .ref (m 8), .ref (m 9), .ref (m 10), .ref (m 11), .int (nI (((va_up v 3 0)) 15)), .int (nI (((va_up v 3 0)) 16)), .int (nI (((va_up v 3 0)) 17)), .int (nI (((va_up v 3 0)) 18)), .long (lN (((va_up v 3 0)) 19))], aI Y (m 3) 90 (nF (va_up tx (v 5) c))]) C 1 rfl (by omega) (by omega) dX5_append_46 rfl ?_
        refine J_aload_n C dX5_append_47 rfl 0 rfl ?_
        refine J_dup C dX5_append_48 rfl ?_
        refine J_get (ci := 5) C i5 rfl 5 (by decide) w0 rfl 0 rfl rfl dX5_append_49 ?_
        refine J_iconst C dX5_append_52 (v := nI 1) (by decide) ?_
        refine J_iaddN C dX5_append_53 ?_
        refine J_put (ci := 5) (ty := .int) (ws' := [oB (m 0) 5 [.ref (m 1), .ref (m 2), .int (nI (((va_up v 3 0)) 2)), .int (nI (((va_up v 3 0)) 3)), .ref (m 3), .int (nI ((v 5) + 1)), .int (nI (((va_up v 3 0)) 6)), .ref (m 4), .ref (m 5), .ref (m 6), .ref (m 7), .ref (m 8), .ref (m 9), .ref (m 10), .ref (m 11), .int (nI (((va_up v 3 0)) 15)), .int (nI (((va_up v 3 0)) 16)), .int (nI (((va_up v 3 0)) 17)), .int (nI (((va_up v 3 0)) 18)), .long (lN (((va_up v 3 0)) 19))], aI Y (m 3) 90 (nF (va_up tx (v 5) c))]) C i5 tyX5 tyX5_ok nmX5 rfl 5 (by decide) w0 rfl rfl (by decide +kernel) (rfl) (rfl) 0 rfl (Nat.le_of_ble_eq_true rfl) dX5_append_54 rfl ?_
        refine J_aload_n C dX5_append_57 rfl 0 rfl ?_
        refine J_get (ci := 5) C i5 rfl 5 (by decide) w0 rfl 0 rfl rfl dX5_append_58 ?_
        exact J_iret C hr dX5_append_61 (()) (rfl) (rfl)
      · exact absurd cq32 (by decide)
    · exact absurd cq21 (by omega)
  · exact absurd cq8 (by omega)

set_option maxHeartbeats 4000000 in
set_option maxRecDepth 100000 in
theorem kX5_clearText (ll : Launch) (Y : GY) (m : Nat → Nat) (v : Nat → Nat)  : CT ll yX5_clearText wsX5_clearText { frames := 0, cells := 0, slots := 0, locals := 0 } Y [.ref (m 0)] [oB (m 0) 5 [.ref (m 1), .ref (m 2), .int (nI (v 2)), .int (nI (v 3)), .ref (m 3), .int (nI (v 5)), .int (nI (v 6)), .ref (m 4), .ref (m 5), .ref (m 6), .ref (m 7), .ref (m 8), .ref (m 9), .ref (m 10), .ref (m 11), .int (nI (v 15)), .int (nI (v 16)), .int (nI (v 17)), .int (nI (v 18)), .long (lN (v 19))]] (QI Y (fun (r : Int32) (_ : Unit) => r = nI (v 5)) (fun _ => [oB (m 0) 5 [.ref (m 1), .ref (m 2), .int (nI (((va_up (va_up v 3 0) 5 0)) 2)), .int (nI (((va_up (va_up v 3 0) 5 0)) 3)), .ref (m 3), .int (nI (((va_up (va_up v 3 0) 5 0)) 5)), .int (nI (((va_up (va_up v 3 0) 5 0)) 6)), .ref (m 4), .ref (m 5), .ref (m 6), .ref (m 7), .ref (m 8), .ref (m 9), .ref (m 10), .ref (m 11), .int (nI (((va_up (va_up v 3 0) 5 0)) 15)), .int (nI (((va_up (va_up v 3 0) 5 0)) 16)), .int (nI (((va_up (va_up v 3 0) 5 0)) 17)), .int (nI (((va_up (va_up v 3 0) 5 0)) 18)), .long (lN (((va_up (va_up v 3 0) 5 0)) 19))]])) 0 0 := by
  refine CT_of (cc := cX5_clearText) (maxL := 2) (ret := (some .int)) (by decide) rfl (Nat.le_of_ble_eq_true rfl) ?_
  intro pp ee ss mm bl mt cc AA C hr hnm
  have w0 := C.t _ (List.mem_of_getElem? (i := 1) (show wsX5_clearText[1]? = some (Cond.fieldLink RX5 43 "SecretDinnerModel" "refusal" "I") from rfl))
  have w1 := C.t _ (List.mem_of_getElem? (i := 2) (show wsX5_clearText[2]? = some (Cond.fieldLink RX5 142 "SecretDinnerModel" "length" "I") from rfl))
  have i5 : ∀ w ∈ wsX50, w ∈ wsX5_clearText := inPlaces [3, 4, 5, 6, 7, 8, 9, 10, 11, 12, 13, 14, 15, 16, 17, 18, 19, 20, 21, 22] (by decide +kernel)
  refine J_eq (lv' := [(0, .ref (m 0))]) (ws' := [oB (m 0) 5 [.ref (m 1), .ref (m 2), .int (nI (v 2)), .int (nI (v 3)), .ref (m 3), .int (nI (v 5)), .int (nI (v 6)), .ref (m 4), .ref (m 5), .ref (m 6), .ref (m 7), .ref (m 8), .ref (m 9), .ref (m 10), .ref (m 11), .int (nI (v 15)), .int (nI (v 16)), .int (nI (v 17)), .int (nI (v 18)), .long (lN (v 19))]]) rfl rfl rfl rfl ?_
  refine J_aload_n C dX5_clearText_0 rfl 0 rfl ?_
  refine J_iconst C dX5_clearText_1 (v := nI 0) (by decide) ?_
  refine J_put (ci := 5) (ty := .int) (ws' := [oB (m 0) 5 [.ref (m 1), .ref (m 2), .int (nI (v 2)), .int (nI 0), .ref (m 3), .int (nI (v 5)), .int (nI (v 6)), .ref (m 4), .ref (m 5), .ref (m 6), .ref (m 7), .ref (m 8), .ref (m 9), .ref (m 10), .ref (m 11), .int (nI (v 15)), .int (nI (v 16)), .int (nI (v 17)), .int (nI (v 18)), .long (lN (v 19))]]) C i5 tyX5 tyX5_ok nmX5 rfl 3 (by decide) w0 rfl rfl (by decide +kernel) (rfl) (rfl) 0 rfl (Nat.le_of_ble_eq_true rfl) dX5_clearText_2 rfl ?_
  refine J_aload_n C dX5_clearText_5 rfl 0 rfl ?_
  refine J_get (ci := 5) C i5 rfl 5 (by decide) w1 rfl 0 rfl rfl dX5_clearText_6 ?_
  refine J_istore_n (lv' := [(1, .int (nI (v 5))), (0, .ref (m 0))]) C dX5_clearText_9 rfl (by decide) rfl ?_
  refine J_aload_n C dX5_clearText_10 rfl 1 rfl ?_
  refine J_iconst C dX5_clearText_11 (v := nI 0) (by decide) ?_
  refine J_put (ci := 5) (ty := .int) (ws' := [oB (m 0) 5 [.ref (m 1), .ref (m 2), .int (nI (v 2)), .int (nI 0), .ref (m 3), .int (nI 0), .int (nI (v 6)), .ref (m 4), .ref (m 5), .ref (m 6), .ref (m 7), .ref (m 8), .ref (m 9), .ref (m 10), .ref (m 11), .int (nI (v 15)), .int (nI (v 16)), .int (nI (v 17)), .int (nI (v 18)), .long (lN (v 19))]]) C i5 tyX5 tyX5_ok nmX5 rfl 5 (by decide) w1 rfl rfl (by decide +kernel) (rfl) (rfl) 0 rfl (Nat.le_of_ble_eq_true rfl) dX5_clearText_12 rfl ?_
  refine J_iload_n C dX5_clearText_15 rfl 0 rfl ?_
  exact J_iret C hr dX5_clearText_16 (()) (rfl) (rfl)

set_option maxHeartbeats 4000000 in
set_option maxRecDepth 100000 in
theorem kX5_isAt (ll : Launch) (Y : GY) (m : Nat → Nat) (v : Nat → Nat) (n : Nat) (sp : Nat) (lt : Nat) (wh : Nat) (cs : Nat) (tx : Nat → Nat) (lo : Nat) (hi : Nat) (hn : n ≤ 90) (ht : ∀ i, tx i < 128) (hsp : sp ≤ 200) (hlo : lo ≤ 300 ∧ hi ≤ 300) : CT ll yX5_isAt wsX5_isAt { frames := 1, cells := 0, slots := 0, locals := 22 } Y [.ref (m 0), .int (nI lo), .int (nI hi)] [oB (m 0) 5 [.ref (m 1), .ref (m 2), .int (nI (v 2)), .int (nI (v 3)), .ref (m 3), .int (nI n), .int (nI (v 6)), .ref (m 4), .ref (m 5), .ref (m 6), .ref (m 7), .ref (m 8), .ref (m 9), .ref (m 10), .ref (m 11), .int (nI sp), .int (nI lt), .int (nI wh), .int (nI cs), .long (lN (v 19))], aI Y (m 3) 90 (nF tx)] (QI Y (fun (r : Int32) (_ : Unit) => r = p2i (((lo : Nat) : Int) ≤ tk tx n sp ∧ tk tx n sp ≤ ((hi : Nat) : Int))) (fun _ => [oB (m 0) 5 [.ref (m 1), .ref (m 2), .int (nI (v 2)), .int (nI (v 3)), .ref (m 3), .int (nI n), .int (nI (v 6)), .ref (m 4), .ref (m 5), .ref (m 6), .ref (m 7), .ref (m 8), .ref (m 9), .ref (m 10), .ref (m 11), .int (nI sp), .int (nI lt), .int (nI wh), .int (nI cs), .long (lN (v 19))], aI Y (m 3) 90 (nF tx)])) 0 0 := by
  refine CT_of (cc := cX5_isAt) (maxL := 3) (ret := (some .boolean)) (by decide) rfl (Nat.le_of_ble_eq_true rfl) ?_
  intro pp ee ss mm bl mt cc AA C hr hnm
  have w0 := C.t _ (List.mem_of_getElem? (i := 1) (show wsX5_isAt[1]? = some (Cond.fieldLink RX5 145 "SecretDinnerModel" "spot" "I") from rfl))
  have w1 := C.t _ (List.mem_of_getElem? (i := 2) (show wsX5_isAt[2]? = some (Cond.fieldLink RX5 142 "SecretDinnerModel" "length" "I") from rfl))
  have w2 := C.t _ (List.mem_of_getElem? (i := 3) (show wsX5_isAt[3]? = some (Cond.fieldLink RX5 16 "SecretDinnerModel" "text" "[I") from rfl))
  have i5 : ∀ w ∈ wsX50, w ∈ wsX5_isAt := inPlaces [8, 9, 10, 11, 12, 13, 14, 15, 16, 17, 18, 19, 20, 21, 22, 23, 24, 25, 26, 27] (by decide +kernel)
  refine J_eq (lv' := [(0, .ref (m 0)), (1, .int (nI lo)), (2, .int (nI hi))]) (ws' := [oB (m 0) 5 [.ref (m 1), .ref (m 2), .int (nI (v 2)), .int (nI (v 3)), .ref (m 3), .int (nI n), .int (nI (v 6)), .ref (m 4), .ref (m 5), .ref (m 6), .ref (m 7), .ref (m 8), .ref (m 9), .ref (m 10), .ref (m 11), .int (nI sp), .int (nI lt), .int (nI wh), .int (nI cs), .long (lN (v 19))], aI Y (m 3) 90 (nF tx)]) rfl rfl rfl rfl ?_
  refine J_aload_n C dX5_isAt_0 rfl 0 rfl ?_
  refine J_get (ci := 5) C i5 rfl 15 (by decide) w0 rfl 0 rfl rfl dX5_isAt_1 ?_
  refine J_aload_n C dX5_isAt_4 rfl 0 rfl ?_
  refine J_get (ci := 5) C i5 rfl 5 (by decide) w1 rfl 0 rfl rfl dX5_isAt_5 ?_
  refine J_icmp_geN (tgt := 32) C dX5_isAt_8 (by decide) (by omega) (by omega) (fun cq8 => ?_) (fun cq8 => ?_)
  · refine J_iconst C dX5_isAt_32 (v := nI 0) (by decide) ?_
    exact J_zret C hr (by decide) dX5_isAt_33 (()) ((p2i_f (by rw [tk_out cq8]; omega)).symm) (rfl)
  · refine J_aload_n C dX5_isAt_11 rfl 0 rfl ?_
    refine J_get (ci := 5) C i5 rfl 4 (by decide) w2 rfl 0 rfl rfl dX5_isAt_12 ?_
    refine J_aload_n C dX5_isAt_15 rfl 0 rfl ?_
    refine J_get (ci := 5) C i5 rfl 15 (by decide) w0 rfl 0 rfl rfl dX5_isAt_16 ?_
    refine J_ialdF C 1 rfl (by omega) (by omega) dX5_isAt_19 ?_
    refine J_iload_n C dX5_isAt_20 rfl 1 rfl ?_
    refine J_iload_n C dX5_isAt_21 rfl 2 rfl ?_
    refine J_callI (wr := [oB (m 0) 5 [.ref (m 1), .ref (m 2), .int (nI (v 2)), .int (nI (v 3)), .ref (m 3), .int (nI n), .int (nI (v 6)), .ref (m 4), .ref (m 5), .ref (m 6), .ref (m 7), .ref (m 8), .ref (m 9), .ref (m 10), .ref (m 11), .int (nI sp), .int (nI lt), .int (nI wh), .int (nI cs), .long (lN (v 19))], aI Y (m 3) 90 (nF tx)]) C (R_S (st := []) (wc := []) C (kX5_in_n ll Y (tx sp) lo hi (Nat.lt_trans (ht sp) (by decide)) (by first | assumption | omega) (by first | assumption | omega)) (va_cwS 3 C.t gX5_isAt_X5_in rfl rfl rfl (by decide +kernel) ⟨by decide, by decide⟩) rfl [] rfl (by decide) rfl (Nat.le_of_ble_eq_true rfl) dX5_isAt_22 ⟨Nat.le_of_ble_eq_true rfl, Nat.le_of_ble_eq_true rfl⟩) [] [0, 1] rfl rfl (by decide) (by decide) (fun r22 u22 hw22 => ?_)
    subst hw22
    refine J_eq (pc' := 25) (lv' := [(0, .ref (m 0)), (1, .int (nI lo)), (2, .int (nI hi))]) (st' := [.int (p2i (lo ≤ (tx sp) ∧ (tx sp) ≤ hi))]) (ws' := [oB (m 0) 5 [.ref (m 1), .ref (m 2), .int (nI (v 2)), .int (nI (v 3)), .ref (m 3), .int (nI n), .int (nI (v 6)), .ref (m 4), .ref (m 5), .ref (m 6), .ref (m 7), .ref (m 8), .ref (m 9), .ref (m 10), .ref (m 11), .int (nI sp), .int (nI lt), .int (nI wh), .int (nI cs), .long (lN (v 19))], aI Y (m 3) 90 (nF tx)]) rfl rfl rfl rfl ?_
    refine J_if_eqP (tgt := 32) C dX5_isAt_25 (by decide) (fun cq25 => ?_) (fun cq25 => ?_)
    · refine J_iconst C dX5_isAt_32 (v := nI 0) (by decide) ?_
      exact J_zret C hr (by decide) dX5_isAt_33 (()) ((p2i_f (by rw [tk_in cq8]; omega)).symm) (rfl)
    · refine J_iconst C dX5_isAt_28 (v := nI 1) (by decide) ?_
      refine J_goto (tgt := 33) C dX5_isAt_29 (by decide) ?_
      exact J_zret C hr (by decide) dX5_isAt_33 (()) ((p2i_t (by rw [tk_in cq8]; omega)).symm) (rfl)

set_option maxHeartbeats 4000000 in
set_option maxRecDepth 100000 in
theorem kX5_takes (ll : Launch) (Y : GY) (m : Nat → Nat) (v : Nat → Nat) (n : Nat) (sp : Nat) (lt : Nat) (wh : Nat) (cs : Nat) (tx : Nat → Nat) (lo : Nat) (hi : Nat) (hn : n ≤ 90) (ht : ∀ i, tx i < 128) (hsp : sp ≤ 200) (hlo : lo ≤ 300 ∧ hi ≤ 300) : CT ll yX5_takes wsX5_takes { frames := 2, cells := 0, slots := 0, locals := 44 } Y [.ref (m 0), .int (nI lo), .int (nI hi)] [oB (m 0) 5 [.ref (m 1), .ref (m 2), .int (nI (v 2)), .int (nI (v 3)), .ref (m 3), .int (nI n), .int (nI (v 6)), .ref (m 4), .ref (m 5), .ref (m 6), .ref (m 7), .ref (m 8), .ref (m 9), .ref (m 10), .ref (m 11), .int (nI sp), .int (nI lt), .int (nI wh), .int (nI cs), .long (lN (v 19))], aI Y (m 3) 90 (nF tx)] (QI Y (fun (r : Int32) (_ : Unit) => r = p2i (((lo : Nat) : Int) ≤ tk tx n sp ∧ tk tx n sp ≤ ((hi : Nat) : Int))) (fun _ => [oB (m 0) 5 [.ref (m 1), .ref (m 2), .int (nI (v 2)), .int (nI (v 3)), .ref (m 3), .int (nI n), .int (nI (v 6)), .ref (m 4), .ref (m 5), .ref (m 6), .ref (m 7), .ref (m 8), .ref (m 9), .ref (m 10), .ref (m 11), .int (nI (if ((lo : Nat) : Int) ≤ tk tx n sp ∧ tk tx n sp ≤ ((hi : Nat) : Int) then sp + 1 else sp)), .int (nI lt), .int (nI wh), .int (nI cs), .long (lN (v 19))], aI Y (m 3) 90 (nF tx)])) 0 0 := by
  refine CT_of (cc := cX5_takes) (maxL := 4) (ret := (some .boolean)) (by decide) rfl (Nat.le_of_ble_eq_true rfl) ?_
  intro pp ee ss mm bl mt cc AA C hr hnm
  have w0 := C.t _ (List.mem_of_getElem? (i := 1) (show wsX5_takes[1]? = some (Cond.fieldLink RX5 145 "SecretDinnerModel" "spot" "I") from rfl))
  have i5 : ∀ w ∈ wsX50, w ∈ wsX5_takes := inPlaces [12, 13, 14, 15, 16, 17, 18, 19, 20, 21, 22, 23, 24, 25, 26, 27, 28, 29, 30, 31] (by decide +kernel)
  refine J_eq (lv' := [(0, .ref (m 0)), (1, .int (nI lo)), (2, .int (nI hi))]) (ws' := [oB (m 0) 5 [.ref (m 1), .ref (m 2), .int (nI (v 2)), .int (nI (v 3)), .ref (m 3), .int (nI n), .int (nI (v 6)), .ref (m 4), .ref (m 5), .ref (m 6), .ref (m 7), .ref (m 8), .ref (m 9), .ref (m 10), .ref (m 11), .int (nI sp), .int (nI lt), .int (nI wh), .int (nI cs), .long (lN (v 19))], aI Y (m 3) 90 (nF tx)]) rfl rfl rfl rfl ?_
  refine J_aload_n C dX5_takes_0 rfl 0 rfl ?_
  refine J_iload_n C dX5_takes_1 rfl 1 rfl ?_
  refine J_iload_n C dX5_takes_2 rfl 2 rfl ?_
  refine J_callI (wr := []) C (R_V (st := []) (wc := [oB (m 0) 5 [.ref (m 1), .ref (m 2), .int (nI (v 2)), .int (nI (v 3)), .ref (m 3), .int (nI n), .int (nI (v 6)), .ref (m 4), .ref (m 5), .ref (m 6), .ref (m 7), .ref (m 8), .ref (m 9), .ref (m 10), .ref (m 11), .int (nI sp), .int (nI lt), .int (nI wh), .int (nI cs), .long (lN (v 19))], aI Y (m 3) 90 (nF tx)]) C (kX5_isAt ll Y m v n sp lt wh cs tx lo hi (by first | assumption | omega) (by first | assumption | omega) (by first | assumption | omega) (by first | assumption | omega)) (cwV 2 C.t gX5_takes_X5_isAt rfl rfl rfl (by decide +kernel) ⟨by decide, by decide⟩) rfl [0, 1] rfl (by decide) ⟨0, 5, _, _, rfl, rfl, rfl⟩ rfl (Nat.le_of_ble_eq_true rfl) dX5_takes_3 ⟨Nat.le_of_ble_eq_true rfl, Nat.le_of_ble_eq_true rfl⟩) [0, 1] [] rfl rfl (by decide) (by decide) (fun r3 u3 hw3 => ?_)
  subst hw3
  refine J_eq (pc' := 6) (lv' := [(0, .ref (m 0)), (1, .int (nI lo)), (2, .int (nI hi))]) (st' := [.int (p2i (((lo : Nat) : Int) ≤ tk tx n sp ∧ tk tx n sp ≤ ((hi : Nat) : Int)))]) (ws' := [oB (m 0) 5 [.ref (m 1), .ref (m 2), .int (nI (v 2)), .int (nI (v 3)), .ref (m 3), .int (nI n), .int (nI (v 6)), .ref (m 4), .ref (m 5), .ref (m 6), .ref (m 7), .ref (m 8), .ref (m 9), .ref (m 10), .ref (m 11), .int (nI sp), .int (nI lt), .int (nI wh), .int (nI cs), .long (lN (v 19))], aI Y (m 3) 90 (nF tx)]) rfl rfl rfl rfl ?_
  refine J_istore_n (lv' := [(3, .int (p2i (((lo : Nat) : Int) ≤ tk tx n sp ∧ tk tx n sp ≤ ((hi : Nat) : Int)))), (0, .ref (m 0)), (1, .int (nI lo)), (2, .int (nI hi))]) C dX5_takes_6 rfl (by decide) rfl ?_
  refine J_aload_n C dX5_takes_7 rfl 1 rfl ?_
  refine J_dup C dX5_takes_8 rfl ?_
  refine J_get (ci := 5) C i5 rfl 15 (by decide) w0 rfl 0 rfl rfl dX5_takes_9 ?_
  refine J_iload_n C dX5_takes_12 rfl 0 rfl ?_
  refine J_if_eqP (tgt := 20) C dX5_takes_13 (by decide) (fun cq13 => ?_) (fun cq13 => ?_)
  · refine J_iconst C dX5_takes_20 (v := nI 0) (by decide) ?_
    refine J_iaddN C dX5_takes_21 ?_
    refine J_put (ci := 5) (ty := .int) (ws' := [oB (m 0) 5 [.ref (m 1), .ref (m 2), .int (nI (v 2)), .int (nI (v 3)), .ref (m 3), .int (nI n), .int (nI (v 6)), .ref (m 4), .ref (m 5), .ref (m 6), .ref (m 7), .ref (m 8), .ref (m 9), .ref (m 10), .ref (m 11), .int (nI (sp + 0)), .int (nI lt), .int (nI wh), .int (nI cs), .long (lN (v 19))], aI Y (m 3) 90 (nF tx)]) C i5 tyX5 tyX5_ok nmX5 rfl 15 (by decide) w0 rfl rfl (by decide +kernel) (rfl) (rfl) 0 rfl (Nat.le_of_ble_eq_true rfl) dX5_takes_22 rfl ?_
    refine J_iload_n C dX5_takes_25 rfl 0 rfl ?_
    exact J_zret C hr p2i_nar dX5_takes_26 (()) (rfl) (by rw [if_neg cq13]; first | done | rfl)
  · refine J_iconst C dX5_takes_16 (v := nI 1) (by decide) ?_
    refine J_goto (tgt := 21) C dX5_takes_17 (by decide) ?_
    refine J_iaddN C dX5_takes_21 ?_
    refine J_put (ci := 5) (ty := .int) (ws' := [oB (m 0) 5 [.ref (m 1), .ref (m 2), .int (nI (v 2)), .int (nI (v 3)), .ref (m 3), .int (nI n), .int (nI (v 6)), .ref (m 4), .ref (m 5), .ref (m 6), .ref (m 7), .ref (m 8), .ref (m 9), .ref (m 10), .ref (m 11), .int (nI (sp + 1)), .int (nI lt), .int (nI wh), .int (nI cs), .long (lN (v 19))], aI Y (m 3) 90 (nF tx)]) C i5 tyX5 tyX5_ok nmX5 rfl 15 (by decide) w0 rfl rfl (by decide +kernel) (rfl) (rfl) 0 rfl (Nat.le_of_ble_eq_true rfl) dX5_takes_22 rfl ?_
    refine J_iload_n C dX5_takes_25 rfl 0 rfl ?_
    exact J_zret C hr p2i_nar dX5_takes_26 (()) (rfl) (by rw [if_pos cq13]; first | done | rfl)

set_option maxHeartbeats 4000000 in
set_option maxRecDepth 100000 in
theorem kX5_cardOf (ll : Launch) (Y : GY) (c : Nat) (hc : c ≤ 7) : CT ll yX5_cardOf wsX5_cardOf { frames := 0, cells := 0, slots := 0, locals := 0 } Y [.int (nI (1 * 2 ^ c))] [] (QI Y (fun (r : Int32) (_ : Unit) => r = nI c) (fun _ => [])) 0 0 := by
  refine CT_of (cc := cX5_cardOf) (maxL := 2) (ret := (some .int)) (by decide) rfl (Nat.le_of_ble_eq_true rfl) ?_
  intro pp ee ss mm bl mt cc AA C hr hnm
  refine J_eq (lv' := [(0, .int (nI (1 * 2 ^ c)))]) (ws' := []) rfl rfl rfl rfl ?_
  refine J_iconst C dX5_cardOf_0 (v := nI 0) (by decide) ?_
  refine J_istore_n (lv' := [(1, .int (nI 0)), (0, .int (nI (1 * 2 ^ c)))]) C dX5_cardOf_1 rfl (by decide) rfl ?_
  refine J_lv (lv' := [(0, .int (nI (1 * 2 ^ c))), (1, .int (nI 0))]) [1, 0] rfl ?_
  refine J_loop (σ := Nat) (I := fun (k : Nat) => (k ≤ c)) (μ := fun (k : Nat) => c - k) (lvf := fun (k : Nat) => [(0, .int (nI (1 * 2 ^ c))), (1, .int (nI k))]) (stf := fun (k : Nat) => []) (wsf := fun (k : Nat) => []) ?_ (0) (by omega) (rfl) rfl (rfl)
  rintro k hk ih2
  refine J_eq (lv' := [(0, .int (nI (1 * 2 ^ c))), (1, .int (nI k))]) (st' := []) (ws' := []) rfl rfl rfl rfl ?_
  refine J_iload_n C dX5_cardOf_2 rfl 0 rfl ?_
  refine J_iload_n C dX5_cardOf_3 rfl 1 rfl ?_
  refine J_ishrN C dX5_cardOf_4 (by omega) ((c_p31 (k := k) hc).2) ?_
  refine J_iconst C dX5_cardOf_5 (v := nI 1) (by decide) ?_
  refine J_icmp_eqN (tgt := 15) C dX5_cardOf_6 (by decide) ((c_p31 hc).1) (by decide) (fun cq6 => ?_) (fun cq6 => ?_)
  · refine J_iload_n C dX5_cardOf_15 rfl 1 rfl ?_
    exact J_iret C hr dX5_cardOf_16 (()) (by rw [(c_one c (by omega) k (by omega) hk).mp cq6]) (rfl)
  · refine J_iinc (j := 1) (v := nI (k + 1)) (lv' := [(1, .int (nI (k + 1))), (0, .int (nI (1 * 2 ^ c)))]) C dX5_cardOf_9 rfl (nI_1 _) (by decide) rfl ?_
    refine J_goto (tgt := 2) C dX5_cardOf_12 (by decide) ?_
    refine J_lv (lv' := [(0, .int (nI (1 * 2 ^ c))), (1, .int (nI (k + 1)))]) [1, 0] rfl ?_
    exact ih2 (k + 1) (by have := c_one c (by omega) k (by omega) hk; have h9 : ¬ k = c := fun z => cq6 (this.mpr z); omega) (show c - (k + 1) < c - k from by have := c_one c (by omega) k (by omega) hk; have h9 : ¬ k = c := fun z => cq6 (this.mpr z); omega)

set_option maxHeartbeats 4000000 in
set_option maxRecDepth 100000 in
theorem kX5_reads (ll : Launch) (Y : GY) (m : Nat → Nat) (v : Nat → Nat) (n : Nat) (sp : Nat) (lt : Nat) (wh : Nat) (cs : Nat) (tx : Nat → Nat) (hn : n ≤ 90) (ht : ∀ i, tx i < 128) (hsp : sp ≤ 90) : CT ll yX5_reads wsX5_reads { frames := 3, cells := 0, slots := 0, locals := 67 } Y [.ref (m 0)] [oB (m 0) 5 [.ref (m 1), .ref (m 2), .int (nI (v 2)), .int (nI (v 3)), .ref (m 3), .int (nI n), .int (nI (v 6)), .ref (m 4), .ref (m 5), .ref (m 6), .ref (m 7), .ref (m 8), .ref (m 9), .ref (m 10), .ref (m 11), .int (nI sp), .int (nI lt), .int (nI wh), .int (nI cs), .long (lN (v 19))], aI Y (m 3) 90 (nF tx)] (QI (S := Nat × Nat × Nat) Y (fun r x => r = p2i (itO (tk tx n) sp = true) ∧ (itO (tk tx n) sp = true → x.1 = tx sp ∧ x.2.1 = (tk tx n (sp + 1) - 48).toNat ∧ (¬ tk tx n sp = 103 → x.2.2 = (itD (tk tx n) sp).2.2))) (fun x => [oB (m 0) 5 [.ref (m 1), .ref (m 2), .int (nI (v 2)), .int (nI (v 3)), .ref (m 3), .int (nI n), .int (nI (v 6)), .ref (m 4), .ref (m 5), .ref (m 6), .ref (m 7), .ref (m 8), .ref (m 9), .ref (m 10), .ref (m 11), .int (nI (itP (tk tx n) sp)), .int (nI x.1), .int (nI x.2.1), .int (nI x.2.2), .long (lN (v 19))], aI Y (m 3) 90 (nF tx)])) 0 0 := by
  refine CT_of (cc := cX5_reads) (maxL := 1) (ret := (some .boolean)) (by decide) rfl (Nat.le_of_ble_eq_true rfl) ?_
  intro pp ee ss mm bl mt cc AA C hr hnm
  have w0 := C.t _ (List.mem_of_getElem? (i := 1) (show wsX5_reads[1]? = some (Cond.fieldLink RX5 16 "SecretDinnerModel" "text" "[I") from rfl))
  have w1 := C.t _ (List.mem_of_getElem? (i := 2) (show wsX5_reads[2]? = some (Cond.fieldLink RX5 145 "SecretDinnerModel" "spot" "I") from rfl))
  have w2 := C.t _ (List.mem_of_getElem? (i := 3) (show wsX5_reads[3]? = some (Cond.fieldLink RX5 151 "SecretDinnerModel" "letter" "I") from rfl))
  have w3 := C.t _ (List.mem_of_getElem? (i := 4) (show wsX5_reads[4]? = some (Cond.fieldLink RX5 157 "SecretDinnerModel" "who" "I") from rfl))
  have w4 := C.t _ (List.mem_of_getElem? (i := 5) (show wsX5_reads[5]? = some (Cond.fieldLink RX5 160 "SecretDinnerModel" "cards" "I") from rfl))
  have i5 : ∀ w ∈ wsX50, w ∈ wsX5_reads := inPlaces [19, 20, 21, 22, 23, 24, 25, 26, 27, 28, 29, 30, 31, 32, 33, 34, 35, 36, 37, 38] (by decide +kernel)
  refine J_eq (lv' := [(0, .ref (m 0))]) (ws' := [oB (m 0) 5 [.ref (m 1), .ref (m 2), .int (nI (v 2)), .int (nI (v 3)), .ref (m 3), .int (nI n), .int (nI (v 6)), .ref (m 4), .ref (m 5), .ref (m 6), .ref (m 7), .ref (m 8), .ref (m 9), .ref (m 10), .ref (m 11), .int (nI sp), .int (nI lt), .int (nI wh), .int (nI cs), .long (lN (v 19))], aI Y (m 3) 90 (nF tx)]) rfl rfl rfl rfl ?_
  refine J_aload_n C dX5_reads_0 rfl 0 rfl ?_
  refine J_bipush C dX5_reads_1 (v := nI 97) (by decide) ?_
  refine J_bipush C dX5_reads_3 (v := nI 97) (by decide) ?_
  refine J_callI (wr := []) C (R_V (st := []) (wc := [oB (m 0) 5 [.ref (m 1), .ref (m 2), .int (nI (v 2)), .int (nI (v 3)), .ref (m 3), .int (nI n), .int (nI (v 6)), .ref (m 4), .ref (m 5), .ref (m 6), .ref (m 7), .ref (m 8), .ref (m 9), .ref (m 10), .ref (m 11), .int (nI sp), .int (nI lt), .int (nI wh), .int (nI cs), .long (lN (v 19))], aI Y (m 3) 90 (nF tx)]) C (kX5_isAt ll Y m v n sp lt wh cs tx 97 97 (by first | assumption | omega) (by first | assumption | omega) (by first | assumption | omega) (by first | assumption | omega)) (cwV 2 C.t gX5_reads_X5_isAt rfl rfl rfl (by decide +kernel) ⟨by decide, by decide⟩) rfl [0, 1] rfl (by decide) ⟨0, 5, _, _, rfl, rfl, rfl⟩ rfl (Nat.le_of_ble_eq_true rfl) dX5_reads_5 ⟨Nat.le_of_ble_eq_true rfl, Nat.le_of_ble_eq_true rfl⟩) [0, 1] [] rfl rfl (by decide) (by decide) (fun r5 u5 hw5 => ?_)
  subst hw5
  refine J_eq (pc' := 8) (lv' := [(0, .ref (m 0))]) (st' := [.int (p2i (((97 : Nat) : Int) ≤ tk tx n sp ∧ tk tx n sp ≤ ((97 : Nat) : Int)))]) (ws' := [oB (m 0) 5 [.ref (m 1), .ref (m 2), .int (nI (v 2)), .int (nI (v 3)), .ref (m 3), .int (nI n), .int (nI (v 6)), .ref (m 4), .ref (m 5), .ref (m 6), .ref (m 7), .ref (m 8), .ref (m 9), .ref (m 10), .ref (m 11), .int (nI sp), .int (nI lt), .int (nI wh), .int (nI cs), .long (lN (v 19))], aI Y (m 3) 90 (nF tx)]) rfl rfl rfl rfl ?_
  refine J_cut (pc' := 46) (lv' := [(0, .ref (m 0))]) (st' := []) (ws' := [oB (m 0) 5 [.ref (m 1), .ref (m 2), .int (nI (v 2)), .int (nI (v 3)), .ref (m 3), .int (nI n), .int (nI (v 6)), .ref (m 4), .ref (m 5), .ref (m 6), .ref (m 7), .ref (m 8), .ref (m 9), .ref (m 10), .ref (m 11), .int (nI sp), .int (nI lt), .int (nI wh), .int (nI cs), .long (lN (v 19))], aI Y (m 3) 90 (nF tx)]) (lett (tk tx n sp)) (fun hl => ?_) (fun jn46 => ?_)
  · have hl2 := hl
    unfold lett at hl2
    have hs1 : sp < n := tk_lt (t := tx) (by omega)
    have e1 : tk tx n sp = (tx sp : Int) := tk_in hs1
    have k1 := ht sp
    refine J_aload_n C dX5_reads_46 rfl 0 rfl ?_
    refine J_aload_n C dX5_reads_47 rfl 0 rfl ?_
    refine J_get (ci := 5) C i5 rfl 4 (by decide) w0 rfl 0 rfl rfl dX5_reads_48 ?_
    refine J_aload_n C dX5_reads_51 rfl 0 rfl ?_
    refine J_get (ci := 5) C i5 rfl 15 (by decide) w1 rfl 0 rfl rfl dX5_reads_52 ?_
    refine J_ialdF C 1 rfl (by omega) (by omega) dX5_reads_55 ?_
    refine J_put (ci := 5) (ty := .int) (ws' := [oB (m 0) 5 [.ref (m 1), .ref (m 2), .int (nI (v 2)), .int (nI (v 3)), .ref (m 3), .int (nI n), .int (nI (v 6)), .ref (m 4), .ref (m 5), .ref (m 6), .ref (m 7), .ref (m 8), .ref (m 9), .ref (m 10), .ref (m 11), .int (nI sp), .int (nI (tx sp)), .int (nI wh), .int (nI cs), .long (lN (v 19))], aI Y (m 3) 90 (nF tx)]) C i5 tyX5 tyX5_ok nmX5 rfl 16 (by decide) w2 rfl rfl (by decide +kernel) (rfl) (rfl) 0 rfl (Nat.le_of_ble_eq_true rfl) dX5_reads_56 rfl ?_
    refine J_aload_n C dX5_reads_59 rfl 0 rfl ?_
    refine J_dup C dX5_reads_60 rfl ?_
    refine J_get (ci := 5) C i5 rfl 15 (by decide) w1 rfl 0 rfl rfl dX5_reads_61 ?_
    refine J_iconst C dX5_reads_64 (v := nI 1) (by decide) ?_
    refine J_iaddN C dX5_reads_65 ?_
    refine J_put (ci := 5) (ty := .int) (ws' := [oB (m 0) 5 [.ref (m 1), .ref (m 2), .int (nI (v 2)), .int (nI (v 3)), .ref (m 3), .int (nI n), .int (nI (v 6)), .ref (m 4), .ref (m 5), .ref (m 6), .ref (m 7), .ref (m 8), .ref (m 9), .ref (m 10), .ref (m 11), .int (nI (sp + 1)), .int (nI (tx sp)), .int (nI wh), .int (nI cs), .long (lN (v 19))], aI Y (m 3) 90 (nF tx)]) C i5 tyX5 tyX5_ok nmX5 rfl 15 (by decide) w1 rfl rfl (by decide +kernel) (rfl) (rfl) 0 rfl (Nat.le_of_ble_eq_true rfl) dX5_reads_66 rfl ?_
    refine J_aload_n C dX5_reads_69 rfl 0 rfl ?_
    refine J_bipush C dX5_reads_70 (v := nI 48) (by decide) ?_
    refine J_bipush C dX5_reads_72 (v := nI 51) (by decide) ?_
    refine J_callI (wr := []) C (R_V (st := []) (wc := [oB (m 0) 5 [.ref (m 1), .ref (m 2), .int (nI (v 2)), .int (nI (v 3)), .ref (m 3), .int (nI n), .int (nI (v 6)), .ref (m 4), .ref (m 5), .ref (m 6), .ref (m 7), .ref (m 8), .ref (m 9), .ref (m 10), .ref (m 11), .int (nI ((sp + 1))), .int (nI ((tx sp))), .int (nI wh), .int (nI cs), .long (lN (v 19))], aI Y (m 3) 90 (nF tx)]) C (kX5_takes ll Y m v n (sp + 1) (tx sp) wh cs tx 48 51 (by first | assumption | omega) (by first | assumption | omega) (by first | assumption | omega) (by first | assumption | omega)) (cwV 2 C.t gX5_reads_X5_takes rfl rfl rfl (by decide +kernel) ⟨by decide, by decide⟩) rfl [0, 1] rfl (by decide) ⟨0, 5, _, _, rfl, rfl, rfl⟩ rfl (Nat.le_of_ble_eq_true rfl) dX5_reads_74 ⟨Nat.le_of_ble_eq_true rfl, Nat.le_of_ble_eq_true rfl⟩) [0, 1] [] rfl rfl (by decide) (by decide) (fun r74 u74 hw74 => ?_)
    subst hw74
    refine J_eq (pc' := 77) (lv' := [(0, .ref (m 0))]) (st' := [.int (p2i (((48 : Nat) : Int) ≤ tk tx n (sp + 1) ∧ tk tx n (sp + 1) ≤ ((51 : Nat) : Int)))]) (ws' := [oB (m 0) 5 [.ref (m 1), .ref (m 2), .int (nI (v 2)), .int (nI (v 3)), .ref (m 3), .int (nI n), .int (nI (v 6)), .ref (m 4), .ref (m 5), .ref (m 6), .ref (m 7), .ref (m 8), .ref (m 9), .ref (m 10), .ref (m 11), .int (nI (if ((48 : Nat) : Int) ≤ tk tx n (sp + 1) ∧ tk tx n (sp + 1) ≤ ((51 : Nat) : Int) then (sp + 1) + 1 else (sp + 1))), .int (nI ((tx sp))), .int (nI wh), .int (nI cs), .long (lN (v 19))], aI Y (m 3) 90 (nF tx)]) rfl rfl rfl rfl ?_
    refine J_if_neP (tgt := 82) C dX5_reads_77 (by decide) (fun cq77 => ?_) (fun cq77 => ?_)
    · have hs2 : sp + 1 < n := tk_lt (t := tx) (by omega)
      have e2 : tk tx n (sp + 1) = (tx (sp + 1) : Int) := tk_in hs2
      have hg : gst (tk tx n (sp + 1)) := by unfold gst; omega
      have k2 := ht (sp + 1)
      refine J_eq (ws' := [oB (m 0) 5 [.ref (m 1), .ref (m 2), .int (nI (v 2)), .int (nI (v 3)), .ref (m 3), .int (nI n), .int (nI (v 6)), .ref (m 4), .ref (m 5), .ref (m 6), .ref (m 7), .ref (m 8), .ref (m 9), .ref (m 10), .ref (m 11), .int (nI (sp + 2)), .int (nI ((tx sp))), .int (nI wh), .int (nI cs), .long (lN (v 19))], aI Y (m 3) 90 (nF tx)]) rfl rfl rfl (by rw [if_pos cq77]) ?_
      refine J_aload_n C dX5_reads_82 rfl 0 rfl ?_
      refine J_aload_n C dX5_reads_83 rfl 0 rfl ?_
      refine J_get (ci := 5) C i5 rfl 4 (by decide) w0 rfl 0 rfl rfl dX5_reads_84 ?_
      refine J_aload_n C dX5_reads_87 rfl 0 rfl ?_
      refine J_get (ci := 5) C i5 rfl 15 (by decide) w1 rfl 0 rfl rfl dX5_reads_88 ?_
      refine J_iconst C dX5_reads_91 (v := nI 1) (by decide) ?_
      refine J_isubN C dX5_reads_92 (by omega) ?_
      refine J_ialdF C 1 rfl (by omega) (by omega) dX5_reads_93 ?_
      refine J_top (y := .int (nI (tx (sp + 1)))) (rfl) ?_
      refine J_bipush C dX5_reads_94 (v := nI 48) (by decide) ?_
      refine J_isubN C dX5_reads_96 (by omega) ?_
      refine J_put (ci := 5) (ty := .int) (ws' := [oB (m 0) 5 [.ref (m 1), .ref (m 2), .int (nI (v 2)), .int (nI (v 3)), .ref (m 3), .int (nI n), .int (nI (v 6)), .ref (m 4), .ref (m 5), .ref (m 6), .ref (m 7), .ref (m 8), .ref (m 9), .ref (m 10), .ref (m 11), .int (nI (sp + 2)), .int (nI ((tx sp))), .int (nI ((tx (sp + 1)) - 48)), .int (nI cs), .long (lN (v 19))], aI Y (m 3) 90 (nF tx)]) C i5 tyX5 tyX5_ok nmX5 rfl 17 (by decide) w3 rfl rfl (by decide +kernel) (rfl) (rfl) 0 rfl (Nat.le_of_ble_eq_true rfl) dX5_reads_97 rfl ?_
      refine J_aload_n C dX5_reads_100 rfl 0 rfl ?_
      refine J_iconst C dX5_reads_101 (v := nI 0) (by decide) ?_
      refine J_put (ci := 5) (ty := .int) (ws' := [oB (m 0) 5 [.ref (m 1), .ref (m 2), .int (nI (v 2)), .int (nI (v 3)), .ref (m 3), .int (nI n), .int (nI (v 6)), .ref (m 4), .ref (m 5), .ref (m 6), .ref (m 7), .ref (m 8), .ref (m 9), .ref (m 10), .ref (m 11), .int (nI (sp + 2)), .int (nI ((tx sp))), .int (nI ((tx (sp + 1)) - 48)), .int (nI 0), .long (lN (v 19))], aI Y (m 3) 90 (nF tx)]) C i5 tyX5 tyX5_ok nmX5 rfl 18 (by decide) w4 rfl rfl (by decide +kernel) (rfl) (rfl) 0 rfl (Nat.le_of_ble_eq_true rfl) dX5_reads_102 rfl ?_
      refine J_aload_n C dX5_reads_105 rfl 0 rfl ?_
      refine J_get (ci := 5) C i5 rfl 16 (by decide) w2 rfl 0 rfl rfl dX5_reads_106 ?_
      refine J_bipush C dX5_reads_109 (v := nI 103) (by decide) ?_
      refine J_icmp_neN (tgt := 123) C dX5_reads_111 (by decide) (by omega) (by omega) (fun cq111 => ?_) (fun cq111 => ?_)
      · refine J_aload_n C dX5_reads_123 rfl 0 rfl ?_
        refine J_bipush C dX5_reads_124 (v := nI 58) (by decide) ?_
        refine J_bipush C dX5_reads_126 (v := nI 58) (by decide) ?_
        refine J_callI (wr := []) C (R_V (st := []) (wc := [oB (m 0) 5 [.ref (m 1), .ref (m 2), .int (nI (v 2)), .int (nI (v 3)), .ref (m 3), .int (nI n), .int (nI (v 6)), .ref (m 4), .ref (m 5), .ref (m 6), .ref (m 7), .ref (m 8), .ref (m 9), .ref (m 10), .ref (m 11), .int (nI ((sp + 2))), .int (nI (((tx sp)))), .int (nI (((tx (sp + 1)) - 48))), .int (nI 0), .long (lN (v 19))], aI Y (m 3) 90 (nF tx)]) C (kX5_takes ll Y m v n (sp + 2) ((tx sp)) ((tx (sp + 1)) - 48) 0 tx 58 58 (by first | assumption | omega) (by first | assumption | omega) (by first | assumption | omega) (by first | assumption | omega)) (cwV 2 C.t gX5_reads_X5_takes rfl rfl rfl (by decide +kernel) ⟨by decide, by decide⟩) rfl [0, 1] rfl (by decide) ⟨0, 5, _, _, rfl, rfl, rfl⟩ rfl (Nat.le_of_ble_eq_true rfl) dX5_reads_128 ⟨Nat.le_of_ble_eq_true rfl, Nat.le_of_ble_eq_true rfl⟩) [0, 1] [] rfl rfl (by decide) (by decide) (fun r128 u128 hw128 => ?_)
        subst hw128
        refine J_eq (pc' := 131) (lv' := [(0, .ref (m 0))]) (st' := [.int (p2i (((58 : Nat) : Int) ≤ tk tx n (sp + 2) ∧ tk tx n (sp + 2) ≤ ((58 : Nat) : Int)))]) (ws' := [oB (m 0) 5 [.ref (m 1), .ref (m 2), .int (nI (v 2)), .int (nI (v 3)), .ref (m 3), .int (nI n), .int (nI (v 6)), .ref (m 4), .ref (m 5), .ref (m 6), .ref (m 7), .ref (m 8), .ref (m 9), .ref (m 10), .ref (m 11), .int (nI (if ((58 : Nat) : Int) ≤ tk tx n (sp + 2) ∧ tk tx n (sp + 2) ≤ ((58 : Nat) : Int) then (sp + 2) + 1 else (sp + 2))), .int (nI (((tx sp)))), .int (nI (((tx (sp + 1)) - 48))), .int (nI 0), .long (lN (v 19))], aI Y (m 3) 90 (nF tx)]) rfl rfl rfl rfl ?_
        refine J_if_eqP (tgt := 145) C dX5_reads_131 (by decide) (fun cq131 => ?_) (fun cq131 => ?_)
        · refine J_eq (ws' := [oB (m 0) 5 [.ref (m 1), .ref (m 2), .int (nI (v 2)), .int (nI (v 3)), .ref (m 3), .int (nI n), .int (nI (v 6)), .ref (m 4), .ref (m 5), .ref (m 6), .ref (m 7), .ref (m 8), .ref (m 9), .ref (m 10), .ref (m 11), .int (nI (sp + 2)), .int (nI (((tx sp)))), .int (nI (((tx (sp + 1)) - 48))), .int (nI 0), .long (lN (v 19))], aI Y (m 3) 90 (nF tx)]) rfl rfl rfl (by rw [if_neg cq131]) ?_
          refine J_iconst C dX5_reads_145 (v := nI 0) (by decide) ?_
          exact J_zret C hr (by decide) dX5_reads_146 ((((tx sp)), ((tx (sp + 1)) - 48), 0)) (⟨by rw [p2i_f (itO_58 (by omega) (by omega))], fun h => absurd h (itO_58 (by omega) (by omega))⟩) (by rw [itP_58 hl hg (by omega) (by omega)])
        · refine J_eq (ws' := [oB (m 0) 5 [.ref (m 1), .ref (m 2), .int (nI (v 2)), .int (nI (v 3)), .ref (m 3), .int (nI n), .int (nI (v 6)), .ref (m 4), .ref (m 5), .ref (m 6), .ref (m 7), .ref (m 8), .ref (m 9), .ref (m 10), .ref (m 11), .int (nI (sp + 3)), .int (nI (((tx sp)))), .int (nI (((tx (sp + 1)) - 48))), .int (nI 0), .long (lN (v 19))], aI Y (m 3) 90 (nF tx)]) rfl rfl rfl (by rw [if_pos cq131]) ?_
          refine J_aload_n C dX5_reads_134 rfl 0 rfl ?_
          refine J_bipush C dX5_reads_135 (v := nI 48) (by decide) ?_
          refine J_bipush C dX5_reads_137 (v := nI 55) (by decide) ?_
          refine J_callI (wr := []) C (R_V (st := []) (wc := [oB (m 0) 5 [.ref (m 1), .ref (m 2), .int (nI (v 2)), .int (nI (v 3)), .ref (m 3), .int (nI n), .int (nI (v 6)), .ref (m 4), .ref (m 5), .ref (m 6), .ref (m 7), .ref (m 8), .ref (m 9), .ref (m 10), .ref (m 11), .int (nI ((sp + 3))), .int (nI ((((tx sp))))), .int (nI ((((tx (sp + 1)) - 48)))), .int (nI 0), .long (lN (v 19))], aI Y (m 3) 90 (nF tx)]) C (kX5_takes ll Y m v n (sp + 3) (((tx sp))) (((tx (sp + 1)) - 48)) 0 tx 48 55 (by first | assumption | omega) (by first | assumption | omega) (by first | assumption | omega) (by first | assumption | omega)) (cwV 2 C.t gX5_reads_X5_takes rfl rfl rfl (by decide +kernel) ⟨by decide, by decide⟩) rfl [0, 1] rfl (by decide) ⟨0, 5, _, _, rfl, rfl, rfl⟩ rfl (Nat.le_of_ble_eq_true rfl) dX5_reads_139 ⟨Nat.le_of_ble_eq_true rfl, Nat.le_of_ble_eq_true rfl⟩) [0, 1] [] rfl rfl (by decide) (by decide) (fun r139 u139 hw139 => ?_)
          subst hw139
          refine J_eq (pc' := 142) (lv' := [(0, .ref (m 0))]) (st' := [.int (p2i (((48 : Nat) : Int) ≤ tk tx n (sp + 3) ∧ tk tx n (sp + 3) ≤ ((55 : Nat) : Int)))]) (ws' := [oB (m 0) 5 [.ref (m 1), .ref (m 2), .int (nI (v 2)), .int (nI (v 3)), .ref (m 3), .int (nI n), .int (nI (v 6)), .ref (m 4), .ref (m 5), .ref (m 6), .ref (m 7), .ref (m 8), .ref (m 9), .ref (m 10), .ref (m 11), .int (nI (if ((48 : Nat) : Int) ≤ tk tx n (sp + 3) ∧ tk tx n (sp + 3) ≤ ((55 : Nat) : Int) then (sp + 3) + 1 else (sp + 3))), .int (nI ((((tx sp))))), .int (nI ((((tx (sp + 1)) - 48)))), .int (nI 0), .long (lN (v 19))], aI Y (m 3) 90 (nF tx)]) rfl rfl rfl rfl ?_
          refine J_if_neP (tgt := 147) C dX5_reads_142 (by decide) (fun cq142 => ?_) (fun cq142 => ?_)
          · have hs3 : sp + 3 < n := tk_lt (t := tx) (by omega)
            have e3 : tk tx n (sp + 3) = (tx (sp + 3) : Int) := tk_in hs3
            have k3 := ht (sp + 3)
            have hM : 1 ≤ (if tk tx n sp = 112 then 1 else 8) := by split <;> omega
            have hD1 := dgs_st1 (t := tx) (m := if tk tx n sp = 112 then 1 else 8) hs3 (by omega) (by omega) hM
            refine J_eq (ws' := [oB (m 0) 5 [.ref (m 1), .ref (m 2), .int (nI (v 2)), .int (nI (v 3)), .ref (m 3), .int (nI n), .int (nI (v 6)), .ref (m 4), .ref (m 5), .ref (m 6), .ref (m 7), .ref (m 8), .ref (m 9), .ref (m 10), .ref (m 11), .int (nI (sp + 4)), .int (nI ((((tx sp))))), .int (nI ((((tx (sp + 1)) - 48)))), .int (nI 0), .long (lN (v 19))], aI Y (m 3) 90 (nF tx)]) rfl rfl rfl (by rw [if_pos cq142]) ?_
            refine J_aload_n C dX5_reads_147 rfl 0 rfl ?_
            refine J_iconst C dX5_reads_148 (v := nI 1) (by decide) ?_
            refine J_aload_n C dX5_reads_149 rfl 0 rfl ?_
            refine J_get (ci := 5) C i5 rfl 4 (by decide) w0 rfl 0 rfl rfl dX5_reads_150 ?_
            refine J_aload_n C dX5_reads_153 rfl 0 rfl ?_
            refine J_get (ci := 5) C i5 rfl 15 (by decide) w1 rfl 0 rfl rfl dX5_reads_154 ?_
            refine J_iconst C dX5_reads_157 (v := nI 1) (by decide) ?_
            refine J_isubN C dX5_reads_158 (by omega) ?_
            refine J_ialdF C 1 rfl (by omega) (by omega) dX5_reads_159 ?_
            refine J_top (y := .int (nI (tx (sp + 3)))) (rfl) ?_
            refine J_bipush C dX5_reads_160 (v := nI 48) (by decide) ?_
            refine J_isubN C dX5_reads_162 (by omega) ?_
            refine J_ishlN C dX5_reads_163 (by omega) (one_shl (by omega)) ?_
            refine J_put (ci := 5) (ty := .int) (ws' := [oB (m 0) 5 [.ref (m 1), .ref (m 2), .int (nI (v 2)), .int (nI (v 3)), .ref (m 3), .int (nI n), .int (nI (v 6)), .ref (m 4), .ref (m 5), .ref (m 6), .ref (m 7), .ref (m 8), .ref (m 9), .ref (m 10), .ref (m 11), .int (nI (sp + 4)), .int (nI ((((tx sp))))), .int (nI ((((tx (sp + 1)) - 48)))), .int (nI (1 * 2 ^ ((tx (sp + 3)) - 48))), .long (lN (v 19))], aI Y (m 3) 90 (nF tx)]) C i5 tyX5 tyX5_ok nmX5 rfl 18 (by decide) w4 rfl rfl (by decide +kernel) (rfl) (rfl) 0 rfl (Nat.le_of_ble_eq_true rfl) dX5_reads_164 rfl ?_
            refine J_lv (lv' := [(0, .ref (m 0))]) [0] rfl ?_
            refine J_loop (σ := Nat × Nat × Nat) (I := fun (j, la, cj) => (1 ≤ j ∧ j ≤ 8) ∧ (la ≤ 7 ∧ j ≤ la + 1) ∧ (itD (tk tx n) sp = dgs (tk tx n) ((if tk tx n sp = 112 then 1 else 8) - j) (sp + 3 + j) (la : Int) cj) ∧ (tx (sp + 3 + j - 1) = la + 48) ∧ (sp + 3 + j ≤ n)) (μ := fun (j, la, cj) => 8 - j) (lvf := fun (j, la, cj) => [(0, .ref (m 0))]) (stf := fun (j, la, cj) => []) (wsf := fun (j, la, cj) => [oB (m 0) 5 [.ref (m 1), .ref (m 2), .int (nI (v 2)), .int (nI (v 3)), .ref (m 3), .int (nI n), .int (nI (v 6)), .ref (m 4), .ref (m 5), .ref (m 6), .ref (m 7), .ref (m 8), .ref (m 9), .ref (m 10), .ref (m 11), .int (nI (sp + 3 + j)), .int (nI (tx sp)), .int (nI (tx (sp + 1) - 48)), .int (nI cj), .long (lN (v 19))], aI Y (m 3) 90 (nF tx)]) ?_ (1, tx (sp + 3) - 48, 1 * 2 ^ (tx (sp + 3) - 48)) ⟨(by omega), (by omega), (hD1), (by show tx (sp + 3) = _; omega), (by omega)⟩ (rfl) rfl (rfl)
            rintro ⟨j, la, cj⟩ ⟨hj, hla, hd, htx, hb⟩ ih167
            refine J_eq (lv' := [(0, .ref (m 0))]) (st' := []) (ws' := [oB (m 0) 5 [.ref (m 1), .ref (m 2), .int (nI (v 2)), .int (nI (v 3)), .ref (m 3), .int (nI n), .int (nI (v 6)), .ref (m 4), .ref (m 5), .ref (m 6), .ref (m 7), .ref (m 8), .ref (m 9), .ref (m 10), .ref (m 11), .int (nI (sp + 3 + j)), .int (nI (tx sp)), .int (nI (tx (sp + 1) - 48)), .int (nI cj), .long (lN (v 19))], aI Y (m 3) 90 (nF tx)]) rfl rfl rfl rfl ?_
            refine J_aload_n C dX5_reads_167 rfl 0 rfl ?_
            refine J_get (ci := 5) C i5 rfl 16 (by decide) w2 rfl 0 rfl rfl dX5_reads_168 ?_
            refine J_bipush C dX5_reads_171 (v := nI 112) (by decide) ?_
            refine J_icmp_eqN (tgt := 234) C dX5_reads_173 (by decide) (by omega) (by omega) (fun cq173 => ?_) (fun cq173 => ?_)
            · have hE : itD (tk tx n) sp = (sp + 3 + j, (la : Int), cj) := hd.trans (dgs_end (Or.inr (Or.inr (by rw [if_pos (by omega)]; omega))))
              refine J_aload_n C dX5_reads_234 rfl 0 rfl ?_
              refine J_bipush C dX5_reads_235 (v := nI 59) (by decide) ?_
              refine J_bipush C dX5_reads_237 (v := nI 59) (by decide) ?_
              refine J_callI (wr := []) C (R_V (st := []) (wc := [oB (m 0) 5 [.ref (m 1), .ref (m 2), .int (nI (v 2)), .int (nI (v 3)), .ref (m 3), .int (nI n), .int (nI (v 6)), .ref (m 4), .ref (m 5), .ref (m 6), .ref (m 7), .ref (m 8), .ref (m 9), .ref (m 10), .ref (m 11), .int (nI ((sp + 3 + j))), .int (nI ((tx sp))), .int (nI ((tx (sp + 1) - 48))), .int (nI cj), .long (lN (v 19))], aI Y (m 3) 90 (nF tx)]) C (kX5_takes ll Y m v n (sp + 3 + j) (tx sp) (tx (sp + 1) - 48) cj tx 59 59 (by first | assumption | omega) (by first | assumption | omega) (by first | assumption | omega) (by first | assumption | omega)) (cwV 2 C.t gX5_reads_X5_takes rfl rfl rfl (by decide +kernel) ⟨by decide, by decide⟩) rfl [0, 1] rfl (by decide) ⟨0, 5, _, _, rfl, rfl, rfl⟩ rfl (Nat.le_of_ble_eq_true rfl) dX5_reads_239 ⟨Nat.le_of_ble_eq_true rfl, Nat.le_of_ble_eq_true rfl⟩) [0, 1] [] rfl rfl (by decide) (by decide) (fun r239 u239 hw239 => ?_)
              subst hw239
              refine J_eq (pc' := 242) (lv' := [(0, .ref (m 0))]) (st' := [.int (p2i (((59 : Nat) : Int) ≤ tk tx n (sp + 3 + j) ∧ tk tx n (sp + 3 + j) ≤ ((59 : Nat) : Int)))]) (ws' := [oB (m 0) 5 [.ref (m 1), .ref (m 2), .int (nI (v 2)), .int (nI (v 3)), .ref (m 3), .int (nI n), .int (nI (v 6)), .ref (m 4), .ref (m 5), .ref (m 6), .ref (m 7), .ref (m 8), .ref (m 9), .ref (m 10), .ref (m 11), .int (nI (if ((59 : Nat) : Int) ≤ tk tx n (sp + 3 + j) ∧ tk tx n (sp + 3 + j) ≤ ((59 : Nat) : Int) then (sp + 3 + j) + 1 else (sp + 3 + j))), .int (nI ((tx sp))), .int (nI ((tx (sp + 1) - 48))), .int (nI cj), .long (lN (v 19))], aI Y (m 3) 90 (nF tx)]) rfl rfl rfl rfl ?_
              refine J_eq (ws' := [oB (m 0) 5 [.ref (m 1), .ref (m 2), .int (nI (v 2)), .int (nI (v 3)), .ref (m 3), .int (nI n), .int (nI (v 6)), .ref (m 4), .ref (m 5), .ref (m 6), .ref (m 7), .ref (m 8), .ref (m 9), .ref (m 10), .ref (m 11), .int (nI (if tk tx n (sp + 3 + j) = 59 then sp + 3 + j + 1 else sp + 3 + j)), .int (nI ((tx sp))), .int (nI ((tx (sp + 1) - 48))), .int (nI cj), .long (lN (v 19))], aI Y (m 3) 90 (nF tx)]) rfl rfl rfl (by rw [if59]) ?_
              exact J_zret C hr p2i_nar dX5_reads_242 (((tx sp), (tx (sp + 1) - 48), cj)) (⟨p2i_if (by rw [itO_d hl hg (by omega) (by omega) (by rw [hE]; show sp + 3 < sp + 3 + j; omega), hE]; exact ⟨fun z => decide_eq_true (by show tk tx n (sp + 3 + j) = 59; omega), fun z => by have z2 : tk tx n (sp + 3 + j) = 59 := of_decide_eq_true z; omega⟩), fun _ => ⟨rfl, by show tx (sp + 1) - 48 = _; omega, fun _ => by rw [hE]⟩⟩) (by rw [itP_d hl hg (by omega) (by omega) (by rw [hE]; show sp + 3 < sp + 3 + j; omega), hE])
            · refine J_aload_n C dX5_reads_176 rfl 0 rfl ?_
              refine J_aload_n C dX5_reads_177 rfl 0 rfl ?_
              refine J_get (ci := 5) C i5 rfl 4 (by decide) w0 rfl 0 rfl rfl dX5_reads_178 ?_
              refine J_aload_n C dX5_reads_181 rfl 0 rfl ?_
              refine J_get (ci := 5) C i5 rfl 15 (by decide) w1 rfl 0 rfl rfl dX5_reads_182 ?_
              refine J_iconst C dX5_reads_185 (v := nI 1) (by decide) ?_
              refine J_isubN C dX5_reads_186 (by omega) ?_
              refine J_ialdF C 1 rfl (by omega) (by omega) dX5_reads_187 ?_
              refine J_iconst C dX5_reads_188 (v := nI 1) (by decide) ?_
              refine J_iaddN C dX5_reads_189 ?_
              refine J_top (y := .int (nI (la + 49))) (by rw [htx]) ?_
              refine J_bipush C dX5_reads_190 (v := nI 55) (by decide) ?_
              refine J_callI (wr := []) C (R_V (st := []) (wc := [oB (m 0) 5 [.ref (m 1), .ref (m 2), .int (nI (v 2)), .int (nI (v 3)), .ref (m 3), .int (nI n), .int (nI (v 6)), .ref (m 4), .ref (m 5), .ref (m 6), .ref (m 7), .ref (m 8), .ref (m 9), .ref (m 10), .ref (m 11), .int (nI ((sp + 3 + j))), .int (nI ((tx sp))), .int (nI ((tx (sp + 1) - 48))), .int (nI cj), .long (lN (v 19))], aI Y (m 3) 90 (nF tx)]) C (kX5_isAt ll Y m v n (sp + 3 + j) (tx sp) (tx (sp + 1) - 48) cj tx (la + 49) 55 (by first | assumption | omega) (by first | assumption | omega) (by first | assumption | omega) (by first | assumption | omega)) (cwV 2 C.t gX5_reads_X5_isAt rfl rfl rfl (by decide +kernel) ⟨by decide, by decide⟩) rfl [0, 1] rfl (by decide) ⟨0, 5, _, _, rfl, rfl, rfl⟩ rfl (Nat.le_of_ble_eq_true rfl) dX5_reads_192 ⟨Nat.le_of_ble_eq_true rfl, Nat.le_of_ble_eq_true rfl⟩) [0, 1] [] rfl rfl (by decide) (by decide) (fun r192 u192 hw192 => ?_)
              subst hw192
              refine J_eq (pc' := 195) (lv' := [(0, .ref (m 0))]) (st' := [.int (p2i ((((la + 49) : Nat) : Int) ≤ tk tx n (sp + 3 + j) ∧ tk tx n (sp + 3 + j) ≤ ((55 : Nat) : Int)))]) (ws' := [oB (m 0) 5 [.ref (m 1), .ref (m 2), .int (nI (v 2)), .int (nI (v 3)), .ref (m 3), .int (nI n), .int (nI (v 6)), .ref (m 4), .ref (m 5), .ref (m 6), .ref (m 7), .ref (m 8), .ref (m 9), .ref (m 10), .ref (m 11), .int (nI ((sp + 3 + j))), .int (nI ((tx sp))), .int (nI ((tx (sp + 1) - 48))), .int (nI cj), .long (lN (v 19))], aI Y (m 3) 90 (nF tx)]) rfl rfl rfl rfl ?_
              refine J_if_eqP (tgt := 234) C dX5_reads_195 (by decide) (fun cq195 => ?_) (fun cq195 => ?_)
              · have hE : itD (tk tx n) sp = (sp + 3 + j, (la : Int), cj) := hd.trans (dgs_end (by omega))
                refine J_aload_n C dX5_reads_234 rfl 0 rfl ?_
                refine J_bipush C dX5_reads_235 (v := nI 59) (by decide) ?_
                refine J_bipush C dX5_reads_237 (v := nI 59) (by decide) ?_
                refine J_callI (wr := []) C (R_V (st := []) (wc := [oB (m 0) 5 [.ref (m 1), .ref (m 2), .int (nI (v 2)), .int (nI (v 3)), .ref (m 3), .int (nI n), .int (nI (v 6)), .ref (m 4), .ref (m 5), .ref (m 6), .ref (m 7), .ref (m 8), .ref (m 9), .ref (m 10), .ref (m 11), .int (nI (((sp + 3 + j)))), .int (nI (((tx sp)))), .int (nI (((tx (sp + 1) - 48)))), .int (nI cj), .long (lN (v 19))], aI Y (m 3) 90 (nF tx)]) C (kX5_takes ll Y m v n ((sp + 3 + j)) ((tx sp)) ((tx (sp + 1) - 48)) cj tx 59 59 (by first | assumption | omega) (by first | assumption | omega) (by first | assumption | omega) (by first | assumption | omega)) (cwV 2 C.t gX5_reads_X5_takes rfl rfl rfl (by decide +kernel) ⟨by decide, by decide⟩) rfl [0, 1] rfl (by decide) ⟨0, 5, _, _, rfl, rfl, rfl⟩ rfl (Nat.le_of_ble_eq_true rfl) dX5_reads_239 ⟨Nat.le_of_ble_eq_true rfl, Nat.le_of_ble_eq_true rfl⟩) [0, 1] [] rfl rfl (by decide) (by decide) (fun r239 u239 hw239 => ?_)
                subst hw239
                refine J_eq (pc' := 242) (lv' := [(0, .ref (m 0))]) (st' := [.int (p2i (((59 : Nat) : Int) ≤ tk tx n ((sp + 3 + j)) ∧ tk tx n ((sp + 3 + j)) ≤ ((59 : Nat) : Int)))]) (ws' := [oB (m 0) 5 [.ref (m 1), .ref (m 2), .int (nI (v 2)), .int (nI (v 3)), .ref (m 3), .int (nI n), .int (nI (v 6)), .ref (m 4), .ref (m 5), .ref (m 6), .ref (m 7), .ref (m 8), .ref (m 9), .ref (m 10), .ref (m 11), .int (nI (if ((59 : Nat) : Int) ≤ tk tx n ((sp + 3 + j)) ∧ tk tx n ((sp + 3 + j)) ≤ ((59 : Nat) : Int) then ((sp + 3 + j)) + 1 else ((sp + 3 + j)))), .int (nI (((tx sp)))), .int (nI (((tx (sp + 1) - 48)))), .int (nI cj), .long (lN (v 19))], aI Y (m 3) 90 (nF tx)]) rfl rfl rfl rfl ?_
                refine J_eq (ws' := [oB (m 0) 5 [.ref (m 1), .ref (m 2), .int (nI (v 2)), .int (nI (v 3)), .ref (m 3), .int (nI n), .int (nI (v 6)), .ref (m 4), .ref (m 5), .ref (m 6), .ref (m 7), .ref (m 8), .ref (m 9), .ref (m 10), .ref (m 11), .int (nI (if tk tx n (sp + 3 + j) = 59 then sp + 3 + j + 1 else sp + 3 + j)), .int (nI (((tx sp)))), .int (nI (((tx (sp + 1) - 48)))), .int (nI cj), .long (lN (v 19))], aI Y (m 3) 90 (nF tx)]) rfl rfl rfl (by rw [if59]) ?_
                exact J_zret C hr p2i_nar dX5_reads_242 ((((tx sp)), ((tx (sp + 1) - 48)), cj)) (⟨p2i_if (by rw [itO_d hl hg (by omega) (by omega) (by rw [hE]; show sp + 3 < sp + 3 + j; omega), hE]; exact ⟨fun z => decide_eq_true (by show tk tx n (sp + 3 + j) = 59; omega), fun z => by have z2 : tk tx n (sp + 3 + j) = 59 := of_decide_eq_true z; omega⟩), fun _ => ⟨rfl, by show tx (sp + 1) - 48 = _; omega, fun _ => by rw [hE]⟩⟩) (by rw [itP_d hl hg (by omega) (by omega) (by rw [hE]; show sp + 3 < sp + 3 + j; omega), hE])
              · have hs4 : sp + 3 + j < n := tk_lt (t := tx) (by omega)
                have e4 : tk tx n (sp + 3 + j) = (tx (sp + 3 + j) : Int) := tk_in hs4
                have k4 := ht (sp + 3 + j)
                refine J_aload_n C dX5_reads_198 rfl 0 rfl ?_
                refine J_dup C dX5_reads_199 rfl ?_
                refine J_get (ci := 5) C i5 rfl 18 (by decide) w4 rfl 0 rfl rfl dX5_reads_200 ?_
                refine J_iconst C dX5_reads_203 (v := nI 1) (by decide) ?_
                refine J_aload_n C dX5_reads_204 rfl 0 rfl ?_
                refine J_get (ci := 5) C i5 rfl 4 (by decide) w0 rfl 0 rfl rfl dX5_reads_205 ?_
                refine J_aload_n C dX5_reads_208 rfl 0 rfl ?_
                refine J_get (ci := 5) C i5 rfl 15 (by decide) w1 rfl 0 rfl rfl dX5_reads_209 ?_
                refine J_ialdF C 1 rfl (by omega) (by omega) dX5_reads_212 ?_
                refine J_bipush C dX5_reads_213 (v := nI 48) (by decide) ?_
                refine J_isubN C dX5_reads_215 (by omega) ?_
                refine J_ishlN C dX5_reads_216 (by omega) (one_shl (by omega)) ?_
                refine J_iorN C dX5_reads_217 ?_
                refine J_put (ci := 5) (ty := .int) (ws' := [oB (m 0) 5 [.ref (m 1), .ref (m 2), .int (nI (v 2)), .int (nI (v 3)), .ref (m 3), .int (nI n), .int (nI (v 6)), .ref (m 4), .ref (m 5), .ref (m 6), .ref (m 7), .ref (m 8), .ref (m 9), .ref (m 10), .ref (m 11), .int (nI ((sp + 3 + j))), .int (nI ((tx sp))), .int (nI ((tx (sp + 1) - 48))), .int (nI (cj ||| (1 * 2 ^ ((tx ((sp + 3 + j))) - 48)))), .long (lN (v 19))], aI Y (m 3) 90 (nF tx)]) C i5 tyX5 tyX5_ok nmX5 rfl 18 (by decide) w4 rfl rfl (by decide +kernel) (rfl) (rfl) 0 rfl (Nat.le_of_ble_eq_true rfl) dX5_reads_218 rfl ?_
                refine J_aload_n C dX5_reads_221 rfl 0 rfl ?_
                refine J_dup C dX5_reads_222 rfl ?_
                refine J_get (ci := 5) C i5 rfl 15 (by decide) w1 rfl 0 rfl rfl dX5_reads_223 ?_
                refine J_iconst C dX5_reads_226 (v := nI 1) (by decide) ?_
                refine J_iaddN C dX5_reads_227 ?_
                refine J_put (ci := 5) (ty := .int) (ws' := [oB (m 0) 5 [.ref (m 1), .ref (m 2), .int (nI (v 2)), .int (nI (v 3)), .ref (m 3), .int (nI n), .int (nI (v 6)), .ref (m 4), .ref (m 5), .ref (m 6), .ref (m 7), .ref (m 8), .ref (m 9), .ref (m 10), .ref (m 11), .int (nI (((sp + 3 + j)) + 1)), .int (nI ((tx sp))), .int (nI ((tx (sp + 1) - 48))), .int (nI (cj ||| (1 * 2 ^ ((tx ((sp + 3 + j))) - 48)))), .long (lN (v 19))], aI Y (m 3) 90 (nF tx)]) C i5 tyX5 tyX5_ok nmX5 rfl 15 (by decide) w1 rfl rfl (by decide +kernel) (rfl) (rfl) 0 rfl (Nat.le_of_ble_eq_true rfl) dX5_reads_228 rfl ?_
                refine J_goto (tgt := 167) C dX5_reads_231 (by decide) ?_
                refine J_lv (lv' := [(0, .ref (m 0))]) [0] rfl ?_
                have hm : 0 < (if tk tx n sp = 112 then 1 else 8) - j := by rw [if_neg (by omega)]; omega
                exact ih167 (j + 1, tx (sp + 3 + j) - 48, cj ||| (1 * 2 ^ ((tx ((sp + 3 + j))) - 48))) ⟨(by omega), (by omega), (by rw [hd, dgs_st hs4 (by omega) (by omega) hm, Nat.sub_sub]; rfl), (by show tx (sp + 3 + j) = _; omega), (by omega)⟩ (show 8 - (j + 1) < 8 - j from by omega)
          · have hE0 : itD (tk tx n) sp = (sp + 3, -1, 0) := dgs_end (by omega)
            refine J_eq (ws' := [oB (m 0) 5 [.ref (m 1), .ref (m 2), .int (nI (v 2)), .int (nI (v 3)), .ref (m 3), .int (nI n), .int (nI (v 6)), .ref (m 4), .ref (m 5), .ref (m 6), .ref (m 7), .ref (m 8), .ref (m 9), .ref (m 10), .ref (m 11), .int (nI (sp + 3)), .int (nI ((((tx sp))))), .int (nI ((((tx (sp + 1)) - 48)))), .int (nI 0), .long (lN (v 19))], aI Y (m 3) 90 (nF tx)]) rfl rfl rfl (by rw [if_neg cq142]) ?_
            refine J_iconst C dX5_reads_145 (v := nI 0) (by decide) ?_
            exact J_zret C hr (by decide) dX5_reads_146 (((((tx sp))), (((tx (sp + 1)) - 48)), 0)) (⟨by rw [p2i_f (itO_nd (by omega) (by rw [hE0]; exact Nat.lt_irrefl _))], fun h => absurd h (itO_nd (by omega) (by rw [hE0]; exact Nat.lt_irrefl _))⟩) (by rw [itP_nd hl hg (by omega) (by omega) (by rw [hE0]; exact Nat.lt_irrefl _), hE0])
      · refine J_aload_n C dX5_reads_114 rfl 0 rfl ?_
        refine J_bipush C dX5_reads_115 (v := nI 59) (by decide) ?_
        refine J_bipush C dX5_reads_117 (v := nI 59) (by decide) ?_
        refine J_callI (wr := []) C (R_V (st := []) (wc := [oB (m 0) 5 [.ref (m 1), .ref (m 2), .int (nI (v 2)), .int (nI (v 3)), .ref (m 3), .int (nI n), .int (nI (v 6)), .ref (m 4), .ref (m 5), .ref (m 6), .ref (m 7), .ref (m 8), .ref (m 9), .ref (m 10), .ref (m 11), .int (nI ((sp + 2))), .int (nI (((tx sp)))), .int (nI (((tx (sp + 1)) - 48))), .int (nI 0), .long (lN (v 19))], aI Y (m 3) 90 (nF tx)]) C (kX5_takes ll Y m v n (sp + 2) ((tx sp)) ((tx (sp + 1)) - 48) 0 tx 59 59 (by first | assumption | omega) (by first | assumption | omega) (by first | assumption | omega) (by first | assumption | omega)) (cwV 2 C.t gX5_reads_X5_takes rfl rfl rfl (by decide +kernel) ⟨by decide, by decide⟩) rfl [0, 1] rfl (by decide) ⟨0, 5, _, _, rfl, rfl, rfl⟩ rfl (Nat.le_of_ble_eq_true rfl) dX5_reads_119 ⟨Nat.le_of_ble_eq_true rfl, Nat.le_of_ble_eq_true rfl⟩) [0, 1] [] rfl rfl (by decide) (by decide) (fun r119 u119 hw119 => ?_)
        subst hw119
        refine J_eq (pc' := 122) (lv' := [(0, .ref (m 0))]) (st' := [.int (p2i (((59 : Nat) : Int) ≤ tk tx n (sp + 2) ∧ tk tx n (sp + 2) ≤ ((59 : Nat) : Int)))]) (ws' := [oB (m 0) 5 [.ref (m 1), .ref (m 2), .int (nI (v 2)), .int (nI (v 3)), .ref (m 3), .int (nI n), .int (nI (v 6)), .ref (m 4), .ref (m 5), .ref (m 6), .ref (m 7), .ref (m 8), .ref (m 9), .ref (m 10), .ref (m 11), .int (nI (if ((59 : Nat) : Int) ≤ tk tx n (sp + 2) ∧ tk tx n (sp + 2) ≤ ((59 : Nat) : Int) then (sp + 2) + 1 else (sp + 2))), .int (nI (((tx sp)))), .int (nI (((tx (sp + 1)) - 48))), .int (nI 0), .long (lN (v 19))], aI Y (m 3) 90 (nF tx)]) rfl rfl rfl rfl ?_
        refine J_eq (ws' := [oB (m 0) 5 [.ref (m 1), .ref (m 2), .int (nI (v 2)), .int (nI (v 3)), .ref (m 3), .int (nI n), .int (nI (v 6)), .ref (m 4), .ref (m 5), .ref (m 6), .ref (m 7), .ref (m 8), .ref (m 9), .ref (m 10), .ref (m 11), .int (nI (if tk tx n (sp + 2) = 59 then sp + 2 + 1 else sp + 2)), .int (nI (((tx sp)))), .int (nI (((tx (sp + 1)) - 48))), .int (nI 0), .long (lN (v 19))], aI Y (m 3) 90 (nF tx)]) rfl rfl rfl (by rw [if59]) ?_
        exact J_zret C hr p2i_nar dX5_reads_122 ((((tx sp)), ((tx (sp + 1)) - 48), 0)) (⟨p2i_if (by rw [itO_g hl hg (by omega)]; exact ⟨fun z => decide_eq_true (by omega), fun z => by have z2 := of_decide_eq_true z; omega⟩), fun _ => ⟨rfl, by show tx (sp + 1) - 48 = _; omega, fun z => absurd (show tk tx n sp = 103 by omega) z⟩⟩) (by rw [itP_g hl hg (by omega)])
    · refine J_eq (ws' := [oB (m 0) 5 [.ref (m 1), .ref (m 2), .int (nI (v 2)), .int (nI (v 3)), .ref (m 3), .int (nI n), .int (nI (v 6)), .ref (m 4), .ref (m 5), .ref (m 6), .ref (m 7), .ref (m 8), .ref (m 9), .ref (m 10), .ref (m 11), .int (nI (sp + 1)), .int (nI ((tx sp))), .int (nI wh), .int (nI cs), .long (lN (v 19))], aI Y (m 3) 90 (nF tx)]) rfl rfl rfl (by rw [if_neg cq77]) ?_
      refine J_iconst C dX5_reads_80 (v := nI 0) (by decide) ?_
      exact J_zret C hr (by decide) dX5_reads_81 (((tx sp), wh, cs)) (⟨by rw [p2i_f (itO_ng (show ¬ gst (tk tx n (sp + 1)) by unfold gst; omega))], fun h => absurd h (itO_ng (show ¬ gst (tk tx n (sp + 1)) by unfold gst; omega))⟩) (by rw [itP_ng hl (show ¬ gst (tk tx n (sp + 1)) by unfold gst; omega)])
  · refine J_if_neP (tgt := 46) C dX5_reads_8 (by decide) (fun cq8 => ?_) (fun cq8 => ?_)
    · exact jn46 (by unfold lett; omega)
    · refine J_aload_n C dX5_reads_11 rfl 0 rfl ?_
      refine J_bipush C dX5_reads_12 (v := nI 108) (by decide) ?_
      refine J_bipush C dX5_reads_14 (v := nI 108) (by decide) ?_
      refine J_callI (wr := []) C (R_V (st := []) (wc := [oB (m 0) 5 [.ref (m 1), .ref (m 2), .int (nI (v 2)), .int (nI (v 3)), .ref (m 3), .int (nI n), .int (nI (v 6)), .ref (m 4), .ref (m 5), .ref (m 6), .ref (m 7), .ref (m 8), .ref (m 9), .ref (m 10), .ref (m 11), .int (nI sp), .int (nI lt), .int (nI wh), .int (nI cs), .long (lN (v 19))], aI Y (m 3) 90 (nF tx)]) C (kX5_isAt ll Y m v n sp lt wh cs tx 108 108 (by first | assumption | omega) (by first | assumption | omega) (by first | assumption | omega) (by first | assumption | omega)) (cwV 2 C.t gX5_reads_X5_isAt rfl rfl rfl (by decide +kernel) ⟨by decide, by decide⟩) rfl [0, 1] rfl (by decide) ⟨0, 5, _, _, rfl, rfl, rfl⟩ rfl (Nat.le_of_ble_eq_true rfl) dX5_reads_16 ⟨Nat.le_of_ble_eq_true rfl, Nat.le_of_ble_eq_true rfl⟩) [0, 1] [] rfl rfl (by decide) (by decide) (fun r16 u16 hw16 => ?_)
      subst hw16
      refine J_eq (pc' := 19) (lv' := [(0, .ref (m 0))]) (st' := [.int (p2i (((108 : Nat) : Int) ≤ tk tx n sp ∧ tk tx n sp ≤ ((108 : Nat) : Int)))]) (ws' := [oB (m 0) 5 [.ref (m 1), .ref (m 2), .int (nI (v 2)), .int (nI (v 3)), .ref (m 3), .int (nI n), .int (nI (v 6)), .ref (m 4), .ref (m 5), .ref (m 6), .ref (m 7), .ref (m 8), .ref (m 9), .ref (m 10), .ref (m 11), .int (nI sp), .int (nI lt), .int (nI wh), .int (nI cs), .long (lN (v 19))], aI Y (m 3) 90 (nF tx)]) rfl rfl rfl rfl ?_
      refine J_if_neP (tgt := 46) C dX5_reads_19 (by decide) (fun cq19 => ?_) (fun cq19 => ?_)
      · exact jn46 (by unfold lett; omega)
      · refine J_aload_n C dX5_reads_22 rfl 0 rfl ?_
        refine J_bipush C dX5_reads_23 (v := nI 112) (by decide) ?_
        refine J_bipush C dX5_reads_25 (v := nI 112) (by decide) ?_
        refine J_callI (wr := []) C (R_V (st := []) (wc := [oB (m 0) 5 [.ref (m 1), .ref (m 2), .int (nI (v 2)), .int (nI (v 3)), .ref (m 3), .int (nI n), .int (nI (v 6)), .ref (m 4), .ref (m 5), .ref (m 6), .ref (m 7), .ref (m 8), .ref (m 9), .ref (m 10), .ref (m 11), .int (nI sp), .int (nI lt), .int (nI wh), .int (nI cs), .long (lN (v 19))], aI Y (m 3) 90 (nF tx)]) C (kX5_isAt ll Y m v n sp lt wh cs tx 112 112 (by first | assumption | omega) (by first | assumption | omega) (by first | assumption | omega) (by first | assumption | omega)) (cwV 2 C.t gX5_reads_X5_isAt rfl rfl rfl (by decide +kernel) ⟨by decide, by decide⟩) rfl [0, 1] rfl (by decide) ⟨0, 5, _, _, rfl, rfl, rfl⟩ rfl (Nat.le_of_ble_eq_true rfl) dX5_reads_27 ⟨Nat.le_of_ble_eq_true rfl, Nat.le_of_ble_eq_true rfl⟩) [0, 1] [] rfl rfl (by decide) (by decide) (fun r27 u27 hw27 => ?_)
        subst hw27
        refine J_eq (pc' := 30) (lv' := [(0, .ref (m 0))]) (st' := [.int (p2i (((112 : Nat) : Int) ≤ tk tx n sp ∧ tk tx n sp ≤ ((112 : Nat) : Int)))]) (ws' := [oB (m 0) 5 [.ref (m 1), .ref (m 2), .int (nI (v 2)), .int (nI (v 3)), .ref (m 3), .int (nI n), .int (nI (v 6)), .ref (m 4), .ref (m 5), .ref (m 6), .ref (m 7), .ref (m 8), .ref (m 9), .ref (m 10), .ref (m 11), .int (nI sp), .int (nI lt), .int (nI wh), .int (nI cs), .long (lN (v 19))], aI Y (m 3) 90 (nF tx)]) rfl rfl rfl rfl ?_
        refine J_if_neP (tgt := 46) C dX5_reads_30 (by decide) (fun cq30 => ?_) (fun cq30 => ?_)
        · exact jn46 (by unfold lett; omega)
        · refine J_aload_n C dX5_reads_33 rfl 0 rfl ?_
          refine J_bipush C dX5_reads_34 (v := nI 103) (by decide) ?_
          refine J_bipush C dX5_reads_36 (v := nI 103) (by decide) ?_
          refine J_callI (wr := []) C (R_V (st := []) (wc := [oB (m 0) 5 [.ref (m 1), .ref (m 2), .int (nI (v 2)), .int (nI (v 3)), .ref (m 3), .int (nI n), .int (nI (v 6)), .ref (m 4), .ref (m 5), .ref (m 6), .ref (m 7), .ref (m 8), .ref (m 9), .ref (m 10), .ref (m 11), .int (nI sp), .int (nI lt), .int (nI wh), .int (nI cs), .long (lN (v 19))], aI Y (m 3) 90 (nF tx)]) C (kX5_isAt ll Y m v n sp lt wh cs tx 103 103 (by first | assumption | omega) (by first | assumption | omega) (by first | assumption | omega) (by first | assumption | omega)) (cwV 2 C.t gX5_reads_X5_isAt rfl rfl rfl (by decide +kernel) ⟨by decide, by decide⟩) rfl [0, 1] rfl (by decide) ⟨0, 5, _, _, rfl, rfl, rfl⟩ rfl (Nat.le_of_ble_eq_true rfl) dX5_reads_38 ⟨Nat.le_of_ble_eq_true rfl, Nat.le_of_ble_eq_true rfl⟩) [0, 1] [] rfl rfl (by decide) (by decide) (fun r38 u38 hw38 => ?_)
          subst hw38
          refine J_eq (pc' := 41) (lv' := [(0, .ref (m 0))]) (st' := [.int (p2i (((103 : Nat) : Int) ≤ tk tx n sp ∧ tk tx n sp ≤ ((103 : Nat) : Int)))]) (ws' := [oB (m 0) 5 [.ref (m 1), .ref (m 2), .int (nI (v 2)), .int (nI (v 3)), .ref (m 3), .int (nI n), .int (nI (v 6)), .ref (m 4), .ref (m 5), .ref (m 6), .ref (m 7), .ref (m 8), .ref (m 9), .ref (m 10), .ref (m 11), .int (nI sp), .int (nI lt), .int (nI wh), .int (nI cs), .long (lN (v 19))], aI Y (m 3) 90 (nF tx)]) rfl rfl rfl rfl ?_
          refine J_if_neP (tgt := 46) C dX5_reads_41 (by decide) (fun cq41 => ?_) (fun cq41 => ?_)
          · exact jn46 (by unfold lett; omega)
          · refine J_iconst C dX5_reads_44 (v := nI 0) (by decide) ?_
            exact J_zret C hr (by decide) dX5_reads_45 ((lt, wh, cs)) (⟨by rw [p2i_f (itO_nl (show ¬ lett (tk tx n sp) by unfold lett; omega))], fun h => absurd h (itO_nl (show ¬ lett (tk tx n sp) by unfold lett; omega))⟩) (by rw [itP_nl (show ¬ lett (tk tx n sp) by unfold lett; omega)])

