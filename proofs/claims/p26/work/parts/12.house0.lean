set_option maxHeartbeats 4000000 in
set_option maxRecDepth 100000 in
theorem kX4_sizeOfHand (ll : Launch) (Y : GY) (n : Nat) (q : Nat) (hn : n = 3 ∨ n = 4) (hq : q < 5) : CT ll yX4_sizeOfHand wsX4_sizeOfHand { frames := 0, cells := 0, slots := 0, locals := 0 } Y [.int (nI n), .int (nI q)] [] (QI Y (fun (r : Int32) (_ : Unit) => r = nI (szH n q)) (fun _ => [])) 0 0 := by
  refine CT_of (cc := cX4_sizeOfHand) (maxL := 3) (ret := (some .int)) (by decide) rfl (Nat.le_of_ble_eq_true rfl) ?_
  intro pp ee ss mm bl mt cc AA C hr hnm
  have w0 := C.t _ (List.mem_of_getElem? (i := 2) (show wsX4_sizeOfHand[2]? = some (Cond.fieldLink RX4 243 "SecretDinner" "HANDS_OF_FOUR" "[I") from rfl))
  have w1 := C.t _ (List.mem_of_getElem? (i := 1) (show wsX4_sizeOfHand[1]? = some (Cond.fieldLink RX4 239 "SecretDinner" "HANDS_OF_THREE" "[I") from rfl))
  refine J_eq (lv' := [(0, .int (nI n)), (1, .int (nI q))]) (ws' := []) rfl rfl rfl rfl ?_
  refine J_iload_n C dX4_sizeOfHand_0 rfl 0 rfl ?_
  refine J_iconst C dX4_sizeOfHand_1 (v := nI 3) (by decide) ?_
  refine J_icmp_neN (tgt := 11) C dX4_sizeOfHand_2 (by decide) (by omega) (by omega) (fun cq2 => ?_) (fun cq2 => ?_)
  · refine J_gets4 C w0 dX4_sizeOfHand_11 (fun t4 hT4 => ?_)
    refine J_astore_n (lv' := [(2, .ref t4), (0, .int (nI n)), (1, .int (nI q))]) C dX4_sizeOfHand_14 rfl (by decide) rfl ?_
    refine J_iload_n C dX4_sizeOfHand_15 rfl 2 rfl ?_
    refine J_if_ltN (tgt := 31) C dX4_sizeOfHand_16 (by decide) (by omega) ?_
    refine J_iload_n C dX4_sizeOfHand_19 rfl 2 rfl ?_
    refine J_aload_n C dX4_sizeOfHand_20 rfl 0 rfl ?_
    refine J_tlen C hT4 dX4_sizeOfHand_21 ?_
    refine J_icmp_geN (tgt := 31) C dX4_sizeOfHand_22 (by decide) (by omega) (by omega) (fun cq22 => ?_) (fun cq22 => ?_)
    · exact absurd cq22 (by omega)
    · refine J_aload_n C dX4_sizeOfHand_25 rfl 0 rfl ?_
      refine J_iload_n C dX4_sizeOfHand_26 rfl 2 rfl ?_
      refine J_taldN C hT4 (by omega) (by decide) dX4_sizeOfHand_27 ?_
      refine J_goto (tgt := 32) C dX4_sizeOfHand_28 (by decide) ?_
      exact J_iret C hr dX4_sizeOfHand_32 (()) (by rw [xt4_sz q hq, show n = 4 from by omega]) (rfl)
  · refine J_gets3 C w1 dX4_sizeOfHand_5 (fun t3 hT3 => ?_)
    refine J_goto (tgt := 14) C dX4_sizeOfHand_8 (by decide) ?_
    refine J_astore_n (lv' := [(2, .ref t3), (0, .int (nI n)), (1, .int (nI q))]) C dX4_sizeOfHand_14 rfl (by decide) rfl ?_
    refine J_iload_n C dX4_sizeOfHand_15 rfl 2 rfl ?_
    refine J_if_ltN (tgt := 31) C dX4_sizeOfHand_16 (by decide) (by omega) ?_
    refine J_iload_n C dX4_sizeOfHand_19 rfl 2 rfl ?_
    refine J_aload_n C dX4_sizeOfHand_20 rfl 0 rfl ?_
    refine J_tlen C hT3 dX4_sizeOfHand_21 ?_
    refine J_icmp_geN (tgt := 31) C dX4_sizeOfHand_22 (by decide) (by omega) (by omega) (fun cq22 => ?_) (fun cq22 => ?_)
    · exact absurd cq22 (by omega)
    · refine J_aload_n C dX4_sizeOfHand_25 rfl 0 rfl ?_
      refine J_iload_n C dX4_sizeOfHand_26 rfl 2 rfl ?_
      refine J_taldN C hT3 (by omega) (by decide) dX4_sizeOfHand_27 ?_
      refine J_goto (tgt := 32) C dX4_sizeOfHand_28 (by decide) ?_
      exact J_iret C hr dX4_sizeOfHand_32 (()) (by rw [xt3_sz q hq, cq2]) (rfl)

set_option maxHeartbeats 4000000 in
set_option maxRecDepth 100000 in
theorem kX4_copyRow (ll : Launch) (Y : GY) (a0 : Nat) (a1 : Nat) (N : Nat) (f : Nat → Int32) (g : Nat → Int32) (hN : N < 2 ^ 31) : CT ll yX4_copyRow wsX4_copyRow { frames := 1, cells := 0, slots := 0, locals := 40 } Y [.ref a0, .ref a1] [aI Y a0 N f, aI Y a1 N g] (QV Y (fun (_ : Unit) => True) (fun _ => [aI Y a0 N f, aI Y a1 N (va_cpy f g 0 0 N)])) 0 0 := by
  refine CT_of (cc := cX4_copyRow) (maxL := 2) (ret := none) (by decide) rfl (Nat.le_of_ble_eq_true rfl) ?_
  intro pp ee ss mm bl mt cc AA C hr hnm
  have w0 := C.t _ (List.mem_of_getElem? (i := 1) (show wsX4_copyRow[1]? = some (Cond.methodLink RX4 246 Lib.Math.min.name) from rfl))
  have w1 := C.t _ (List.mem_of_getElem? (i := 2) (show wsX4_copyRow[2]? = some (Cond.static Lib.Math.min.name) from rfl))
  have w2 := C.t _ (List.mem_of_getElem? (i := 3) (show wsX4_copyRow[3]? = some (Cond.initialized "java/lang/Math") from rfl))
  have w3 := C.t _ (List.mem_of_getElem? (i := 4) (show wsX4_copyRow[4]? = some (Cond.code Lib.Math.min.name Lib.Math.min.code 2 (some .int)) from rfl))
  have w4 := C.t _ (List.mem_of_getElem? (i := 5) (show wsX4_copyRow[5]? = some (Cond.methodLink RX4 251 arraycopyName) from rfl))
  have w5 := C.t _ (List.mem_of_getElem? (i := 6) (show wsX4_copyRow[6]? = some (Cond.native arraycopyName) from rfl))
  have w6 := C.t _ (List.mem_of_getElem? (i := 7) (show wsX4_copyRow[7]? = some (Cond.static arraycopyName) from rfl))
  have w7 := C.t _ (List.mem_of_getElem? (i := 8) (show wsX4_copyRow[8]? = some (Cond.initialized "java/lang/System") from rfl))
  refine J_eq (lv' := [(0, .ref a0), (1, .ref a1)]) (ws' := [aI Y a0 N f, aI Y a1 N g]) rfl rfl rfl rfl ?_
  refine J_aload_n C dX4_copyRow_0 rfl 0 rfl ?_
  refine J_iconst C dX4_copyRow_1 (v := nI 0) (by decide) ?_
  refine J_aload_n C dX4_copyRow_2 rfl 1 rfl ?_
  refine J_iconst C dX4_copyRow_3 (v := nI 0) (by decide) ?_
  refine J_aload_n C dX4_copyRow_4 rfl 0 rfl ?_
  refine J_alenI C 0 rfl dX4_copyRow_5 ?_
  refine J_aload_n C dX4_copyRow_6 rfl 1 rfl ?_
  refine J_alenI C 1 rfl dX4_copyRow_7 ?_
  refine J_mminM C w0 w1 w2 w3 (Nat.le_of_ble_eq_true rfl) (Nat.le_of_ble_eq_true rfl) (Nat.le_of_ble_eq_true rfl) (Nat.le_of_ble_eq_true rfl) (by omega) (by omega) dX4_copyRow_8 ?_
  refine J_top (y := .int (nI N)) (by rw [show Nat.min N N = N from Nat.min_self N]) ?_
  refine J_copyI (ws' := [aI Y a0 N f, aI Y a1 N (va_cpy f g 0 0 N)]) C w4 w5 w6 w7 0 1 rfl rfl (by omega) (by omega) (by omega) (by decide) (by decide +kernel) dX4_copyRow_11 rfl ?_
  exact J_vret C hr dX4_copyRow_14 (()) (trivial) (rfl)

set_option maxHeartbeats 4000000 in
set_option maxRecDepth 100000 in
theorem kX4_isCard (ll : Launch) (Y : GY) (c0 : Int32)  : CT ll yX4_isCard wsX4_isCard { frames := 0, cells := 0, slots := 0, locals := 0 } Y [.int c0] [] (QI Y (fun (r : Int32) (_ : Unit) => r = p2i (0 ≤ c0.toInt ∧ c0.toInt < 8)) (fun _ => [])) 0 0 := by
  refine CT_of (cc := cX4_isCard) (maxL := 1) (ret := (some .boolean)) (by decide) rfl (Nat.le_of_ble_eq_true rfl) ?_
  intro pp ee ss mm bl mt cc AA C hr hnm
  refine J_eq (lv' := [(0, .int c0)]) (ws' := []) rfl rfl rfl rfl ?_
  refine J_iload_n C dX4_isCard_0 rfl 0 rfl ?_
  refine J_if_ltT (tgt := 14) C dX4_isCard_1 (by decide) (fun cq1 => ?_) (fun cq1 => ?_)
  · refine J_iconst C dX4_isCard_14 (v := nI 0) (by decide) ?_
    exact J_zret C hr (by decide) dX4_isCard_15 (()) (by rw [p2i_f (by omega)]) (rfl)
  · refine J_iload_n C dX4_isCard_4 rfl 0 rfl ?_
    refine J_bipush C dX4_isCard_5 (v := nI 8) (by decide) ?_
    refine J_icmp_geR (tgt := 14) C dX4_isCard_7 (by decide) (by omega) (fun cq7 => ?_) (fun cq7 => ?_)
    · refine J_iconst C dX4_isCard_14 (v := nI 0) (by decide) ?_
      exact J_zret C hr (by decide) dX4_isCard_15 (()) (by rw [p2i_f (by omega)]) (rfl)
    · refine J_iconst C dX4_isCard_10 (v := nI 1) (by decide) ?_
      refine J_goto (tgt := 15) C dX4_isCard_11 (by decide) ?_
      exact J_zret C hr (by decide) dX4_isCard_15 (()) (by rw [p2i_t (by omega)]) (rfl)

set_option maxHeartbeats 4000000 in
set_option maxRecDepth 100000 in
theorem kX4_isQuestion (ll : Launch) (Y : GY) (c0 : Int32)  : CT ll yX4_isQuestion wsX4_isQuestion { frames := 0, cells := 0, slots := 0, locals := 0 } Y [.int c0] [] (QI Y (fun (r : Int32) (_ : Unit) => r = p2i (1 ≤ c0.toInt ∧ c0.toInt ≤ 255)) (fun _ => [])) 0 0 := by
  refine CT_of (cc := cX4_isQuestion) (maxL := 1) (ret := (some .boolean)) (by decide) rfl (Nat.le_of_ble_eq_true rfl) ?_
  intro pp ee ss mm bl mt cc AA C hr hnm
  refine J_eq (lv' := [(0, .int c0)]) (ws' := []) rfl rfl rfl rfl ?_
  refine J_iload_n C dX4_isQuestion_0 rfl 0 rfl ?_
  refine J_iconst C dX4_isQuestion_1 (v := nI 1) (by decide) ?_
  refine J_icmp_ltR (tgt := 16) C dX4_isQuestion_2 (by decide) (by omega) (fun cq2 => ?_) (fun cq2 => ?_)
  · refine J_iconst C dX4_isQuestion_16 (v := nI 0) (by decide) ?_
    exact J_zret C hr (by decide) dX4_isQuestion_17 (()) (by rw [p2i_f (by omega)]) (rfl)
  · refine J_iload_n C dX4_isQuestion_5 rfl 0 rfl ?_
    refine J_sipush C dX4_isQuestion_6 (v := nI 255) (by decide) ?_
    refine J_icmp_gtR (tgt := 16) C dX4_isQuestion_9 (by decide) (by omega) (fun cq9 => ?_) (fun cq9 => ?_)
    · refine J_iconst C dX4_isQuestion_16 (v := nI 0) (by decide) ?_
      exact J_zret C hr (by decide) dX4_isQuestion_17 (()) (by rw [p2i_f (by omega)]) (rfl)
    · refine J_iconst C dX4_isQuestion_12 (v := nI 1) (by decide) ?_
      refine J_goto (tgt := 17) C dX4_isQuestion_13 (by decide) ?_
      exact J_zret C hr (by decide) dX4_isQuestion_17 (()) (by rw [p2i_t (by omega)]) (rfl)

