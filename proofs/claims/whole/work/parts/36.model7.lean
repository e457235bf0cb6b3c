set_option maxHeartbeats 4000000 in
set_option maxRecDepth 100000 in
theorem kX5_mix (ll : Launch) (Y : GY) (m : Nat → Nat) (v : Nat → Nat) (hz : Int64) (c : Int32)  : CT ll yX5_mix wsX5_mix { frames := 0, cells := 0, slots := 0, locals := 0 } Y [.ref (m 0), .int c] [oB (m 0) 5 [.ref (m 1), .ref (m 2), .int (nI (v 2)), .int (nI (v 3)), .ref (m 3), .int (nI (v 5)), .int (nI (v 6)), .ref (m 4), .ref (m 5), .ref (m 6), .ref (m 7), .ref (m 8), .ref (m 9), .ref (m 10), .ref (m 11), .int (nI (v 15)), .int (nI (v 16)), .int (nI (v 17)), .int (nI (v 18)), .long (lN (h64 hz))]] (QV Y (fun (_ : Unit) => True) (fun _ => [oB (m 0) 5 [.ref (m 1), .ref (m 2), .int (nI (v 2)), .int (nI (v 3)), .ref (m 3), .int (nI (v 5)), .int (nI (v 6)), .ref (m 4), .ref (m 5), .ref (m 6), .ref (m 7), .ref (m 8), .ref (m 9), .ref (m 10), .ref (m 11), .int (nI (v 15)), .int (nI (v 16)), .int (nI (v 17)), .int (nI (v 18)), .long (lN (h64 (mxL hz c)))]])) 0 0 := by
  refine CT_of (cc := cX5_mix) (maxL := 2) (ret := none) (by decide) rfl (Nat.le_of_ble_eq_true rfl) ?_
  intro pp ee ss mm bl mt cc AA C hr hnm
  have w0 := C.t _ (List.mem_of_getElem? (i := 1) (show wsX5_mix[1]? = some (Cond.constantLong RX5 172 (31)) from rfl))
  have w1 := C.t _ (List.mem_of_getElem? (i := 2) (show wsX5_mix[2]? = some (Cond.fieldLink RX5 174 "SecretDinnerModel" "hash" "J") from rfl))
  have i5 : ∀ w ∈ wsX50, w ∈ wsX5_mix := inPlaces [3, 4, 5, 6, 7, 8, 9, 10, 11, 12, 13, 14, 15, 16, 17, 18, 19, 20, 21, 22] (by decide +kernel)
  refine J_eq (lv' := [(0, .ref (m 0)), (1, .int c)]) (ws' := [oB (m 0) 5 [.ref (m 1), .ref (m 2), .int (nI (v 2)), .int (nI (v 3)), .ref (m 3), .int (nI (v 5)), .int (nI (v 6)), .ref (m 4), .ref (m 5), .ref (m 6), .ref (m 7), .ref (m 8), .ref (m 9), .ref (m 10), .ref (m 11), .int (nI (v 15)), .int (nI (v 16)), .int (nI (v 17)), .int (nI (v 18)), .long (lN (h64 hz))]]) rfl rfl rfl rfl ?_
  refine J_aload_n C dX5_mix_0 rfl 0 rfl ?_
  refine J_ldc2 C dX5_mix_1 (v := lN 31) w0 ?_
  refine J_aload_n C dX5_mix_4 rfl 0 rfl ?_
  refine J_get (ci := 5) C i5 rfl 19 (by decide) w1 rfl 0 rfl rfl dX5_mix_5 ?_
  refine J_lmul C dX5_mix_8 ?_
  refine J_iload_n C dX5_mix_9 rfl 1 rfl ?_
  refine J_i2l C dX5_mix_10 ?_
  refine J_ladd C dX5_mix_11 ?_
  refine J_top (y := .long (lN (h64 (mxL hz c)))) (congrArg Value.long (mxL_l hz c)) ?_
  refine J_put (ci := 5) (ty := .long) (ws' := [oB (m 0) 5 [.ref (m 1), .ref (m 2), .int (nI (v 2)), .int (nI (v 3)), .ref (m 3), .int (nI (v 5)), .int (nI (v 6)), .ref (m 4), .ref (m 5), .ref (m 6), .ref (m 7), .ref (m 8), .ref (m 9), .ref (m 10), .ref (m 11), .int (nI (v 15)), .int (nI (v 16)), .int (nI (v 17)), .int (nI (v 18)), .long (lN (h64 (mxL hz c)))]]) C i5 tyX5 tyX5_ok nmX5 rfl 19 (by decide) w1 rfl rfl (by decide +kernel) (rfl) (rfl) 0 rfl (Nat.le_of_ble_eq_true rfl) dX5_mix_12 rfl ?_
  exact J_vret C hr dX5_mix_15 (()) (trivial) (rfl)

set_option maxHeartbeats 4000000 in
set_option maxRecDepth 100000 in
theorem kX5_init (ll : Launch) (Y : GY) (o : Nat)  : CT ll yX5_init wsX5_init { frames := 1, cells := 11, slots := 1167, locals := 20 } Y [.ref o] [oB o 5 [.null, .null, .int (nI 0), .int (nI 0), .null, .int (nI 0), .int (nI 0), .null, .null, .null, .null, .null, .null, .null, .null, .int (nI 0), .int (nI 0), .int (nI 0), .int (nI 0), .long (lN 0)]] (QV (S := Nat → Nat) Y (fun _ => True) (fun u => [oB o 5 [.ref (u 1), .ref (u 2), .int (nI 0), .int (nI 0), .ref (u 3), .int (nI 0), .int (nI 0), .ref (u 4), .ref (u 5), .ref (u 6), .ref (u 7), .ref (u 8), .ref (u 9), .ref (u 10), .ref (u 11), .int (nI 0), .int (nI 0), .int (nI 0), .int (nI 0), .long (lN 0)], aI Y (u 1) 101 (nF ((va_up (va_up (fun _ => 0) 3 1) 2 4294967295))), aI Y (u 2) 404 (nF ((fun _ => 0))), aI Y (u 3) 90 (nF ((fun _ => 0))), aI Y (u 4) 8 (nF ((fun _ => 0))), aI Y (u 5) 32 (nF ((fun _ => 0))), aI Y (u 6) 4 (nF ((fun _ => 0))), aI Y (u 7) 4 (nF ((fun _ => 0))), aI Y (u 8) 4 (nF ((fun _ => 0))), aI Y (u 9) 512 (nF ((fun _ => 0))), aI Y (u 10) 4 (nF ((fun _ => 0))), aI Y (u 11) 4 (nF ((fun _ => 0)))])) 11 1167 := by
  refine CT_of (cc := cX5_init) (maxL := 1) (ret := none) (by decide) rfl (Nat.le_of_ble_eq_true rfl) ?_
  intro pp ee ss mm bl mt cc AA C hr hnm
  have w0 := C.t _ (List.mem_of_getElem? (i := 1) (show wsX5_init[1]? = some (Cond.methodLink RX5 1 objectInit) from rfl))
  have w1 := C.t _ (List.mem_of_getElem? (i := 2) (show wsX5_init[2]? = some (Cond.instanceMethod objectInit) from rfl))
  have w2 := C.t _ (List.mem_of_getElem? (i := 3) (show wsX5_init[3]? = some (Cond.code objectInit ⟨#[0xb1]⟩ 1 none) from rfl))
  have w3 := C.t _ (List.mem_of_getElem? (i := 4) (show wsX5_init[4]? = some (Cond.arrayClass .int) from rfl))
  have w4 := C.t _ (List.mem_of_getElem? (i := 5) (show wsX5_init[5]? = some (Cond.fieldLink RX5 7 "SecretDinnerModel" "now" "[I") from rfl))
  have w5 := C.t _ (List.mem_of_getElem? (i := 6) (show wsX5_init[6]? = some (Cond.fieldLink RX5 13 "SecretDinnerModel" "past" "[I") from rfl))
  have w6 := C.t _ (List.mem_of_getElem? (i := 7) (show wsX5_init[7]? = some (Cond.fieldLink RX5 16 "SecretDinnerModel" "text" "[I") from rfl))
  have w7 := C.t _ (List.mem_of_getElem? (i := 8) (show wsX5_init[8]? = some (Cond.fieldLink RX5 19 "SecretDinnerModel" "with" "[I") from rfl))
  have w8 := C.t _ (List.mem_of_getElem? (i := 9) (show wsX5_init[9]? = some (Cond.fieldLink RX5 22 "SecretDinnerModel" "held" "[I") from rfl))
  have w9 := C.t _ (List.mem_of_getElem? (i := 10) (show wsX5_init[10]? = some (Cond.fieldLink RX5 25 "SecretDinnerModel" "surely" "[I") from rfl))
  have w10 := C.t _ (List.mem_of_getElem? (i := 11) (show wsX5_init[11]? = some (Cond.fieldLink RX5 28 "SecretDinnerModel" "maybe" "[I") from rfl))
  have w11 := C.t _ (List.mem_of_getElem? (i := 12) (show wsX5_init[12]? = some (Cond.fieldLink RX5 31 "SecretDinnerModel" "lied" "[I") from rfl))
  have w12 := C.t _ (List.mem_of_getElem? (i := 13) (show wsX5_init[13]? = some (Cond.fieldLink RX5 34 "SecretDinnerModel" "hands" "[I") from rfl))
  have w13 := C.t _ (List.mem_of_getElem? (i := 14) (show wsX5_init[14]? = some (Cond.fieldLink RX5 37 "SecretDinnerModel" "deal" "[I") from rfl))
  have w14 := C.t _ (List.mem_of_getElem? (i := 15) (show wsX5_init[15]? = some (Cond.fieldLink RX5 40 "SecretDinnerModel" "wrong" "[I") from rfl))
  have i5 : ∀ w ∈ wsX50, w ∈ wsX5_init := inPlaces [16, 17, 18, 19, 20, 21, 22, 23, 24, 25, 26, 27, 28, 29, 30, 31, 32, 33, 34, 35] (by decide +kernel)
  refine J_eq (lv' := [(0, .ref o)]) (ws' := [oB o 5 [.null, .null, .int (nI 0), .int (nI 0), .null, .int (nI 0), .int (nI 0), .null, .null, .null, .null, .null, .null, .null, .null, .int (nI 0), .int (nI 0), .int (nI 0), .int (nI 0), .long (lN 0)]]) rfl rfl rfl rfl ?_
  refine J_aload_n C dX5_init_0 rfl 0 rfl ?_
  refine J_objInit C w0 w1 w2 dX5_init_1 (Nat.le_of_ble_eq_true rfl) (Nat.le_of_ble_eq_true rfl) (Nat.le_of_ble_eq_true rfl) ?_
  refine J_aload_n C dX5_init_4 rfl 0 rfl ?_
  refine J_bipush C dX5_init_5 (v := nI 101) (by decide) ?_
  refine J_newI C w3 (by decide) (Nat.le_of_ble_eq_true rfl) (Nat.le_of_ble_eq_true rfl) dX5_init_7 (fun q7 => ?_)
  refine J_eq (ws' := [oB o 5 [.null, .null, .int (nI 0), .int (nI 0), .null, .int (nI 0), .int (nI 0), .null, .null, .null, .null, .null, .null, .null, .null, .int (nI 0), .int (nI 0), .int (nI 0), .int (nI 0), .long (lN 0)], aI Y q7 101 (fun _ => 0)]) rfl rfl rfl rfl ?_
  refine J_putF (ci := 5) (ty := .array .int) (ws' := [oB o 5 [.ref q7, .null, .int (nI 0), .int (nI 0), .null, .int (nI 0), .int (nI 0), .null, .null, .null, .null, .null, .null, .null, .null, .int (nI 0), .int (nI 0), .int (nI 0), .int (nI 0), .long (lN 0)], aI Y q7 101 (fun _ => 0)]) C i5 tyX5 tyX5_ok nmX5 rfl 0 (by decide) w4 rfl rfl hnm rfl (by decide +kernel) (rfl) (rfl) 0 rfl (Nat.le_of_ble_eq_true rfl) dX5_init_9 rfl ?_
  refine J_aload_n C dX5_init_12 rfl 0 rfl ?_
  refine J_sipush C dX5_init_13 (v := nI 404) (by decide) ?_
  refine J_newI C w3 (by decide) (Nat.le_of_ble_eq_true rfl) (Nat.le_of_ble_eq_true rfl) dX5_init_16 (fun q16 => ?_)
  refine J_eq (ws' := [oB o 5 [.ref q7, .null, .int (nI 0), .int (nI 0), .null, .int (nI 0), .int (nI 0), .null, .null, .null, .null, .null, .null, .null, .null, .int (nI 0), .int (nI 0), .int (nI 0), .int (nI 0), .long (lN 0)], aI Y q7 101 (fun _ => 0), aI Y q16 404 (fun _ => 0)]) rfl rfl rfl rfl ?_
  refine J_putF (ci := 5) (ty := .array .int) (ws' := [oB o 5 [.ref q7, .ref q16, .int (nI 0), .int (nI 0), .null, .int (nI 0), .int (nI 0), .null, .null, .null, .null, .null, .null, .null, .null, .int (nI 0), .int (nI 0), .int (nI 0), .int (nI 0), .long (lN 0)], aI Y q7 101 (fun _ => 0), aI Y q16 404 (fun _ => 0)]) C i5 tyX5 tyX5_ok nmX5 rfl 1 (by decide) w5 rfl rfl hnm rfl (by decide +kernel) (rfl) (rfl) 0 rfl (Nat.le_of_ble_eq_true rfl) dX5_init_18 rfl ?_
  refine J_aload_n C dX5_init_21 rfl 0 rfl ?_
  refine J_bipush C dX5_init_22 (v := nI 90) (by decide) ?_
  refine J_newI C w3 (by decide) (Nat.le_of_ble_eq_true rfl) (Nat.le_of_ble_eq_true rfl) dX5_init_24 (fun q24 => ?_)
  refine J_eq (ws' := [oB o 5 [.ref q7, .ref q16, .int (nI 0), .int (nI 0), .null, .int (nI 0), .int (nI 0), .null, .null, .null, .null, .null, .null, .null, .null, .int (nI 0), .int (nI 0), .int (nI 0), .int (nI 0), .long (lN 0)], aI Y q7 101 (fun _ => 0), aI Y q16 404 (fun _ => 0), aI Y q24 90 (fun _ => 0)]) rfl rfl rfl rfl ?_
  refine J_putF (ci := 5) (ty := .array .int) (ws' := [oB o 5 [.ref q7, .ref q16, .int (nI 0), .int (nI 0), .ref q24, .int (nI 0), .int (nI 0), .null, .null, .null, .null, .null, .null, .null, .null, .int (nI 0), .int (nI 0), .int (nI 0), .int (nI 0), .long (lN 0)], aI Y q7 101 (fun _ => 0), aI Y q16 404 (fun _ => 0), aI Y q24 90 (fun _ => 0)]) C i5 tyX5 tyX5_ok nmX5 rfl 4 (by decide) w6 rfl rfl hnm rfl (by decide +kernel) (rfl) (rfl) 0 rfl (Nat.le_of_ble_eq_true rfl) dX5_init_26 rfl ?_
  refine J_aload_n C dX5_init_29 rfl 0 rfl ?_
  refine J_bipush C dX5_init_30 (v := nI 8) (by decide) ?_
  refine J_newI C w3 (by decide) (Nat.le_of_ble_eq_true rfl) (Nat.le_of_ble_eq_true rfl) dX5_init_32 (fun q32 => ?_)
  refine J_eq (ws' := [oB o 5 [.ref q7, .ref q16, .int (nI 0), .int (nI 0), .ref q24, .int (nI 0), .int (nI 0), .null, .null, .null, .null, .null, .null, .null, .null, .int (nI 0), .int (nI 0), .int (nI 0), .int (nI 0), .long (lN 0)], aI Y q7 101 (fun _ => 0), aI Y q16 404 (fun _ => 0), aI Y q24 90 (fun _ => 0), aI Y q32 8 (fun _ => 0)]) rfl rfl rfl rfl ?_
  refine J_putF (ci := 5) (ty := .array .int) (ws' := [oB o 5 [.ref q7, .ref q16, .int (nI 0), .int (nI 0), .ref q24, .int (nI 0), .int (nI 0), .ref q32, .null, .null, .null, .null, .null, .null, .null, .int (nI 0), .int (nI 0), .int (nI 0), .int (nI 0), .long (lN 0)], aI Y q7 101 (fun _ => 0), aI Y q16 404 (fun _ => 0), aI Y q24 90 (fun _ => 0), aI Y q32 8 (fun _ => 0)]) C i5 tyX5 tyX5_ok nmX5 rfl 7 (by decide) w7 rfl rfl hnm rfl (by decide +kernel) (rfl) (rfl) 0 rfl (Nat.le_of_ble_eq_true rfl) dX5_init_34 rfl ?_
  refine J_aload_n C dX5_init_37 rfl 0 rfl ?_
  refine J_bipush C dX5_init_38 (v := nI 32) (by decide) ?_
  refine J_newI C w3 (by decide) (Nat.le_of_ble_eq_true rfl) (Nat.le_of_ble_eq_true rfl) dX5_init_40 (fun q40 => ?_)
  refine J_eq (ws' := [oB o 5 [.ref q7, .ref q16, .int (nI 0), .int (nI 0), .ref q24, .int (nI 0), .int (nI 0), .ref q32, .null, .null, .null, .null, .null, .null, .null, .int (nI 0), .int (nI 0), .int (nI 0), .int (nI 0), .long (lN 0)], aI Y q7 101 (fun _ => 0), aI Y q16 404 (fun _ => 0), aI Y q24 90 (fun _ => 0), aI Y q32 8 (fun _ => 0), aI Y q40 32 (fun _ => 0)]) rfl rfl rfl rfl ?_
  refine J_putF (ci := 5) (ty := .array .int) (ws' := [oB o 5 [.ref q7, .ref q16, .int (nI 0), .int (nI 0), .ref q24, .int (nI 0), .int (nI 0), .ref q32, .ref q40, .null, .null, .null, .null, .null, .null, .int (nI 0), .int (nI 0), .int (nI 0), .int (nI 0), .long (lN 0)], aI Y q7 101 (fun _ => 0), aI Y q16 404 (fun _ => 0), aI Y q24 90 (fun _ => 0), aI Y q32 8 (fun _ => 0), aI Y q40 32 (fun _ => 0)]) C i5 tyX5 tyX5_ok nmX5 rfl 8 (by decide) w8 rfl rfl hnm rfl (by decide +kernel) (rfl) (rfl) 0 rfl (Nat.le_of_ble_eq_true rfl) dX5_init_42 rfl ?_
  refine J_aload_n C dX5_init_45 rfl 0 rfl ?_
  refine J_iconst C dX5_init_46 (v := nI 4) (by decide) ?_
  refine J_newI C w3 (by decide) (Nat.le_of_ble_eq_true rfl) (Nat.le_of_ble_eq_true rfl) dX5_init_47 (fun q47 => ?_)
  refine J_eq (ws' := [oB o 5 [.ref q7, .ref q16, .int (nI 0), .int (nI 0), .ref q24, .int (nI 0), .int (nI 0), .ref q32, .ref q40, .null, .null, .null, .null, .null, .null, .int (nI 0), .int (nI 0), .int (nI 0), .int (nI 0), .long (lN 0)], aI Y q7 101 (fun _ => 0), aI Y q16 404 (fun _ => 0), aI Y q24 90 (fun _ => 0), aI Y q32 8 (fun _ => 0), aI Y q40 32 (fun _ => 0), aI Y q47 4 (fun _ => 0)]) rfl rfl rfl rfl ?_
  refine J_putF (ci := 5) (ty := .array .int) (ws' := [oB o 5 [.ref q7, .ref q16, .int (nI 0), .int (nI 0), .ref q24, .int (nI 0), .int (nI 0), .ref q32, .ref q40, .ref q47, .null, .null, .null, .null, .null, .int (nI 0), .int (nI 0), .int (nI 0), .int (nI 0), .long (lN 0)], aI Y q7 101 (fun _ => 0), aI Y q16 404 (fun _ => 0), aI Y q24 90 (fun _ => 0), aI Y q32 8 (fun _ => 0), aI Y q40 32 (fun _ => 0), aI Y q47 4 (fun _ => 0)]) C i5 tyX5 tyX5_ok nmX5 rfl 9 (by decide) w9 rfl rfl hnm rfl (by decide +kernel) (rfl) (rfl) 0 rfl (Nat.le_of_ble_eq_true rfl) dX5_init_49 rfl ?_
  refine J_aload_n C dX5_init_52 rfl 0 rfl ?_
  refine J_iconst C dX5_init_53 (v := nI 4) (by decide) ?_
  refine J_newI C w3 (by decide) (Nat.le_of_ble_eq_true rfl) (Nat.le_of_ble_eq_true rfl) dX5_init_54 (fun q54 => ?_)
  refine J_eq (ws' := [oB o 5 [.ref q7, .ref q16, .int (nI 0), .int (nI 0), .ref q24, .int (nI 0), .int (nI 0), .ref q32, .ref q40, .ref q47, .null, .null, .null, .null, .null, .int (nI 0), .int (nI 0), .int (nI 0), .int (nI 0), .long (lN 0)], aI Y q7 101 (fun _ => 0), aI Y q16 404 (fun _ => 0), aI Y q24 90 (fun _ => 0), aI Y q32 8 (fun _ => 0), aI Y q40 32 (fun _ => 0), aI Y q47 4 (fun _ => 0), aI Y q54 4 (fun _ => 0)]) rfl rfl rfl rfl ?_
  refine J_putF (ci := 5) (ty := .array .int) (ws' := [oB o 5 [.ref q7, .ref q16, .int (nI 0), .int (nI 0), .ref q24, .int (nI 0), .int (nI 0), .ref q32, .ref q40, .ref q47, .ref q54, .null, .null, .null, .null, .int (nI 0), .int (nI 0), .int (nI 0), .int (nI 0), .long (lN 0)], aI Y q7 101 (fun _ => 0), aI Y q16 404 (fun _ => 0), aI Y q24 90 (fun _ => 0), aI Y q32 8 (fun _ => 0), aI Y q40 32 (fun _ => 0), aI Y q47 4 (fun _ => 0), aI Y q54 4 (fun _ => 0)]) C i5 tyX5 tyX5_ok nmX5 rfl 10 (by decide) w10 rfl rfl hnm rfl (by decide +kernel) (rfl) (rfl) 0 rfl (Nat.le_of_ble_eq_true rfl) dX5_init_56 rfl ?_
  refine J_aload_n C dX5_init_59 rfl 0 rfl ?_
  refine J_iconst C dX5_init_60 (v := nI 4) (by decide) ?_
  refine J_newI C w3 (by decide) (Nat.le_of_ble_eq_true rfl) (Nat.le_of_ble_eq_true rfl) dX5_init_61 (fun q61 => ?_)
  refine J_eq (ws' := [oB o 5 [.ref q7, .ref q16, .int (nI 0), .int (nI 0), .ref q24, .int (nI 0), .int (nI 0), .ref q32, .ref q40, .ref q47, .ref q54, .null, .null, .null, .null, .int (nI 0), .int (nI 0), .int (nI 0), .int (nI 0), .long (lN 0)], aI Y q7 101 (fun _ => 0), aI Y q16 404 (fun _ => 0), aI Y q24 90 (fun _ => 0), aI Y q32 8 (fun _ => 0), aI Y q40 32 (fun _ => 0), aI Y q47 4 (fun _ => 0), aI Y q54 4 (fun _ => 0), aI Y q61 4 (fun _ => 0)]) rfl rfl rfl rfl ?_
  refine J_putF (ci := 5) (ty := .array .int) (ws' := [oB o 5 [.ref q7, .ref q16, .int (nI 0), .int (nI 0), .ref q24, .int (nI 0), .int (nI 0), .ref q32, .ref q40, .ref q47, .ref q54, .ref q61, .null, .null, .null, .int (nI 0), .int (nI 0), .int (nI 0), .int (nI 0), .long (lN 0)], aI Y q7 101 (fun _ => 0), aI Y q16 404 (fun _ => 0), aI Y q24 90 (fun _ => 0), aI Y q32 8 (fun _ => 0), aI Y q40 32 (fun _ => 0), aI Y q47 4 (fun _ => 0), aI Y q54 4 (fun _ => 0), aI Y q61 4 (fun _ => 0)]) C i5 tyX5 tyX5_ok nmX5 rfl 11 (by decide) w11 rfl rfl hnm rfl (by decide +kernel) (rfl) (rfl) 0 rfl (Nat.le_of_ble_eq_true rfl) dX5_init_63 rfl ?_
  refine J_aload_n C dX5_init_66 rfl 0 rfl ?_
  refine J_sipush C dX5_init_67 (v := nI 512) (by decide) ?_
  refine J_newI C w3 (by decide) (Nat.le_of_ble_eq_true rfl) (Nat.le_of_ble_eq_true rfl) dX5_init_70 (fun q70 => ?_)
  refine J_eq (ws' := [oB o 5 [.ref q7, .ref q16, .int (nI 0), .int (nI 0), .ref q24, .int (nI 0), .int (nI 0), .ref q32, .ref q40, .ref q47, .ref q54, .ref q61, .null, .null, .null, .int (nI 0), .int (nI 0), .int (nI 0), .int (nI 0), .long (lN 0)], aI Y q7 101 (fun _ => 0), aI Y q16 404 (fun _ => 0), aI Y q24 90 (fun _ => 0), aI Y q32 8 (fun _ => 0), aI Y q40 32 (fun _ => 0), aI Y q47 4 (fun _ => 0), aI Y q54 4 (fun _ => 0), aI Y q61 4 (fun _ => 0), aI Y q70 512 (fun _ => 0)]) rfl rfl rfl rfl ?_
  refine J_putF (ci := 5) (ty := .array .int) (ws' := [oB o 5 [.ref q7, .ref q16, .int (nI 0), .int (nI 0), .ref q24, .int (nI 0), .int (nI 0), .ref q32, .ref q40, .ref q47, .ref q54, .ref q61, .ref q70, .null, .null, .int (nI 0), .int (nI 0), .int (nI 0), .int (nI 0), .long (lN 0)], aI Y q7 101 (fun _ => 0), aI Y q16 404 (fun _ => 0), aI Y q24 90 (fun _ => 0), aI Y q32 8 (fun _ => 0), aI Y q40 32 (fun _ => 0), aI Y q47 4 (fun _ => 0), aI Y q54 4 (fun _ => 0), aI Y q61 4 (fun _ => 0), aI Y q70 512 (fun _ => 0)]) C i5 tyX5 tyX5_ok nmX5 rfl 12 (by decide) w12 rfl rfl hnm rfl (by decide +kernel) (rfl) (rfl) 0 rfl (Nat.le_of_ble_eq_true rfl) dX5_init_72 rfl ?_
  refine J_aload_n C dX5_init_75 rfl 0 rfl ?_
  refine J_iconst C dX5_init_76 (v := nI 4) (by decide) ?_
  refine J_newI C w3 (by decide) (Nat.le_of_ble_eq_true rfl) (Nat.le_of_ble_eq_true rfl) dX5_init_77 (fun q77 => ?_)
  refine J_eq (ws' := [oB o 5 [.ref q7, .ref q16, .int (nI 0), .int (nI 0), .ref q24, .int (nI 0), .int (nI 0), .ref q32, .ref q40, .ref q47, .ref q54, .ref q61, .ref q70, .null, .null, .int (nI 0), .int (nI 0), .int (nI 0), .int (nI 0), .long (lN 0)], aI Y q7 101 (fun _ => 0), aI Y q16 404 (fun _ => 0), aI Y q24 90 (fun _ => 0), aI Y q32 8 (fun _ => 0), aI Y q40 32 (fun _ => 0), aI Y q47 4 (fun _ => 0), aI Y q54 4 (fun _ => 0), aI Y q61 4 (fun _ => 0), aI Y q70 512 (fun _ => 0), aI Y q77 4 (fun _ => 0)]) rfl rfl rfl rfl ?_
  refine J_putF (ci := 5) (ty := .array .int) (ws' := [oB o 5 [.ref q7, .ref q16, .int (nI 0), .int (nI 0), .ref q24, .int (nI 0), .int (nI 0), .ref q32, .ref q40, .ref q47, .ref q54, .ref q61, .ref q70, .ref q77, .null, .int (nI 0), .int (nI 0), .int (nI 0), .int (nI 0), .long (lN 0)], aI Y q7 101 (fun _ => 0), aI Y q16 404 (fun _ => 0), aI Y q24 90 (fun _ => 0), aI Y q32 8 (fun _ => 0), aI Y q40 32 (fun _ => 0), aI Y q47 4 (fun _ => 0), aI Y q54 4 (fun _ => 0), aI Y q61 4 (fun _ => 0), aI Y q70 512 (fun _ => 0), aI Y q77 4 (fun _ => 0)]) C i5 tyX5 tyX5_ok nmX5 rfl 13 (by decide) w13 rfl rfl hnm rfl (by decide +kernel) (rfl) (rfl) 0 rfl (Nat.le_of_ble_eq_true rfl) dX5_init_79 rfl ?_
  refine J_aload_n C dX5_init_82 rfl 0 rfl ?_
  refine J_iconst C dX5_init_83 (v := nI 4) (by decide) ?_
  refine J_newI C w3 (by decide) (Nat.le_of_ble_eq_true rfl) (Nat.le_of_ble_eq_true rfl) dX5_init_84 (fun q84 => ?_)
  refine J_eq (ws' := [oB o 5 [.ref q7, .ref q16, .int (nI 0), .int (nI 0), .ref q24, .int (nI 0), .int (nI 0), .ref q32, .ref q40, .ref q47, .ref q54, .ref q61, .ref q70, .ref q77, .null, .int (nI 0), .int (nI 0), .int (nI 0), .int (nI 0), .long (lN 0)], aI Y q7 101 (fun _ => 0), aI Y q16 404 (fun _ => 0), aI Y q24 90 (fun _ => 0), aI Y q32 8 (fun _ => 0), aI Y q40 32 (fun _ => 0), aI Y q47 4 (fun _ => 0), aI Y q54 4 (fun _ => 0), aI Y q61 4 (fun _ => 0), aI Y q70 512 (fun _ => 0), aI Y q77 4 (fun _ => 0), aI Y q84 4 (fun _ => 0)]) rfl rfl rfl rfl ?_
  refine J_putF (ci := 5) (ty := .array .int) (ws' := [oB o 5 [.ref q7, .ref q16, .int (nI 0), .int (nI 0), .ref q24, .int (nI 0), .int (nI 0), .ref q32, .ref q40, .ref q47, .ref q54, .ref q61, .ref q70, .ref q77, .ref q84, .int (nI 0), .int (nI 0), .int (nI 0), .int (nI 0), .long (lN 0)], aI Y q7 101 (fun _ => 0), aI Y q16 404 (fun _ => 0), aI Y q24 90 (fun _ => 0), aI Y q32 8 (fun _ => 0), aI Y q40 32 (fun _ => 0), aI Y q47 4 (fun _ => 0), aI Y q54 4 (fun _ => 0), aI Y q61 4 (fun _ => 0), aI Y q70 512 (fun _ => 0), aI Y q77 4 (fun _ => 0), aI Y q84 4 (fun _ => 0)]) C i5 tyX5 tyX5_ok nmX5 rfl 14 (by decide) w14 rfl rfl hnm rfl (by decide +kernel) (rfl) (rfl) 0 rfl (Nat.le_of_ble_eq_true rfl) dX5_init_86 rfl ?_
  refine J_aload_n C dX5_init_89 rfl 0 rfl ?_
  refine J_get (ci := 5) C i5 rfl 0 (by decide) w4 rfl 0 rfl rfl dX5_init_90 ?_
  refine J_extI (q0 := 1) (g := nF (fun _ => 0)) (ws' := [oB o 5 [.ref q7, .ref q16, .int (nI 0), .int (nI 0), .ref q24, .int (nI 0), .int (nI 0), .ref q32, .ref q40, .ref q47, .ref q54, .ref q61, .ref q70, .ref q77, .ref q84, .int (nI 0), .int (nI 0), .int (nI 0), .int (nI 0), .long (lN 0)], aI Y q7 101 (nF (fun _ => 0)), aI Y q16 404 (fun _ => 0), aI Y q24 90 (fun _ => 0), aI Y q32 8 (fun _ => 0), aI Y q40 32 (fun _ => 0), aI Y q47 4 (fun _ => 0), aI Y q54 4 (fun _ => 0), aI Y q61 4 (fun _ => 0), aI Y q70 512 (fun _ => 0), aI Y q77 4 (fun _ => 0), aI Y q84 4 (fun _ => 0)]) rfl (fun _ _ => rfl) rfl ?_
  refine J_iconst C dX5_init_93 (v := nI 3) (by decide) ?_
  refine J_iconst C dX5_init_94 (v := nI 1) (by decide) ?_
  refine J_iastF (ws' := [oB o 5 [.ref q7, .ref q16, .int (nI 0), .int (nI 0), .ref q24, .int (nI 0), .int (nI 0), .ref q32, .ref q40, .ref q47, .ref q54, .ref q61, .ref q70, .ref q77, .ref q84, .int (nI 0), .int (nI 0), .int (nI 0), .int (nI 0), .long (lN 0)], aI Y q7 101 (nF (va_up (fun _ => 0) 3 1)), aI Y q16 404 (fun _ => 0), aI Y q24 90 (fun _ => 0), aI Y q32 8 (fun _ => 0), aI Y q40 32 (fun _ => 0), aI Y q47 4 (fun _ => 0), aI Y q54 4 (fun _ => 0), aI Y q61 4 (fun _ => 0), aI Y q70 512 (fun _ => 0), aI Y q77 4 (fun _ => 0), aI Y q84 4 (fun _ => 0)]) C 1 rfl (by omega) (by omega) dX5_init_95 rfl ?_
  refine J_aload_n C dX5_init_96 rfl 0 rfl ?_
  refine J_get (ci := 5) C i5 rfl 0 (by decide) w4 rfl 0 rfl rfl dX5_init_97 ?_
  refine J_iconst C dX5_init_100 (v := nI 2) (by decide) ?_
  refine J_iconst C dX5_init_101 (v := iZ ((-1))) (by decide) ?_
  refine J_top (y := .int (nI 4294967295)) (by rw [m1_nI]) ?_
  refine J_iastF (ws' := [oB o 5 [.ref q7, .ref q16, .int (nI 0), .int (nI 0), .ref q24, .int (nI 0), .int (nI 0), .ref q32, .ref q40, .ref q47, .ref q54, .ref q61, .ref q70, .ref q77, .ref q84, .int (nI 0), .int (nI 0), .int (nI 0), .int (nI 0), .long (lN 0)], aI Y q7 101 (nF (va_up (va_up (fun _ => 0) 3 1) 2 4294967295)), aI Y q16 404 (fun _ => 0), aI Y q24 90 (fun _ => 0), aI Y q32 8 (fun _ => 0), aI Y q40 32 (fun _ => 0), aI Y q47 4 (fun _ => 0), aI Y q54 4 (fun _ => 0), aI Y q61 4 (fun _ => 0), aI Y q70 512 (fun _ => 0), aI Y q77 4 (fun _ => 0), aI Y q84 4 (fun _ => 0)]) C 1 rfl (by omega) (by omega) dX5_init_102 rfl ?_
  exact J_vret C hr dX5_init_103 ((fun k => [0, q7, q16, q24, q32, q40, q47, q54, q61, q70, q77, q84].getD k 0)) (trivial) (rfl)

