set_option maxHeartbeats 4000000 in
set_option maxRecDepth 100000 in
theorem kX0_cardsAt (ll : Launch) (Y : GY) (d : Nat) (q : Nat) (hd : d < 2 ^ 64) (hq : q ≤ 4) : CT ll yX0_cardsAt wsX0_cardsAt { frames := 0, cells := 0, slots := 0, locals := 0 } Y [.long (lN d), .int (nI q)] [] (QI Y (fun (r : Int32) (_ : Unit) => r = nI (hAt d q)) (fun _ => [])) 0 0 := by
  refine CT_of (cc := cX0_cardsAt) (maxL := 3) (ret := (some .int)) (by decide) rfl (Nat.le_of_ble_eq_true rfl) ?_
  intro pp ee ss mm bl mt cc AA C hr hnm
  refine J_eq (lv' := [(0, .long (lN d)), (2, .int (nI q))]) (ws' := []) rfl rfl rfl rfl ?_
  refine J_lload_n C dX0_cardsAt_0 rfl 0 rfl ?_
  refine J_bipush C dX0_cardsAt_1 (v := nI 8) (by decide) ?_
  refine J_iload_n C dX0_cardsAt_3 rfl 1 rfl ?_
  refine J_imulN C dX0_cardsAt_4 ?_
  refine J_lushrN C dX0_cardsAt_5 (by omega) (by omega) ?_
  refine J_l2iN C dX0_cardsAt_6 ?_
  refine J_sipush C dX0_cardsAt_7 (v := nI 255) (by decide) ?_
  refine J_iandN C dX0_cardsAt_10 ?_
  exact J_iret C hr dX0_cardsAt_11 (()) (by rw [hAt_and]) (rfl)

set_option maxHeartbeats 4000000 in
set_option maxRecDepth 100000 in
theorem kX0_cardBit (ll : Launch) (Y : GY) (q : Nat) (c : Nat) (hq : q ≤ 4) (hc : c ≤ 7) : CT ll yX0_cardBit wsX0_cardBit { frames := 0, cells := 0, slots := 0, locals := 0 } Y [.int (nI q), .int (nI c)] [] (QL Y (fun (r : Int64) (_ : Unit) => r = lN (2 ^ (8 * q + c))) (fun _ => [])) 0 0 := by
  refine CT_of (cc := cX0_cardBit) (maxL := 2) (ret := (some .long)) (by decide) rfl (Nat.le_of_ble_eq_true rfl) ?_
  intro pp ee ss mm bl mt cc AA C hr hnm
  refine J_eq (lv' := [(0, .int (nI q)), (1, .int (nI c))]) (ws' := []) rfl rfl rfl rfl ?_
  refine J_lconst C dX0_cardBit_0 (v := lN 1) rfl ?_
  refine J_bipush C dX0_cardBit_1 (v := nI 8) (by decide) ?_
  refine J_iload_n C dX0_cardBit_3 rfl 0 rfl ?_
  refine J_imulN C dX0_cardBit_4 ?_
  refine J_iload_n C dX0_cardBit_5 rfl 1 rfl ?_
  refine J_iaddN C dX0_cardBit_6 ?_
  refine J_lshlN C dX0_cardBit_7 (by omega) ?_
  exact J_lret C hr dX0_cardBit_8 (()) (by rw [Nat.one_mul]) (rfl)

set_option maxHeartbeats 4000000 in
set_option maxRecDepth 100000 in
theorem kX0_wrongBit (ll : Launch) (Y : GY) (g : Nat) (hg : g ≤ 4) : CT ll yX0_wrongBit wsX0_wrongBit { frames := 0, cells := 0, slots := 0, locals := 0 } Y [.int (nI g)] [] (QL Y (fun (r : Int64) (_ : Unit) => r = lN (2 ^ (40 + g))) (fun _ => [])) 0 0 := by
  refine CT_of (cc := cX0_wrongBit) (maxL := 1) (ret := (some .long)) (by decide) rfl (Nat.le_of_ble_eq_true rfl) ?_
  intro pp ee ss mm bl mt cc AA C hr hnm
  refine J_eq (lv' := [(0, .int (nI g))]) (ws' := []) rfl rfl rfl rfl ?_
  refine J_lconst C dX0_wrongBit_0 (v := lN 1) rfl ?_
  refine J_bipush C dX0_wrongBit_1 (v := nI 40) (by decide) ?_
  refine J_iload_n C dX0_wrongBit_3 rfl 0 rfl ?_
  refine J_iaddN C dX0_wrongBit_4 ?_
  refine J_lshlN C dX0_wrongBit_5 (by omega) ?_
  exact J_lret C hr dX0_wrongBit_6 (()) (by rw [Nat.one_mul]) (rfl)

set_option maxHeartbeats 4000000 in
set_option maxRecDepth 100000 in
theorem kX0_length (ll : Launch) (Y : GY) (o : Nat) (r : Nat) (L : List Nat) (f : Nat → Int64) (hL : L.length ≤ 5040) : CT ll yX0_length wsX0_length { frames := 1, cells := 0, slots := 0, locals := 21 } Y [.ref o] [oB o 0 [.ref r, .int (nI L.length), .long (lN (andL L)), .long (lN (orL L))], aJ Y r 5040 f] (QI Y (fun (r : Int32) (_ : Unit) => r = nI L.length) (fun _ => [oB o 0 [.ref r, .int (nI L.length), .long (lN (andL L)), .long (lN (orL L))], aJ Y r 5040 f])) 0 0 := by
  refine CT_of (cc := cX0_length) (maxL := 1) (ret := (some .int)) (by decide) rfl (Nat.le_of_ble_eq_true rfl) ?_
  intro pp ee ss mm bl mt cc AA C hr hnm
  have w0 := C.t _ (List.mem_of_getElem? (i := 1) (show wsX0_length[1]? = some (Cond.fieldLink RX0 21 "SecretDinner$Deals" "count" "I") from rfl))
  have w1 := C.t _ (List.mem_of_getElem? (i := 2) (show wsX0_length[2]? = some (Cond.fieldLink RX0 9 "SecretDinner$Deals" "row" "[J") from rfl))
  have w2 := C.t _ (List.mem_of_getElem? (i := 3) (show wsX0_length[3]? = some (Cond.methodLink RX0 54 Lib.Math.min.name) from rfl))
  have w3 := C.t _ (List.mem_of_getElem? (i := 4) (show wsX0_length[4]? = some (Cond.static Lib.Math.min.name) from rfl))
  have w4 := C.t _ (List.mem_of_getElem? (i := 5) (show wsX0_length[5]? = some (Cond.initialized "java/lang/Math") from rfl))
  have w5 := C.t _ (List.mem_of_getElem? (i := 6) (show wsX0_length[6]? = some (Cond.code Lib.Math.min.name Lib.Math.min.code 2 (some .int)) from rfl))
  have i0 : ∀ w ∈ wsX00, w ∈ wsX0_length := inPlaces [7, 8, 9, 10] (by decide +kernel)
  refine J_eq (lv' := [(0, .ref o)]) (ws' := [oB o 0 [.ref r, .int (nI L.length), .long (lN (andL L)), .long (lN (orL L))], aJ Y r 5040 f]) rfl rfl rfl rfl ?_
  refine J_aload_n C dX0_length_0 rfl 0 rfl ?_
  refine J_get (ci := 0) C i0 rfl 1 (by decide) w0 rfl 0 rfl rfl dX0_length_1 ?_
  refine J_aload_n C dX0_length_4 rfl 0 rfl ?_
  refine J_get (ci := 0) C i0 rfl 0 (by decide) w1 rfl 0 rfl rfl dX0_length_5 ?_
  refine J_alenJ C 1 rfl dX0_length_8 ?_
  refine J_mminN C w2 w3 w4 w5 (Nat.le_of_ble_eq_true rfl) (Nat.le_of_ble_eq_true rfl) (Nat.le_of_ble_eq_true rfl) (Nat.le_of_ble_eq_true rfl) (by omega) (by omega) dX0_length_9 ?_
  exact J_iret C hr dX0_length_12 (()) (by rw [show Nat.min L.length 5040 = L.length from Nat.min_eq_left hL]) (rfl)

set_option maxHeartbeats 4000000 in
set_option maxRecDepth 100000 in
theorem kX0_empty (ll : Launch) (Y : GY) (o : Nat) (r : Nat) (L : List Nat) (f : Nat → Int64) (hL : L.length ≤ 5040) : CT ll yX0_empty wsX0_empty { frames := 2, cells := 0, slots := 0, locals := 41 } Y [.ref o] [oB o 0 [.ref r, .int (nI L.length), .long (lN (andL L)), .long (lN (orL L))], aJ Y r 5040 f] (QI Y (fun (r : Int32) (_ : Unit) => r = nI L.length) (fun _ => [oB o 0 [.ref r, .int (nI ((([] : List Nat)).length)), .long (lN (andL (([] : List Nat)))), .long (lN (orL (([] : List Nat))))], aJ Y r 5040 f])) 0 0 := by
  refine CT_of (cc := cX0_empty) (maxL := 2) (ret := (some .int)) (by decide) rfl (Nat.le_of_ble_eq_true rfl) ?_
  intro pp ee ss mm bl mt cc AA C hr hnm
  have w0 := C.t _ (List.mem_of_getElem? (i := 1) (show wsX0_empty[1]? = some (Cond.fieldLink RX0 21 "SecretDinner$Deals" "count" "I") from rfl))
  have w1 := C.t _ (List.mem_of_getElem? (i := 2) (show wsX0_empty[2]? = some (Cond.constantLong RX0 15 (-1)) from rfl))
  have w2 := C.t _ (List.mem_of_getElem? (i := 3) (show wsX0_empty[3]? = some (Cond.fieldLink RX0 17 "SecretDinner$Deals" "inAll" "J") from rfl))
  have w3 := C.t _ (List.mem_of_getElem? (i := 4) (show wsX0_empty[4]? = some (Cond.fieldLink RX0 51 "SecretDinner$Deals" "inSome" "J") from rfl))
  have i0 : ∀ w ∈ wsX00, w ∈ wsX0_empty := inPlaces [15, 16, 17, 18] (by decide +kernel)
  refine J_eq (lv' := [(0, .ref o)]) (ws' := [oB o 0 [.ref r, .int (nI L.length), .long (lN (andL L)), .long (lN (orL L))], aJ Y r 5040 f]) rfl rfl rfl rfl ?_
  refine J_aload_n C dX0_empty_0 rfl 0 rfl ?_
  refine J_callI (wr := []) C (R_V (st := []) (wc := [oB o 0 [.ref r, .int (nI L.length), .long (lN (andL L)), .long (lN (orL L))], aJ Y r 5040 f]) C (kX0_length ll Y o r L f (by first | assumption | omega)) (cwV 0 C.t gX0_empty_X0_length rfl rfl rfl (by decide +kernel) ⟨by decide, by decide⟩) rfl [0, 1] rfl (by decide) ⟨0, 0, _, _, rfl, rfl, rfl⟩ rfl (Nat.le_of_ble_eq_true rfl) dX0_empty_1 ⟨Nat.le_of_ble_eq_true rfl, Nat.le_of_ble_eq_true rfl⟩) [0, 1] [] rfl rfl (by decide) (by decide) (fun r1 u1 hw1 => ?_)
  subst hw1
  refine J_eq (pc' := 4) (lv' := [(0, .ref o)]) (st' := [.int (nI L.length)]) (ws' := [oB o 0 [.ref r, .int (nI L.length), .long (lN (andL L)), .long (lN (orL L))], aJ Y r 5040 f]) rfl rfl rfl rfl ?_
  refine J_istore_n (lv' := [(1, .int (nI L.length)), (0, .ref o)]) C dX0_empty_4 rfl (by decide) rfl ?_
  refine J_aload_n C dX0_empty_5 rfl 1 rfl ?_
  refine J_iconst C dX0_empty_6 (v := nI 0) (by decide) ?_
  refine J_put (ci := 0) (ty := .int) (ws' := [oB o 0 [.ref r, .int (nI 0), .long (lN (andL L)), .long (lN (orL L))], aJ Y r 5040 f]) C i0 tyX0 tyX0_ok nmX0 rfl 1 (by decide) w0 rfl rfl (by decide +kernel) (rfl) (rfl) 0 rfl (Nat.le_of_ble_eq_true rfl) dX0_empty_7 rfl ?_
  refine J_aload_n C dX0_empty_10 rfl 1 rfl ?_
  refine J_ldc2 C dX0_empty_11 (v := lN 18446744073709551615) w1 ?_
  refine J_put (ci := 0) (ty := .long) (ws' := [oB o 0 [.ref r, .int (nI 0), .long (lN 18446744073709551615), .long (lN (orL L))], aJ Y r 5040 f]) C i0 tyX0 tyX0_ok nmX0 rfl 2 (by decide) w2 rfl rfl (by decide +kernel) (rfl) (rfl) 0 rfl (Nat.le_of_ble_eq_true rfl) dX0_empty_14 rfl ?_
  refine J_aload_n C dX0_empty_17 rfl 1 rfl ?_
  refine J_lconst C dX0_empty_18 (v := lN 0) rfl ?_
  refine J_put (ci := 0) (ty := .long) (ws' := [oB o 0 [.ref r, .int (nI 0), .long (lN 18446744073709551615), .long (lN 0)], aJ Y r 5040 f]) C i0 tyX0 tyX0_ok nmX0 rfl 3 (by decide) w3 rfl rfl (by decide +kernel) (rfl) (rfl) 0 rfl (Nat.le_of_ble_eq_true rfl) dX0_empty_19 rfl ?_
  refine J_iload_n C dX0_empty_22 rfl 0 rfl ?_
  exact J_iret C hr dX0_empty_23 (()) (rfl) (rfl)

set_option maxHeartbeats 4000000 in
set_option maxRecDepth 100000 in
theorem kX0_add (ll : Launch) (Y : GY) (o : Nat) (r : Nat) (L : List Nat) (f : Nat → Int64) (d : Nat) (hL : L.length < 5040) : CT ll yX0_add wsX0_add { frames := 0, cells := 0, slots := 0, locals := 0 } Y [.ref o, .long (lN d)] [oB o 0 [.ref r, .int (nI L.length), .long (lN (andL L)), .long (lN (orL L))], aJ Y r 5040 f] (QV Y (fun (_ : Unit) => True) (fun _ => [oB o 0 [.ref r, .int (nI ((L ++ [d]).length)), .long (lN (andL (L ++ [d]))), .long (lN (orL (L ++ [d])))], aJ Y r 5040 (vp_updL f L.length (lN d))])) 0 0 := by
  refine CT_of (cc := cX0_add) (maxL := 3) (ret := none) (by decide) rfl (Nat.le_of_ble_eq_true rfl) ?_
  intro pp ee ss mm bl mt cc AA C hr hnm
  have w0 := C.t _ (List.mem_of_getElem? (i := 1) (show wsX0_add[1]? = some (Cond.fieldLink RX0 21 "SecretDinner$Deals" "count" "I") from rfl))
  have w1 := C.t _ (List.mem_of_getElem? (i := 2) (show wsX0_add[2]? = some (Cond.fieldLink RX0 9 "SecretDinner$Deals" "row" "[J") from rfl))
  have w2 := C.t _ (List.mem_of_getElem? (i := 3) (show wsX0_add[3]? = some (Cond.fieldLink RX0 17 "SecretDinner$Deals" "inAll" "J") from rfl))
  have w3 := C.t _ (List.mem_of_getElem? (i := 4) (show wsX0_add[4]? = some (Cond.fieldLink RX0 51 "SecretDinner$Deals" "inSome" "J") from rfl))
  have i0 : ∀ w ∈ wsX00, w ∈ wsX0_add := inPlaces [5, 6, 7, 8] (by decide +kernel)
  refine J_eq (lv' := [(0, .ref o), (1, .long (lN d))]) (ws' := [oB o 0 [.ref r, .int (nI L.length), .long (lN (andL L)), .long (lN (orL L))], aJ Y r 5040 f]) rfl rfl rfl rfl ?_
  refine J_aload_n C dX0_add_0 rfl 0 rfl ?_
  refine J_get (ci := 0) C i0 rfl 1 (by decide) w0 rfl 0 rfl rfl dX0_add_1 ?_
  refine J_if_ltN (tgt := 59) C dX0_add_4 (by decide) (by omega) ?_
  refine J_aload_n C dX0_add_7 rfl 0 rfl ?_
  refine J_get (ci := 0) C i0 rfl 1 (by decide) w0 rfl 0 rfl rfl dX0_add_8 ?_
  refine J_aload_n C dX0_add_11 rfl 0 rfl ?_
  refine J_get (ci := 0) C i0 rfl 0 (by decide) w1 rfl 0 rfl rfl dX0_add_12 ?_
  refine J_alenJ C 1 rfl dX0_add_15 ?_
  refine J_icmp_geN (tgt := 59) C dX0_add_16 (by decide) (by omega) (by omega) (fun cq16 => ?_) (fun cq16 => ?_)
  · exact absurd cq16 (by omega)
  · refine J_aload_n C dX0_add_19 rfl 0 rfl ?_
    refine J_get (ci := 0) C i0 rfl 0 (by decide) w1 rfl 0 rfl rfl dX0_add_20 ?_
    refine J_aload_n C dX0_add_23 rfl 0 rfl ?_
    refine J_get (ci := 0) C i0 rfl 1 (by decide) w0 rfl 0 rfl rfl dX0_add_24 ?_
    refine J_lload_n C dX0_add_27 rfl 1 rfl ?_
    refine J_lastN (ws' := [oB o 0 [.ref r, .int (nI L.length), .long (lN (andL L)), .long (lN (orL L))], aJ Y r 5040 (vp_updL f L.length (lN d))]) C 1 rfl (by omega) (by omega) dX0_add_28 rfl ?_
    refine J_aload_n C dX0_add_29 rfl 0 rfl ?_
    refine J_dup C dX0_add_30 rfl ?_
    refine J_get (ci := 0) C i0 rfl 1 (by decide) w0 rfl 0 rfl rfl dX0_add_31 ?_
    refine J_iconst C dX0_add_34 (v := nI 1) (by decide) ?_
    refine J_iaddN C dX0_add_35 ?_
    refine J_put (ci := 0) (ty := .int) (ws' := [oB o 0 [.ref r, .int (nI (L.length + 1)), .long (lN (andL L)), .long (lN (orL L))], aJ Y r 5040 (vp_updL f L.length (lN d))]) C i0 tyX0 tyX0_ok nmX0 rfl 1 (by decide) w0 rfl rfl (by decide +kernel) (rfl) (rfl) 0 rfl (Nat.le_of_ble_eq_true rfl) dX0_add_36 rfl ?_
    refine J_aload_n C dX0_add_39 rfl 0 rfl ?_
    refine J_dup C dX0_add_40 rfl ?_
    refine J_get (ci := 0) C i0 rfl 2 (by decide) w2 rfl 0 rfl rfl dX0_add_41 ?_
    refine J_lload_n C dX0_add_44 rfl 1 rfl ?_
    refine J_landN C dX0_add_45 ?_
    refine J_put (ci := 0) (ty := .long) (ws' := [oB o 0 [.ref r, .int (nI (L.length + 1)), .long (lN ((andL L) &&& d)), .long (lN (orL L))], aJ Y r 5040 (vp_updL f L.length (lN d))]) C i0 tyX0 tyX0_ok nmX0 rfl 2 (by decide) w2 rfl rfl (by decide +kernel) (rfl) (rfl) 0 rfl (Nat.le_of_ble_eq_true rfl) dX0_add_46 rfl ?_
    refine J_aload_n C dX0_add_49 rfl 0 rfl ?_
    refine J_dup C dX0_add_50 rfl ?_
    refine J_get (ci := 0) C i0 rfl 3 (by decide) w3 rfl 0 rfl rfl dX0_add_51 ?_
    refine J_lload_n C dX0_add_54 rfl 1 rfl ?_
    refine J_lorN C dX0_add_55 ?_
    refine J_put (ci := 0) (ty := .long) (ws' := [oB o 0 [.ref r, .int (nI (L.length + 1)), .long (lN ((andL L) &&& d)), .long (lN ((orL L) ||| d))], aJ Y r 5040 (vp_updL f L.length (lN d))]) C i0 tyX0 tyX0_ok nmX0 rfl 3 (by decide) w3 rfl rfl (by decide +kernel) (rfl) (rfl) 0 rfl (Nat.le_of_ble_eq_true rfl) dX0_add_56 rfl ?_
    exact J_vret C hr dX0_add_59 (()) (trivial) (by rw [len_add, andL_add, orL_add])

set_option maxHeartbeats 4000000 in
set_option maxRecDepth 100000 in
theorem kX0_countWith (ll : Launch) (Y : GY) (o : Nat) (r : Nat) (L : List Nat) (f : Nat → Int64) (q : Nat) (c0 : Nat) (hL : L.length ≤ 5040) (hr2 : DRep L f) (hq : q ≤ 4) (hc : c0 ≤ 7) : CT ll yX0_countWith wsX0_countWith { frames := 2, cells := 0, slots := 0, locals := 41 } Y [.ref o, .int (nI q), .int (nI c0)] [oB o 0 [.ref r, .int (nI L.length), .long (lN (andL L)), .long (lN (orL L))], aJ Y r 5040 f] (QI Y (fun (r : Int32) (_ : Unit) => r = nI (L.countP (fun d => d.testBit (8 * q + c0)))) (fun _ => [oB o 0 [.ref r, .int (nI L.length), .long (lN (andL L)), .long (lN (orL L))], aJ Y r 5040 f])) 0 0 := by
  refine CT_of (cc := cX0_countWith) (maxL := 8) (ret := (some .int)) (by decide) rfl (Nat.le_of_ble_eq_true rfl) ?_
  intro pp ee ss mm bl mt cc AA C hr hnm
  have w0 := C.t _ (List.mem_of_getElem? (i := 1) (show wsX0_countWith[1]? = some (Cond.fieldLink RX0 9 "SecretDinner$Deals" "row" "[J") from rfl))
  have i0 : ∀ w ∈ wsX00, w ∈ wsX0_countWith := inPlaces [15, 16, 17, 18] (by decide +kernel)
  refine J_eq (lv' := [(0, .ref o), (1, .int (nI q)), (2, .int (nI c0))]) (ws' := [oB o 0 [.ref r, .int (nI L.length), .long (lN (andL L)), .long (lN (orL L))], aJ Y r 5040 f]) rfl rfl rfl rfl ?_
  refine J_iload_n C dX0_countWith_0 rfl 1 rfl ?_
  refine J_iload_n C dX0_countWith_1 rfl 2 rfl ?_
  refine J_callL (wr := [oB o 0 [.ref r, .int (nI L.length), .long (lN (andL L)), .long (lN (orL L))], aJ Y r 5040 f]) C (R_S (st := []) (wc := []) C (kX0_cardBit ll Y q c0 (by first | assumption | omega) (by first | assumption | omega)) (va_cwS 2 C.t gX0_countWith_X0_cardBit rfl rfl rfl (by decide +kernel) ⟨by decide, by decide⟩) rfl [] rfl (by decide) rfl (Nat.le_of_ble_eq_true rfl) dX0_countWith_2 ⟨Nat.le_of_ble_eq_true rfl, Nat.le_of_ble_eq_true rfl⟩) [] [0, 1] rfl rfl (by decide) (by decide) (fun r2 u2 hw2 => ?_)
  subst hw2
  refine J_eq (pc' := 5) (lv' := [(0, .ref o), (1, .int (nI q)), (2, .int (nI c0))]) (st' := [.long (lN (2 ^ (8 * q + c0)))]) (ws' := [oB o 0 [.ref r, .int (nI L.length), .long (lN (andL L)), .long (lN (orL L))], aJ Y r 5040 f]) rfl rfl rfl rfl ?_
  refine J_lstore_n (lv' := [(3, .long (lN (2 ^ (8 * q + c0)))), (0, .ref o), (1, .int (nI q)), (2, .int (nI c0))]) C dX0_countWith_5 rfl (by decide) rfl ?_
  refine J_iconst C dX0_countWith_6 (v := nI 0) (by decide) ?_
  refine J_istore (lv' := [(5, .int (nI 0)), (3, .long (lN (2 ^ (8 * q + c0)))), (0, .ref o), (1, .int (nI q)), (2, .int (nI c0))]) C dX0_countWith_7 (by decide) rfl ?_
  refine J_aload_n C dX0_countWith_9 rfl 2 rfl ?_
  refine J_callI (wr := []) C (R_V (st := []) (wc := [oB o 0 [.ref r, .int (nI L.length), .long (lN (andL L)), .long (lN (orL L))], aJ Y r 5040 f]) C (kX0_length ll Y o r L f (by first | assumption | omega)) (cwV 0 C.t gX0_countWith_X0_length rfl rfl rfl (by decide +kernel) ⟨by decide, by decide⟩) rfl [0, 1] rfl (by decide) ⟨0, 0, _, _, rfl, rfl, rfl⟩ rfl (Nat.le_of_ble_eq_true rfl) dX0_countWith_10 ⟨Nat.le_of_ble_eq_true rfl, Nat.le_of_ble_eq_true rfl⟩) [0, 1] [] rfl rfl (by decide) (by decide) (fun r10 u10 hw10 => ?_)
  subst hw10
  refine J_eq (pc' := 13) (lv' := [(5, .int (nI 0)), (3, .long (lN (2 ^ (8 * q + c0)))), (0, .ref o), (1, .int (nI q)), (2, .int (nI c0))]) (st' := [.int (nI L.length)]) (ws' := [oB o 0 [.ref r, .int (nI L.length), .long (lN (andL L)), .long (lN (orL L))], aJ Y r 5040 f]) rfl rfl rfl rfl ?_
  refine J_istore (lv' := [(6, .int (nI L.length)), (5, .int (nI 0)), (3, .long (lN (2 ^ (8 * q + c0)))), (0, .ref o), (1, .int (nI q)), (2, .int (nI c0))]) C dX0_countWith_13 (by decide) rfl ?_
  refine J_iconst C dX0_countWith_15 (v := nI 0) (by decide) ?_
  refine J_istore (lv' := [(7, .int (nI 0)), (6, .int (nI L.length)), (5, .int (nI 0)), (3, .long (lN (2 ^ (8 * q + c0)))), (0, .ref o), (1, .int (nI q)), (2, .int (nI c0))]) C dX0_countWith_16 (by decide) rfl ?_
  refine J_lv (lv' := [(0, .ref o), (1, .int (nI q)), (2, .int (nI c0)), (3, .long (lN (2 ^ (8 * q + c0)))), (5, .int (nI 0)), (6, .int (nI L.length)), (7, .int (nI 0))]) [4, 5, 6, 3, 2, 1, 0] rfl ?_
  refine J_loop (σ := Nat) (I := fun (i : Nat) => (i ≤ L.length)) (μ := fun (i : Nat) => L.length - i) (lvf := fun (i : Nat) => [(0, .ref o), (1, .int (nI q)), (2, .int (nI c0)), (3, .long (lN (2 ^ (8 * q + c0)))), (5, .int (nI (cwN L (8 * q + c0) i))), (6, .int (nI L.length)), (7, .int (nI i))]) (stf := fun (i : Nat) => []) (wsf := fun (i : Nat) => [oB o 0 [.ref r, .int (nI L.length), .long (lN (andL L)), .long (lN (orL L))], aJ Y r 5040 f]) ?_ (0) (by omega) (rfl) rfl (rfl)
  rintro i hi ih18
  refine J_eq (lv' := [(0, .ref o), (1, .int (nI q)), (2, .int (nI c0)), (3, .long (lN (2 ^ (8 * q + c0)))), (5, .int (nI (cwN L (8 * q + c0) i))), (6, .int (nI L.length)), (7, .int (nI i))]) (st' := []) (ws' := [oB o 0 [.ref r, .int (nI L.length), .long (lN (andL L)), .long (lN (orL L))], aJ Y r 5040 f]) rfl rfl rfl rfl ?_
  refine J_iload C dX0_countWith_18 6 rfl ?_
  refine J_iload C dX0_countWith_20 5 rfl ?_
  refine J_icmp_geN (tgt := 48) C dX0_countWith_22 (by decide) (by omega) (by omega) (fun cq22 => ?_) (fun cq22 => ?_)
  · refine J_iload C dX0_countWith_48 4 rfl ?_
    exact J_iret C hr dX0_countWith_50 (()) (by rw [show i = L.length from by omega]; simp [cwN]) (rfl)
  · refine J_aload_n C dX0_countWith_25 rfl 0 rfl ?_
    refine J_get (ci := 0) C i0 rfl 0 (by decide) w0 rfl 0 rfl rfl dX0_countWith_26 ?_
    refine J_iload C dX0_countWith_29 6 rfl ?_
    refine J_laldN C 1 rfl (by omega) (by omega) dX0_countWith_31 ?_
    refine J_top (y := .long (lN (L.getD i 0))) (by rw [hr2 i (by omega)]) ?_
    refine J_lload_n C dX0_countWith_32 rfl 3 rfl ?_
    refine J_landN C dX0_countWith_33 ?_
    refine J_lconst C dX0_countWith_34 (v := lN 0) rfl ?_
    refine J_lcmp C dX0_countWith_35 ?_
    refine J_if_eqL (tgt := 42) C dX0_countWith_36 (by decide) (and_p2 _ (by omega)) (by decide) (fun cq36 => ?_) (fun cq36 => ?_)
    · refine J_iinc (j := 6) (v := nI (i + 1)) (lv' := [(7, .int (nI (i + 1))), (0, .ref o), (1, .int (nI q)), (2, .int (nI c0)), (3, .long (lN (2 ^ (8 * q + c0)))), (5, .int (nI (cwN L (8 * q + c0) i))), (6, .int (nI L.length))]) C dX0_countWith_42 rfl (nI_1 _) (by decide) rfl ?_
      refine J_goto (tgt := 18) C dX0_countWith_45 (by decide) ?_
      refine J_lv (lv' := [(0, .ref o), (1, .int (nI q)), (2, .int (nI c0)), (3, .long (lN (2 ^ (8 * q + c0)))), (5, .int (nI (cwN L (8 * q + c0) i))), (6, .int (nI L.length)), (7, .int (nI (i + 1)))]) [1, 2, 3, 4, 5, 6, 0] rfl ?_
      rw [← cwN_f (by omega) cq36]
      exact ih18 (i + 1) (by omega) (show L.length - (i + 1) < L.length - i from by omega)
    · refine J_iinc (j := 4) (v := nI (cwN L (8 * q + c0) i + 1)) (lv' := [(5, .int (nI (cwN L (8 * q + c0) i + 1))), (0, .ref o), (1, .int (nI q)), (2, .int (nI c0)), (3, .long (lN (2 ^ (8 * q + c0)))), (6, .int (nI L.length)), (7, .int (nI i))]) C dX0_countWith_39 rfl (nI_1 _) (by decide) rfl ?_
      refine J_iinc (j := 6) (v := nI (i + 1)) (lv' := [(7, .int (nI (i + 1))), (5, .int (nI (cwN L (8 * q + c0) i + 1))), (0, .ref o), (1, .int (nI q)), (2, .int (nI c0)), (3, .long (lN (2 ^ (8 * q + c0)))), (6, .int (nI L.length))]) C dX0_countWith_42 rfl (nI_1 _) (by decide) rfl ?_
      refine J_goto (tgt := 18) C dX0_countWith_45 (by decide) ?_
      refine J_lv (lv' := [(0, .ref o), (1, .int (nI q)), (2, .int (nI c0)), (3, .long (lN (2 ^ (8 * q + c0)))), (5, .int (nI (cwN L (8 * q + c0) i + 1))), (6, .int (nI L.length)), (7, .int (nI (i + 1)))]) [2, 3, 4, 5, 1, 6, 0] rfl ?_
      rw [← cwN_t (by omega) cq36]
      exact ih18 (i + 1) (by omega) (show L.length - (i + 1) < L.length - i from by omega)

set_option maxHeartbeats 4000000 in
set_option maxRecDepth 100000 in
theorem kX0_keepProved (ll : Launch) (Y : GY) (o : Nat) (r : Nat) (L : List Nat) (f : Nat → Int64) (g : Nat) (c0 : Nat) (Hp : Prop) [Decidable Hp] (hL : L.length ≤ 5040) (hr2 : DRep L f) (hg0 : g ≤ 3) (hc : c0 ≤ 7) : CT ll yX0_keepProved wsX0_keepProved { frames := 3, cells := 0, slots := 0, locals := 62 } Y [.ref o, .int (nI g), .int (nI c0), .int (p2i (Hp))] [oB o 0 [.ref r, .int (nI L.length), .long (lN (andL L)), .long (lN (orL L))], aJ Y r 5040 f] (QV (S := Nat → Int64) Y (fun u => DRep (L.filterMap (stP (8 * g + c0) (decide Hp))) u) (fun u => [oB o 0 [.ref r, .int (nI ((L.filterMap (stP (8 * g + c0) (decide Hp))).length)), .long (lN (andL (L.filterMap (stP (8 * g + c0) (decide Hp))))), .long (lN (orL (L.filterMap (stP (8 * g + c0) (decide Hp)))))], aJ Y r 5040 u])) 0 0 := by
  refine CT_of (cc := cX0_keepProved) (maxL := 8) (ret := none) (by decide) rfl (Nat.le_of_ble_eq_true rfl) ?_
  intro pp ee ss mm bl mt cc AA C hr hnm
  have w0 := C.t _ (List.mem_of_getElem? (i := 1) (show wsX0_keepProved[1]? = some (Cond.fieldLink RX0 9 "SecretDinner$Deals" "row" "[J") from rfl))
  have i0 : ∀ w ∈ wsX00, w ∈ wsX0_keepProved := inPlaces [26, 27, 28, 29] (by decide +kernel)
  refine J_eq (lv' := [(0, .ref o), (1, .int (nI g)), (2, .int (nI c0)), (3, .int (p2i (Hp)))]) (ws' := [oB o 0 [.ref r, .int (nI L.length), .long (lN (andL L)), .long (lN (orL L))], aJ Y r 5040 f]) rfl rfl rfl rfl ?_
  refine J_iload_n C dX0_keepProved_0 rfl 1 rfl ?_
  refine J_iload_n C dX0_keepProved_1 rfl 2 rfl ?_
  refine J_callL (wr := [oB o 0 [.ref r, .int (nI L.length), .long (lN (andL L)), .long (lN (orL L))], aJ Y r 5040 f]) C (R_S (st := []) (wc := []) C (kX0_cardBit ll Y g c0 (by first | assumption | omega) (by first | assumption | omega)) (va_cwS 2 C.t gX0_keepProved_X0_cardBit rfl rfl rfl (by decide +kernel) ⟨by decide, by decide⟩) rfl [] rfl (by decide) rfl (Nat.le_of_ble_eq_true rfl) dX0_keepProved_2 ⟨Nat.le_of_ble_eq_true rfl, Nat.le_of_ble_eq_true rfl⟩) [] [0, 1] rfl rfl (by decide) (by decide) (fun r2 u2 hw2 => ?_)
  subst hw2
  refine J_eq (pc' := 5) (lv' := [(0, .ref o), (1, .int (nI g)), (2, .int (nI c0)), (3, .int (p2i (Hp)))]) (st' := [.long (lN (2 ^ (8 * g + c0)))]) (ws' := [oB o 0 [.ref r, .int (nI L.length), .long (lN (andL L)), .long (lN (orL L))], aJ Y r 5040 f]) rfl rfl rfl rfl ?_
  refine J_lstore (lv' := [(4, .long (lN (2 ^ (8 * g + c0)))), (0, .ref o), (1, .int (nI g)), (2, .int (nI c0)), (3, .int (p2i (Hp)))]) C dX0_keepProved_5 (by decide) rfl ?_
  refine J_aload_n C dX0_keepProved_7 rfl 1 rfl ?_
  refine J_callI (wr := []) C (R_V (st := []) (wc := [oB o 0 [.ref r, .int (nI L.length), .long (lN (andL L)), .long (lN (orL L))], aJ Y r 5040 f]) C (kX0_empty ll Y o r L f (by first | assumption | omega)) (cwV 0 C.t gX0_keepProved_X0_empty rfl rfl rfl (by decide +kernel) ⟨by decide, by decide⟩) rfl [0, 1] rfl (by decide) ⟨0, 0, _, _, rfl, rfl, rfl⟩ rfl (Nat.le_of_ble_eq_true rfl) dX0_keepProved_8 ⟨Nat.le_of_ble_eq_true rfl, Nat.le_of_ble_eq_true rfl⟩) [0, 1] [] rfl rfl (by decide) (by decide) (fun r8 u8 hw8 => ?_)
  subst hw8
  refine J_eq (pc' := 11) (lv' := [(4, .long (lN (2 ^ (8 * g + c0)))), (0, .ref o), (1, .int (nI g)), (2, .int (nI c0)), (3, .int (p2i (Hp)))]) (st' := [.int (nI L.length)]) (ws' := [oB o 0 [.ref r, .int (nI ((([] : List Nat)).length)), .long (lN (andL (([] : List Nat)))), .long (lN (orL (([] : List Nat))))], aJ Y r 5040 f]) rfl rfl rfl rfl ?_
  refine J_istore (lv' := [(6, .int (nI L.length)), (4, .long (lN (2 ^ (8 * g + c0)))), (0, .ref o), (1, .int (nI g)), (2, .int (nI c0)), (3, .int (p2i (Hp)))]) C dX0_keepProved_11 (by decide) rfl ?_
  refine J_iconst C dX0_keepProved_13 (v := nI 0) (by decide) ?_
  refine J_istore (lv' := [(7, .int (nI 0)), (6, .int (nI L.length)), (4, .long (lN (2 ^ (8 * g + c0)))), (0, .ref o), (1, .int (nI g)), (2, .int (nI c0)), (3, .int (p2i (Hp)))]) C dX0_keepProved_14 (by decide) rfl ?_
  refine J_lv (lv' := [(0, .ref o), (1, .int (nI g)), (2, .int (nI c0)), (3, .int (p2i (Hp))), (4, .long (lN (2 ^ (8 * g + c0)))), (6, .int (nI L.length)), (7, .int (nI 0))]) [3, 4, 5, 6, 2, 1, 0] rfl ?_
  refine J_loop (σ := Nat × (Nat → Int64)) (I := fun (i, gf) => (i ≤ L.length) ∧ (DRep (fmN (stP (8 * g + c0) (decide Hp)) L i) gf) ∧ (∀ j, i ≤ j → gf j = f j)) (μ := fun (i, gf) => L.length - i) (lvf := fun (i, gf) => [(0, .ref o), (1, .int (nI g)), (2, .int (nI c0)), (3, .int (p2i (Hp))), (4, .long (lN (2 ^ (8 * g + c0)))), (6, .int (nI L.length)), (7, .int (nI i))]) (stf := fun (i, gf) => []) (wsf := fun (i, gf) => [oB o 0 [.ref r, .int (nI ((fmN (stP (8 * g + c0) (decide Hp)) L i).length)), .long (lN (andL (fmN (stP (8 * g + c0) (decide Hp)) L i))), .long (lN (orL (fmN (stP (8 * g + c0) (decide Hp)) L i)))], aJ Y r 5040 gf]) ?_ (0, f) ⟨(by omega), (DRep_nil f), (fun _ _ => rfl)⟩ (rfl) rfl (rfl)
  rintro ⟨i, gf⟩ ⟨hi, hg, hgf⟩ ih16
  refine J_eq (lv' := [(0, .ref o), (1, .int (nI g)), (2, .int (nI c0)), (3, .int (p2i (Hp))), (4, .long (lN (2 ^ (8 * g + c0)))), (6, .int (nI L.length)), (7, .int (nI i))]) (st' := []) (ws' := [oB o 0 [.ref r, .int (nI ((fmN (stP (8 * g + c0) (decide Hp)) L i).length)), .long (lN (andL (fmN (stP (8 * g + c0) (decide Hp)) L i))), .long (lN (orL (fmN (stP (8 * g + c0) (decide Hp)) L i)))], aJ Y r 5040 gf]) rfl rfl rfl rfl ?_
  refine J_iload C dX0_keepProved_16 6 rfl ?_
  refine J_iload C dX0_keepProved_18 5 rfl ?_
  refine J_icmp_geN (tgt := 64) C dX0_keepProved_20 (by decide) (by omega) (by omega) (fun cq20 => ?_) (fun cq20 => ?_)
  · exact J_vret C hr dX0_keepProved_64 gf (by have e := hg; rw [show i = L.length from by omega] at e; simpa [fmN] using e) (by rw [show i = L.length from by omega]; simp [fmN])
  · refine J_aload_n C dX0_keepProved_23 rfl 0 rfl ?_
    refine J_get (ci := 0) C i0 rfl 0 (by decide) w0 rfl 0 rfl rfl dX0_keepProved_24 ?_
    refine J_iload C dX0_keepProved_27 6 rfl ?_
    refine J_laldN C 1 rfl (by omega) (by omega) dX0_keepProved_29 ?_
    refine J_top (y := .long (lN (L.getD i 0))) (by rw [hgf i (by omega), hr2 i (by omega)]) ?_
    refine J_lload C dX0_keepProved_30 4 rfl ?_
    refine J_landN C dX0_keepProved_32 ?_
    refine J_lconst C dX0_keepProved_33 (v := lN 0) rfl ?_
    refine J_lcmp C dX0_keepProved_34 ?_
    refine J_if_eqL (tgt := 42) C dX0_keepProved_35 (by decide) (and_p2 _ (by omega)) (by decide) (fun cq35 => ?_) (fun cq35 => ?_)
    · refine J_iconst C dX0_keepProved_42 (v := nI 0) (by decide) ?_
      refine J_iload_n C dX0_keepProved_43 rfl 3 rfl ?_
      refine J_icmp_ne0P (tgt := 58) C dX0_keepProved_44 (by decide) (fun cq44 => ?_) (fun cq44 => ?_)
      · refine J_iinc (j := 6) (v := nI (i + 1)) (lv' := [(7, .int (nI (i + 1))), (0, .ref o), (1, .int (nI g)), (2, .int (nI c0)), (3, .int (p2i (Hp))), (4, .long (lN (2 ^ (8 * g + c0)))), (6, .int (nI L.length))]) C dX0_keepProved_58 rfl (nI_1 _) (by decide) rfl ?_
        refine J_goto (tgt := 16) C dX0_keepProved_61 (by decide) ?_
        refine J_lv (lv' := [(0, .ref o), (1, .int (nI g)), (2, .int (nI c0)), (3, .int (p2i (Hp))), (4, .long (lN (2 ^ (8 * g + c0)))), (6, .int (nI L.length)), (7, .int (nI (i + 1)))]) [1, 2, 3, 4, 5, 6, 0] rfl ?_
        have hst := fmN_n (F := stP (8 * g + c0) (decide Hp)) (L := L) (i := i) (by omega) (by first | exact stP_d1 cq35 cq44 | exact stP_d0 cq35 cq44)
        rw [← hst]
        exact ih16 (i + 1, gf) ⟨(by omega), (by rw [hst]; exact hg), (fun j hj => hgf j (by omega))⟩ (show L.length - (i + 1) < L.length - i from by omega)
      · refine J_aload_n C dX0_keepProved_47 rfl 0 rfl ?_
        refine J_aload_n C dX0_keepProved_48 rfl 0 rfl ?_
        refine J_get (ci := 0) C i0 rfl 0 (by decide) w0 rfl 0 rfl rfl dX0_keepProved_49 ?_
        refine J_iload C dX0_keepProved_52 6 rfl ?_
        refine J_laldN C 1 rfl (by omega) (by omega) dX0_keepProved_54 ?_
        refine J_top (y := .long (lN (L.getD i 0))) (by rw [hgf i (by omega), hr2 i (by omega)]) ?_
        refine J_callV (wr := []) C (R_V (st := []) (wc := [oB o 0 [.ref r, .int (nI ((fmN (stP (8 * g + c0) (decide Hp)) L i).length)), .long (lN (andL (fmN (stP (8 * g + c0) (decide Hp)) L i))), .long (lN (orL (fmN (stP (8 * g + c0) (decide Hp)) L i)))], aJ Y r 5040 gf]) C (kX0_add ll Y o r (fmN (stP (8 * g + c0) (decide Hp)) L i) gf (L.getD i 0) (Nat.lt_of_le_of_lt (fmN_le _ _ _) (by omega))) (cwV 1 C.t gX0_keepProved_X0_add rfl rfl rfl (by decide +kernel) ⟨by decide, by decide⟩) rfl [0, 1] rfl (by decide) ⟨0, 0, _, _, rfl, rfl, rfl⟩ rfl (Nat.le_of_ble_eq_true rfl) dX0_keepProved_55 ⟨Nat.le_of_ble_eq_true rfl, Nat.le_of_ble_eq_true rfl⟩) [0, 1] [] rfl rfl (by decide) (by decide) (fun u55 hw55 => ?_)
        refine J_eq (pc' := 58) (lv' := [(0, .ref o), (1, .int (nI g)), (2, .int (nI c0)), (3, .int (p2i (Hp))), (4, .long (lN (2 ^ (8 * g + c0)))), (6, .int (nI L.length)), (7, .int (nI i))]) (st' := []) (ws' := [oB o 0 [.ref r, .int (nI (((fmN (stP (8 * g + c0) (decide Hp)) L i) ++ [(L.getD i 0)]).length)), .long (lN (andL ((fmN (stP (8 * g + c0) (decide Hp)) L i) ++ [(L.getD i 0)]))), .long (lN (orL ((fmN (stP (8 * g + c0) (decide Hp)) L i) ++ [(L.getD i 0)])))], aJ Y r 5040 (vp_updL gf (fmN (stP (8 * g + c0) (decide Hp)) L i).length (lN (L.getD i 0)))]) rfl rfl rfl rfl ?_
        refine J_iinc (j := 6) (v := nI (i + 1)) (lv' := [(7, .int (nI (i + 1))), (0, .ref o), (1, .int (nI g)), (2, .int (nI c0)), (3, .int (p2i (Hp))), (4, .long (lN (2 ^ (8 * g + c0)))), (6, .int (nI L.length))]) C dX0_keepProved_58 rfl (nI_1 _) (by decide) rfl ?_
        refine J_goto (tgt := 16) C dX0_keepProved_61 (by decide) ?_
        refine J_lv (lv' := [(0, .ref o), (1, .int (nI g)), (2, .int (nI c0)), (3, .int (p2i (Hp))), (4, .long (lN (2 ^ (8 * g + c0)))), (6, .int (nI L.length)), (7, .int (nI (i + 1)))]) [1, 2, 3, 4, 5, 6, 0] rfl ?_
        have hst := fmN_s (F := stP (8 * g + c0) (decide Hp)) (L := L) (i := i) (by omega) (by first | exact stP_k1 cq35 cq44 | exact stP_k0 cq35 cq44)
        rw [← hst]
        exact ih16 (i + 1, vp_updL gf (fmN (stP (8 * g + c0) (decide Hp)) L i).length (lN (L.getD i 0))) ⟨(by omega), (by rw [hst]; exact DRep_add hg _), (fun j hj => (updL_ge (Nat.lt_of_le_of_lt (fmN_le _ _ _) (by omega))).trans (hgf j (by omega)))⟩ (show L.length - (i + 1) < L.length - i from by omega)
    · refine J_iconst C dX0_keepProved_38 (v := nI 1) (by decide) ?_
      refine J_goto (tgt := 43) C dX0_keepProved_39 (by decide) ?_
      refine J_iload_n C dX0_keepProved_43 rfl 3 rfl ?_
      refine J_icmp_ne1P (tgt := 58) C dX0_keepProved_44 (by decide) (fun cq44 => ?_) (fun cq44 => ?_)
      · refine J_iinc (j := 6) (v := nI (i + 1)) (lv' := [(7, .int (nI (i + 1))), (0, .ref o), (1, .int (nI g)), (2, .int (nI c0)), (3, .int (p2i (Hp))), (4, .long (lN (2 ^ (8 * g + c0)))), (6, .int (nI L.length))]) C dX0_keepProved_58 rfl (nI_1 _) (by decide) rfl ?_
        refine J_goto (tgt := 16) C dX0_keepProved_61 (by decide) ?_
        refine J_lv (lv' := [(0, .ref o), (1, .int (nI g)), (2, .int (nI c0)), (3, .int (p2i (Hp))), (4, .long (lN (2 ^ (8 * g + c0)))), (6, .int (nI L.length)), (7, .int (nI (i + 1)))]) [1, 2, 3, 4, 5, 6, 0] rfl ?_
        have hst := fmN_n (F := stP (8 * g + c0) (decide Hp)) (L := L) (i := i) (by omega) (by first | exact stP_d1 cq35 cq44 | exact stP_d0 cq35 cq44)
        rw [← hst]
        exact ih16 (i + 1, gf) ⟨(by omega), (by rw [hst]; exact hg), (fun j hj => hgf j (by omega))⟩ (show L.length - (i + 1) < L.length - i from by omega)
      · refine J_aload_n C dX0_keepProved_47 rfl 0 rfl ?_
        refine J_aload_n C dX0_keepProved_48 rfl 0 rfl ?_
        refine J_get (ci := 0) C i0 rfl 0 (by decide) w0 rfl 0 rfl rfl dX0_keepProved_49 ?_
        refine J_iload C dX0_keepProved_52 6 rfl ?_
        refine J_laldN C 1 rfl (by omega) (by omega) dX0_keepProved_54 ?_
        refine J_top (y := .long (lN (L.getD i 0))) (by rw [hgf i (by omega), hr2 i (by omega)]) ?_
        refine J_callV (wr := []) C (R_V (st := []) (wc := [oB o 0 [.ref r, .int (nI ((fmN (stP (8 * g + c0) (decide Hp)) L i).length)), .long (lN (andL (fmN (stP (8 * g + c0) (decide Hp)) L i))), .long (lN (orL (fmN (stP (8 * g + c0) (decide Hp)) L i)))], aJ Y r 5040 gf]) C (kX0_add ll Y o r (fmN (stP (8 * g + c0) (decide Hp)) L i) gf (L.getD i 0) (Nat.lt_of_le_of_lt (fmN_le _ _ _) (by omega))) (cwV 1 C.t gX0_keepProved_X0_add rfl rfl rfl (by decide +kernel) ⟨by decide, by decide⟩) rfl [0, 1] rfl (by decide) ⟨0, 0, _, _, rfl, rfl, rfl⟩ rfl (Nat.le_of_ble_eq_true rfl) dX0_keepProved_55 ⟨Nat.le_of_ble_eq_true rfl, Nat.le_of_ble_eq_true rfl⟩) [0, 1] [] rfl rfl (by decide) (by decide) (fun u55 hw55 => ?_)
        refine J_eq (pc' := 58) (lv' := [(0, .ref o), (1, .int (nI g)), (2, .int (nI c0)), (3, .int (p2i (Hp))), (4, .long (lN (2 ^ (8 * g + c0)))), (6, .int (nI L.length)), (7, .int (nI i))]) (st' := []) (ws' := [oB o 0 [.ref r, .int (nI (((fmN (stP (8 * g + c0) (decide Hp)) L i) ++ [(L.getD i 0)]).length)), .long (lN (andL ((fmN (stP (8 * g + c0) (decide Hp)) L i) ++ [(L.getD i 0)]))), .long (lN (orL ((fmN (stP (8 * g + c0) (decide Hp)) L i) ++ [(L.getD i 0)])))], aJ Y r 5040 (vp_updL gf (fmN (stP (8 * g + c0) (decide Hp)) L i).length (lN (L.getD i 0)))]) rfl rfl rfl rfl ?_
        refine J_iinc (j := 6) (v := nI (i + 1)) (lv' := [(7, .int (nI (i + 1))), (0, .ref o), (1, .int (nI g)), (2, .int (nI c0)), (3, .int (p2i (Hp))), (4, .long (lN (2 ^ (8 * g + c0)))), (6, .int (nI L.length))]) C dX0_keepProved_58 rfl (nI_1 _) (by decide) rfl ?_
        refine J_goto (tgt := 16) C dX0_keepProved_61 (by decide) ?_
        refine J_lv (lv' := [(0, .ref o), (1, .int (nI g)), (2, .int (nI c0)), (3, .int (p2i (Hp))), (4, .long (lN (2 ^ (8 * g + c0)))), (6, .int (nI L.length)), (7, .int (nI (i + 1)))]) [1, 2, 3, 4, 5, 6, 0] rfl ?_
        have hst := fmN_s (F := stP (8 * g + c0) (decide Hp)) (L := L) (i := i) (by omega) (by first | exact stP_k1 cq35 cq44 | exact stP_k0 cq35 cq44)
        rw [← hst]
        exact ih16 (i + 1, vp_updL gf (fmN (stP (8 * g + c0) (decide Hp)) L i).length (lN (L.getD i 0))) ⟨(by omega), (by rw [hst]; exact DRep_add hg _), (fun j hj => (updL_ge (Nat.lt_of_le_of_lt (fmN_le _ _ _) (by omega))).trans (hgf j (by omega)))⟩ (show L.length - (i + 1) < L.length - i from by omega)

set_option maxHeartbeats 4000000 in
set_option maxRecDepth 100000 in
theorem kX0_keepAnswered (ll : Launch) (Y : GY) (o : Nat) (r : Nat) (L : List Nat) (f : Nat → Int64) (g : Nat) (cards : Nat) (ans : Nat) (hL : L.length ≤ 5040) (hr2 : DRep L f) (hB : ∀ d ∈ L, d < 2 ^ 44) (hg0 : g ≤ 3) (hcs : cards < 256) (han : ans ≤ 8) : CT ll yX0_keepAnswered wsX0_keepAnswered { frames := 3, cells := 0, slots := 0, locals := 62 } Y [.ref o, .int (nI g), .int (nI cards), .int (nI ans)] [oB o 0 [.ref r, .int (nI L.length), .long (lN (andL L)), .long (lN (orL L))], aJ Y r 5040 f] (QV (S := Nat → Int64) Y (fun u => DRep (L.filterMap (stA g cards ans)) u) (fun u => [oB o 0 [.ref r, .int (nI ((L.filterMap (stA g cards ans)).length)), .long (lN (andL (L.filterMap (stA g cards ans)))), .long (lN (orL (L.filterMap (stA g cards ans))))], aJ Y r 5040 u])) 0 0 := by
  refine CT_of (cc := cX0_keepAnswered) (maxL := 10) (ret := none) (by decide) rfl (Nat.le_of_ble_eq_true rfl) ?_
  intro pp ee ss mm bl mt cc AA C hr hnm
  have w0 := C.t _ (List.mem_of_getElem? (i := 1) (show wsX0_keepAnswered[1]? = some (Cond.fieldLink RX0 9 "SecretDinner$Deals" "row" "[J") from rfl))
  have i0 : ∀ w ∈ wsX00, w ∈ wsX0_keepAnswered := inPlaces [36, 37, 38, 39] (by decide +kernel)
  refine J_eq (lv' := [(0, .ref o), (1, .int (nI g)), (2, .int (nI cards)), (3, .int (nI ans))]) (ws' := [oB o 0 [.ref r, .int (nI L.length), .long (lN (andL L)), .long (lN (orL L))], aJ Y r 5040 f]) rfl rfl rfl rfl ?_
  refine J_iload_n C dX0_keepAnswered_0 rfl 1 rfl ?_
  refine J_callL (wr := [oB o 0 [.ref r, .int (nI L.length), .long (lN (andL L)), .long (lN (orL L))], aJ Y r 5040 f]) C (R_S (st := []) (wc := []) C (kX0_wrongBit ll Y g (by first | assumption | omega)) (va_cwS 1 C.t gX0_keepAnswered_X0_wrongBit rfl rfl rfl (by decide +kernel) ⟨by decide, by decide⟩) rfl [] rfl (by decide) rfl (Nat.le_of_ble_eq_true rfl) dX0_keepAnswered_1 ⟨Nat.le_of_ble_eq_true rfl, Nat.le_of_ble_eq_true rfl⟩) [] [0, 1] rfl rfl (by decide) (by decide) (fun r1 u1 hw1 => ?_)
  subst hw1
  refine J_eq (pc' := 4) (lv' := [(0, .ref o), (1, .int (nI g)), (2, .int (nI cards)), (3, .int (nI ans))]) (st' := [.long (lN (2 ^ (40 + g)))]) (ws' := [oB o 0 [.ref r, .int (nI L.length), .long (lN (andL L)), .long (lN (orL L))], aJ Y r 5040 f]) rfl rfl rfl rfl ?_
  refine J_lstore (lv' := [(4, .long (lN (2 ^ (40 + g)))), (0, .ref o), (1, .int (nI g)), (2, .int (nI cards)), (3, .int (nI ans))]) C dX0_keepAnswered_4 (by decide) rfl ?_
  refine J_aload_n C dX0_keepAnswered_6 rfl 1 rfl ?_
  refine J_callI (wr := []) C (R_V (st := []) (wc := [oB o 0 [.ref r, .int (nI L.length), .long (lN (andL L)), .long (lN (orL L))], aJ Y r 5040 f]) C (kX0_empty ll Y o r L f (by first | assumption | omega)) (cwV 0 C.t gX0_keepAnswered_X0_empty rfl rfl rfl (by decide +kernel) ⟨by decide, by decide⟩) rfl [0, 1] rfl (by decide) ⟨0, 0, _, _, rfl, rfl, rfl⟩ rfl (Nat.le_of_ble_eq_true rfl) dX0_keepAnswered_7 ⟨Nat.le_of_ble_eq_true rfl, Nat.le_of_ble_eq_true rfl⟩) [0, 1] [] rfl rfl (by decide) (by decide) (fun r7 u7 hw7 => ?_)
  subst hw7
  refine J_eq (pc' := 10) (lv' := [(4, .long (lN (2 ^ (40 + g)))), (0, .ref o), (1, .int (nI g)), (2, .int (nI cards)), (3, .int (nI ans))]) (st' := [.int (nI L.length)]) (ws' := [oB o 0 [.ref r, .int (nI ((([] : List Nat)).length)), .long (lN (andL (([] : List Nat)))), .long (lN (orL (([] : List Nat))))], aJ Y r 5040 f]) rfl rfl rfl rfl ?_
  refine J_istore (lv' := [(6, .int (nI L.length)), (4, .long (lN (2 ^ (40 + g)))), (0, .ref o), (1, .int (nI g)), (2, .int (nI cards)), (3, .int (nI ans))]) C dX0_keepAnswered_10 (by decide) rfl ?_
  refine J_iconst C dX0_keepAnswered_12 (v := nI 0) (by decide) ?_
  refine J_istore (lv' := [(7, .int (nI 0)), (6, .int (nI L.length)), (4, .long (lN (2 ^ (40 + g)))), (0, .ref o), (1, .int (nI g)), (2, .int (nI cards)), (3, .int (nI ans))]) C dX0_keepAnswered_13 (by decide) rfl ?_
  refine J_lv (lv' := [(0, .ref o), (1, .int (nI g)), (2, .int (nI cards)), (3, .int (nI ans)), (4, .long (lN (2 ^ (40 + g)))), (6, .int (nI L.length)), (7, .int (nI 0))]) [3, 4, 5, 6, 2, 1, 0] rfl ?_
  refine J_loop (σ := Nat × (Nat → Int64)) (I := fun (i, gf) => (i ≤ L.length) ∧ (DRep (fmN (stA g cards ans) L i) gf) ∧ (∀ j, i ≤ j → gf j = f j)) (μ := fun (i, gf) => L.length - i) (lvf := fun (i, gf) => [(0, .ref o), (1, .int (nI g)), (2, .int (nI cards)), (3, .int (nI ans)), (4, .long (lN (2 ^ (40 + g)))), (6, .int (nI L.length)), (7, .int (nI i))]) (stf := fun (i, gf) => []) (wsf := fun (i, gf) => [oB o 0 [.ref r, .int (nI ((fmN (stA g cards ans) L i).length)), .long (lN (andL (fmN (stA g cards ans) L i))), .long (lN (orL (fmN (stA g cards ans) L i)))], aJ Y r 5040 gf]) ?_ (0, f) ⟨(by omega), (DRep_nil f), (fun _ _ => rfl)⟩ (rfl) rfl (rfl)
  rintro ⟨i, gf⟩ ⟨hi, hg, hgf⟩ ih15
  refine J_eq (lv' := [(0, .ref o), (1, .int (nI g)), (2, .int (nI cards)), (3, .int (nI ans)), (4, .long (lN (2 ^ (40 + g)))), (6, .int (nI L.length)), (7, .int (nI i))]) (st' := []) (ws' := [oB o 0 [.ref r, .int (nI ((fmN (stA g cards ans) L i).length)), .long (lN (andL (fmN (stA g cards ans) L i))), .long (lN (orL (fmN (stA g cards ans) L i)))], aJ Y r 5040 gf]) rfl rfl rfl rfl ?_
  refine J_iload C dX0_keepAnswered_15 6 rfl ?_
  refine J_iload C dX0_keepAnswered_17 5 rfl ?_
  refine J_icmp_geN (tgt := 80) C dX0_keepAnswered_19 (by decide) (by omega) (by omega) (fun cq19 => ?_) (fun cq19 => ?_)
  · exact J_vret C hr dX0_keepAnswered_80 gf (by have e := hg; rw [show i = L.length from by omega] at e; simpa [fmN] using e) (by rw [show i = L.length from by omega]; simp [fmN])
  · refine J_aload_n C dX0_keepAnswered_22 rfl 0 rfl ?_
    refine J_get (ci := 0) C i0 rfl 0 (by decide) w0 rfl 0 rfl rfl dX0_keepAnswered_23 ?_
    refine J_iload C dX0_keepAnswered_26 6 rfl ?_
    refine J_laldN C 1 rfl (by omega) (by omega) dX0_keepAnswered_28 ?_
    refine J_top (y := .long (lN (L.getD i 0))) (by rw [hgf i (by omega), hr2 i (by omega)]) ?_
    refine J_lstore (lv' := [(8, .long (lN (L.getD i 0))), (0, .ref o), (1, .int (nI g)), (2, .int (nI cards)), (3, .int (nI ans)), (4, .long (lN (2 ^ (40 + g)))), (6, .int (nI L.length)), (7, .int (nI i))]) C dX0_keepAnswered_29 (by decide) rfl ?_
    refine J_lload C dX0_keepAnswered_31 0 rfl ?_
    refine J_iload_n C dX0_keepAnswered_33 rfl 2 rfl ?_
    refine J_callI (wr := [oB o 0 [.ref r, .int (nI ((fmN (stA g cards ans) L i).length)), .long (lN (andL (fmN (stA g cards ans) L i))), .long (lN (orL (fmN (stA g cards ans) L i)))], aJ Y r 5040 gf]) C (R_S (st := []) (wc := []) C (kX0_cardsAt ll Y (L.getD i 0) g (Nat.lt_trans (getD_lt hB (by omega)) (by decide)) (by omega)) (va_cwS 2 C.t gX0_keepAnswered_X0_cardsAt rfl rfl rfl (by decide +kernel) ⟨by decide, by decide⟩) rfl [] rfl (by decide) rfl (Nat.le_of_ble_eq_true rfl) dX0_keepAnswered_34 ⟨Nat.le_of_ble_eq_true rfl, Nat.le_of_ble_eq_true rfl⟩) [] [0, 1] rfl rfl (by decide) (by decide) (fun r34 u34 hw34 => ?_)
    subst hw34
    refine J_eq (pc' := 37) (lv' := [(8, .long (lN (L.getD i 0))), (0, .ref o), (1, .int (nI g)), (2, .int (nI cards)), (3, .int (nI ans)), (4, .long (lN (2 ^ (40 + g)))), (6, .int (nI L.length)), (7, .int (nI i))]) (st' := [.int (nI (hAt (L.getD i 0) g))]) (ws' := [oB o 0 [.ref r, .int (nI ((fmN (stA g cards ans) L i).length)), .long (lN (andL (fmN (stA g cards ans) L i))), .long (lN (orL (fmN (stA g cards ans) L i)))], aJ Y r 5040 gf]) rfl rfl rfl rfl ?_
    refine J_iload_n C dX0_keepAnswered_37 rfl 3 rfl ?_
    refine J_iandN C dX0_keepAnswered_38 ?_
    refine J_callI (wr := [oB o 0 [.ref r, .int (nI ((fmN (stA g cards ans) L i).length)), .long (lN (andL (fmN (stA g cards ans) L i))), .long (lN (orL (fmN (stA g cards ans) L i)))], aJ Y r 5040 gf]) C (R_S (st := []) (wc := []) C (kJ6_bitCount_0f7a4 ll Y ((hAt (L.getD i 0) g) &&& cards) (Nat.lt_of_le_of_lt Nat.and_le_left (hAt_lt _ _))) (va_cwS 1 C.t gX0_keepAnswered_J6_bitCount_0f7a4 rfl rfl rfl (by decide +kernel) ⟨by decide, by decide⟩) rfl [] rfl (by decide) rfl (Nat.le_of_ble_eq_true rfl) dX0_keepAnswered_39 ⟨Nat.le_of_ble_eq_true rfl, Nat.le_of_ble_eq_true rfl⟩) [] [0, 1] rfl rfl (by decide) (by decide) (fun r39 u39 hw39 => ?_)
    subst hw39
    refine J_eq (pc' := 42) (lv' := [(8, .long (lN (L.getD i 0))), (0, .ref o), (1, .int (nI g)), (2, .int (nI cards)), (3, .int (nI ans)), (4, .long (lN (2 ^ (40 + g)))), (6, .int (nI L.length)), (7, .int (nI i))]) (st' := [.int (nI (pc8 ((hAt (L.getD i 0) g) &&& cards)))]) (ws' := [oB o 0 [.ref r, .int (nI ((fmN (stA g cards ans) L i).length)), .long (lN (andL (fmN (stA g cards ans) L i))), .long (lN (orL (fmN (stA g cards ans) L i)))], aJ Y r 5040 gf]) rfl rfl rfl rfl ?_
    refine J_iload_n C dX0_keepAnswered_42 rfl 4 rfl ?_
    refine J_icmp_neN (tgt := 55) C dX0_keepAnswered_43 (by decide) (Nat.lt_of_le_of_lt (pc8_le _) (by decide)) (by omega) (fun cq43 => ?_) (fun cq43 => ?_)
    · refine J_lload C dX0_keepAnswered_55 0 rfl ?_
      refine J_lload C dX0_keepAnswered_57 5 rfl ?_
      refine J_landN C dX0_keepAnswered_59 ?_
      refine J_lconst C dX0_keepAnswered_60 (v := lN 0) rfl ?_
      refine J_lcmp C dX0_keepAnswered_61 ?_
      refine J_if_neL (tgt := 74) C dX0_keepAnswered_62 (by decide) (and_p2 _ (by omega)) (by decide) (fun cq62 => ?_) (fun cq62 => ?_)
      · refine J_iinc (j := 7) (v := nI (i + 1)) (lv' := [(7, .int (nI (i + 1))), (8, .long (lN (L.getD i 0))), (0, .ref o), (1, .int (nI g)), (2, .int (nI cards)), (3, .int (nI ans)), (4, .long (lN (2 ^ (40 + g)))), (6, .int (nI L.length))]) C dX0_keepAnswered_74 rfl (nI_1 _) (by decide) rfl ?_
        refine J_goto (tgt := 15) C dX0_keepAnswered_77 (by decide) ?_
        refine J_lv (lv' := [(0, .ref o), (1, .int (nI g)), (2, .int (nI cards)), (3, .int (nI ans)), (4, .long (lN (2 ^ (40 + g)))), (6, .int (nI L.length)), (7, .int (nI (i + 1)))]) [2, 3, 4, 5, 6, 7, 0] rfl ?_
        have hst := fmN_n (F := stA g cards ans) (L := L) (i := i) (by omega) (stA_n cq43 cq62)
        rw [← hst]
        exact ih15 (i + 1, gf) ⟨(by omega), (by rw [hst]; exact hg), (fun j hj => hgf j (by omega))⟩ (show L.length - (i + 1) < L.length - i from by omega)
      · refine J_aload_n C dX0_keepAnswered_65 rfl 1 rfl ?_
        refine J_lload C dX0_keepAnswered_66 0 rfl ?_
        refine J_lload C dX0_keepAnswered_68 5 rfl ?_
        refine J_lorN C dX0_keepAnswered_70 ?_
        refine J_callV (wr := []) C (R_V (st := []) (wc := [oB o 0 [.ref r, .int (nI ((fmN (stA g cards ans) L i).length)), .long (lN (andL (fmN (stA g cards ans) L i))), .long (lN (orL (fmN (stA g cards ans) L i)))], aJ Y r 5040 gf]) C (kX0_add ll Y o r (fmN (stA g cards ans) L i) gf ((L.getD i 0) ||| (2 ^ (40 + g))) (Nat.lt_of_le_of_lt (fmN_le _ _ _) (by omega))) (cwV 1 C.t gX0_keepAnswered_X0_add rfl rfl rfl (by decide +kernel) ⟨by decide, by decide⟩) rfl [0, 1] rfl (by decide) ⟨0, 0, _, _, rfl, rfl, rfl⟩ rfl (Nat.le_of_ble_eq_true rfl) dX0_keepAnswered_71 ⟨Nat.le_of_ble_eq_true rfl, Nat.le_of_ble_eq_true rfl⟩) [0, 1] [] rfl rfl (by decide) (by decide) (fun u71 hw71 => ?_)
        refine J_eq (pc' := 74) (lv' := [(8, .long (lN (L.getD i 0))), (0, .ref o), (1, .int (nI g)), (2, .int (nI cards)), (3, .int (nI ans)), (4, .long (lN (2 ^ (40 + g)))), (6, .int (nI L.length)), (7, .int (nI i))]) (st' := []) (ws' := [oB o 0 [.ref r, .int (nI (((fmN (stA g cards ans) L i) ++ [((L.getD i 0) ||| (2 ^ (40 + g)))]).length)), .long (lN (andL ((fmN (stA g cards ans) L i) ++ [((L.getD i 0) ||| (2 ^ (40 + g)))]))), .long (lN (orL ((fmN (stA g cards ans) L i) ++ [((L.getD i 0) ||| (2 ^ (40 + g)))])))], aJ Y r 5040 (vp_updL gf (fmN (stA g cards ans) L i).length (lN ((L.getD i 0) ||| (2 ^ (40 + g)))))]) rfl rfl rfl rfl ?_
        refine J_iinc (j := 7) (v := nI (i + 1)) (lv' := [(7, .int (nI (i + 1))), (8, .long (lN (L.getD i 0))), (0, .ref o), (1, .int (nI g)), (2, .int (nI cards)), (3, .int (nI ans)), (4, .long (lN (2 ^ (40 + g)))), (6, .int (nI L.length))]) C dX0_keepAnswered_74 rfl (nI_1 _) (by decide) rfl ?_
        refine J_goto (tgt := 15) C dX0_keepAnswered_77 (by decide) ?_
        refine J_lv (lv' := [(0, .ref o), (1, .int (nI g)), (2, .int (nI cards)), (3, .int (nI ans)), (4, .long (lN (2 ^ (40 + g)))), (6, .int (nI L.length)), (7, .int (nI (i + 1)))]) [2, 3, 4, 5, 6, 7, 0] rfl ?_
        have hst := fmN_s (F := stA g cards ans) (L := L) (i := i) (by omega) (by first | exact stA_e cq43 | exact stA_w cq43 cq62)
        rw [← hst]
        exact ih15 (i + 1, vp_updL gf (fmN (stA g cards ans) L i).length (lN ((L.getD i 0) ||| (2 ^ (40 + g))))) ⟨(by omega), (by rw [hst]; exact DRep_add hg _), (fun j hj => (updL_ge (Nat.lt_of_le_of_lt (fmN_le _ _ _) (by omega))).trans (hgf j (by omega)))⟩ (show L.length - (i + 1) < L.length - i from by omega)
    · refine J_aload_n C dX0_keepAnswered_46 rfl 1 rfl ?_
      refine J_lload C dX0_keepAnswered_47 0 rfl ?_
      refine J_callV (wr := []) C (R_V (st := []) (wc := [oB o 0 [.ref r, .int (nI ((fmN (stA g cards ans) L i).length)), .long (lN (andL (fmN (stA g cards ans) L i))), .long (lN (orL (fmN (stA g cards ans) L i)))], aJ Y r 5040 gf]) C (kX0_add ll Y o r (fmN (stA g cards ans) L i) gf (L.getD i 0) (Nat.lt_of_le_of_lt (fmN_le _ _ _) (by omega))) (cwV 1 C.t gX0_keepAnswered_X0_add rfl rfl rfl (by decide +kernel) ⟨by decide, by decide⟩) rfl [0, 1] rfl (by decide) ⟨0, 0, _, _, rfl, rfl, rfl⟩ rfl (Nat.le_of_ble_eq_true rfl) dX0_keepAnswered_49 ⟨Nat.le_of_ble_eq_true rfl, Nat.le_of_ble_eq_true rfl⟩) [0, 1] [] rfl rfl (by decide) (by decide) (fun u49 hw49 => ?_)
      refine J_eq (pc' := 52) (lv' := [(8, .long (lN (L.getD i 0))), (0, .ref o), (1, .int (nI g)), (2, .int (nI cards)), (3, .int (nI ans)), (4, .long (lN (2 ^ (40 + g)))), (6, .int (nI L.length)), (7, .int (nI i))]) (st' := []) (ws' := [oB o 0 [.ref r, .int (nI (((fmN (stA g cards ans) L i) ++ [(L.getD i 0)]).length)), .long (lN (andL ((fmN (stA g cards ans) L i) ++ [(L.getD i 0)]))), .long (lN (orL ((fmN (stA g cards ans) L i) ++ [(L.getD i 0)])))], aJ Y r 5040 (vp_updL gf (fmN (stA g cards ans) L i).length (lN (L.getD i 0)))]) rfl rfl rfl rfl ?_
      refine J_goto (tgt := 74) C dX0_keepAnswered_52 (by decide) ?_
      refine J_iinc (j := 7) (v := nI (i + 1)) (lv' := [(7, .int (nI (i + 1))), (8, .long (lN (L.getD i 0))), (0, .ref o), (1, .int (nI g)), (2, .int (nI cards)), (3, .int (nI ans)), (4, .long (lN (2 ^ (40 + g)))), (6, .int (nI L.length))]) C dX0_keepAnswered_74 rfl (nI_1 _) (by decide) rfl ?_
      refine J_goto (tgt := 15) C dX0_keepAnswered_77 (by decide) ?_
      refine J_lv (lv' := [(0, .ref o), (1, .int (nI g)), (2, .int (nI cards)), (3, .int (nI ans)), (4, .long (lN (2 ^ (40 + g)))), (6, .int (nI L.length)), (7, .int (nI (i + 1)))]) [2, 3, 4, 5, 6, 7, 0] rfl ?_
      have hst := fmN_s (F := stA g cards ans) (L := L) (i := i) (by omega) (by first | exact stA_e cq43 | exact stA_w cq43 cq62)
      rw [← hst]
      exact ih15 (i + 1, vp_updL gf (fmN (stA g cards ans) L i).length (lN (L.getD i 0))) ⟨(by omega), (by rw [hst]; exact DRep_add hg _), (fun j hj => (updL_ge (Nat.lt_of_le_of_lt (fmN_le _ _ _) (by omega))).trans (hgf j (by omega)))⟩ (show L.length - (i + 1) < L.length - i from by omega)

set_option maxHeartbeats 4000000 in
set_option maxRecDepth 100000 in
theorem kX0_cardsInAll (ll : Launch) (Y : GY) (o : Nat) (r : Nat) (L : List Nat) (f : Nat → Int64) (q : Nat) (hL : L.length ≤ 5040) (hq : q ≤ 4) : CT ll yX0_cardsInAll wsX0_cardsInAll { frames := 1, cells := 0, slots := 0, locals := 22 } Y [.ref o, .int (nI q)] [oB o 0 [.ref r, .int (nI L.length), .long (lN (andL L)), .long (lN (orL L))], aJ Y r 5040 f] (QI Y (fun (r : Int32) (_ : Unit) => r = nI (if L.length = 0 then 0 else hAt (andL L) q)) (fun _ => [oB o 0 [.ref r, .int (nI L.length), .long (lN (andL L)), .long (lN (orL L))], aJ Y r 5040 f])) 0 0 := by
  refine CT_of (cc := cX0_cardsInAll) (maxL := 2) (ret := (some .int)) (by decide) rfl (Nat.le_of_ble_eq_true rfl) ?_
  intro pp ee ss mm bl mt cc AA C hr hnm
  have w0 := C.t _ (List.mem_of_getElem? (i := 1) (show wsX0_cardsInAll[1]? = some (Cond.fieldLink RX0 21 "SecretDinner$Deals" "count" "I") from rfl))
  have w1 := C.t _ (List.mem_of_getElem? (i := 2) (show wsX0_cardsInAll[2]? = some (Cond.fieldLink RX0 17 "SecretDinner$Deals" "inAll" "J") from rfl))
  have i0 : ∀ w ∈ wsX00, w ∈ wsX0_cardsInAll := inPlaces [7, 8, 9, 10] (by decide +kernel)
  refine J_eq (lv' := [(0, .ref o), (1, .int (nI q))]) (ws' := [oB o 0 [.ref r, .int (nI L.length), .long (lN (andL L)), .long (lN (orL L))], aJ Y r 5040 f]) rfl rfl rfl rfl ?_
  refine J_aload_n C dX0_cardsInAll_0 rfl 0 rfl ?_
  refine J_get (ci := 0) C i0 rfl 1 (by decide) w0 rfl 0 rfl rfl dX0_cardsInAll_1 ?_
  refine J_if_neN (tgt := 11) C dX0_cardsInAll_4 (by decide) (by omega) (fun cq4 => ?_) (fun cq4 => ?_)
  · refine J_aload_n C dX0_cardsInAll_11 rfl 0 rfl ?_
    refine J_get (ci := 0) C i0 rfl 2 (by decide) w1 rfl 0 rfl rfl dX0_cardsInAll_12 ?_
    refine J_iload_n C dX0_cardsInAll_15 rfl 1 rfl ?_
    refine J_callI (wr := [oB o 0 [.ref r, .int (nI L.length), .long (lN (andL L)), .long (lN (orL L))], aJ Y r 5040 f]) C (R_S (st := []) (wc := []) C (kX0_cardsAt ll Y (andL L) q (andL_lt L) (by first | assumption | omega)) (va_cwS 2 C.t gX0_cardsInAll_X0_cardsAt rfl rfl rfl (by decide +kernel) ⟨by decide, by decide⟩) rfl [] rfl (by decide) rfl (Nat.le_of_ble_eq_true rfl) dX0_cardsInAll_16 ⟨Nat.le_of_ble_eq_true rfl, Nat.le_of_ble_eq_true rfl⟩) [] [0, 1] rfl rfl (by decide) (by decide) (fun r16 u16 hw16 => ?_)
    subst hw16
    refine J_eq (pc' := 19) (lv' := [(0, .ref o), (1, .int (nI q))]) (st' := [.int (nI (hAt (andL L) q))]) (ws' := [oB o 0 [.ref r, .int (nI L.length), .long (lN (andL L)), .long (lN (orL L))], aJ Y r 5040 f]) rfl rfl rfl rfl ?_
    exact J_iret C hr dX0_cardsInAll_19 (()) (by rw [if_neg cq4]) (rfl)
  · refine J_iconst C dX0_cardsInAll_7 (v := nI 0) (by decide) ?_
    refine J_goto (tgt := 19) C dX0_cardsInAll_8 (by decide) ?_
    exact J_iret C hr dX0_cardsInAll_19 (()) (by rw [if_pos cq4]) (rfl)

set_option maxHeartbeats 4000000 in
set_option maxRecDepth 100000 in
theorem kX0_cardsInSome (ll : Launch) (Y : GY) (o : Nat) (r : Nat) (L : List Nat) (f : Nat → Int64) (q : Nat) (hB : ∀ d ∈ L, d < 2 ^ 44) (hq : q ≤ 4) : CT ll yX0_cardsInSome wsX0_cardsInSome { frames := 1, cells := 0, slots := 0, locals := 22 } Y [.ref o, .int (nI q)] [oB o 0 [.ref r, .int (nI L.length), .long (lN (andL L)), .long (lN (orL L))], aJ Y r 5040 f] (QI Y (fun (r : Int32) (_ : Unit) => r = nI (hAt (orL L) q)) (fun _ => [oB o 0 [.ref r, .int (nI L.length), .long (lN (andL L)), .long (lN (orL L))], aJ Y r 5040 f])) 0 0 := by
  refine CT_of (cc := cX0_cardsInSome) (maxL := 2) (ret := (some .int)) (by decide) rfl (Nat.le_of_ble_eq_true rfl) ?_
  intro pp ee ss mm bl mt cc AA C hr hnm
  have w0 := C.t _ (List.mem_of_getElem? (i := 1) (show wsX0_cardsInSome[1]? = some (Cond.fieldLink RX0 51 "SecretDinner$Deals" "inSome" "J") from rfl))
  have i0 : ∀ w ∈ wsX00, w ∈ wsX0_cardsInSome := inPlaces [6, 7, 8, 9] (by decide +kernel)
  refine J_eq (lv' := [(0, .ref o), (1, .int (nI q))]) (ws' := [oB o 0 [.ref r, .int (nI L.length), .long (lN (andL L)), .long (lN (orL L))], aJ Y r 5040 f]) rfl rfl rfl rfl ?_
  refine J_aload_n C dX0_cardsInSome_0 rfl 0 rfl ?_
  refine J_get (ci := 0) C i0 rfl 3 (by decide) w0 rfl 0 rfl rfl dX0_cardsInSome_1 ?_
  refine J_iload_n C dX0_cardsInSome_4 rfl 1 rfl ?_
  refine J_callI (wr := [oB o 0 [.ref r, .int (nI L.length), .long (lN (andL L)), .long (lN (orL L))], aJ Y r 5040 f]) C (R_S (st := []) (wc := []) C (kX0_cardsAt ll Y (orL L) q (orL_lt hB) (by first | assumption | omega)) (va_cwS 2 C.t gX0_cardsInSome_X0_cardsAt rfl rfl rfl (by decide +kernel) ⟨by decide, by decide⟩) rfl [] rfl (by decide) rfl (Nat.le_of_ble_eq_true rfl) dX0_cardsInSome_5 ⟨Nat.le_of_ble_eq_true rfl, Nat.le_of_ble_eq_true rfl⟩) [] [0, 1] rfl rfl (by decide) (by decide) (fun r5 u5 hw5 => ?_)
  subst hw5
  refine J_eq (pc' := 8) (lv' := [(0, .ref o), (1, .int (nI q))]) (st' := [.int (nI (hAt (orL L) q))]) (ws' := [oB o 0 [.ref r, .int (nI L.length), .long (lN (andL L)), .long (lN (orL L))], aJ Y r 5040 f]) rfl rfl rfl rfl ?_
  exact J_iret C hr dX0_cardsInSome_8 (()) (rfl) (rfl)

set_option maxHeartbeats 4000000 in
set_option maxRecDepth 100000 in
theorem kX0_isWrongInAll (ll : Launch) (Y : GY) (o : Nat) (r : Nat) (L : List Nat) (f : Nat → Int64) (g : Nat) (hL : L.length ≤ 5040) (hg0 : g ≤ 3) : CT ll yX0_isWrongInAll wsX0_isWrongInAll { frames := 1, cells := 0, slots := 0, locals := 20 } Y [.ref o, .int (nI g)] [oB o 0 [.ref r, .int (nI L.length), .long (lN (andL L)), .long (lN (orL L))], aJ Y r 5040 f] (QI Y (fun (r : Int32) (_ : Unit) => r = p2i (0 < L.length ∧ (andL L).testBit (40 + g) = true)) (fun _ => [oB o 0 [.ref r, .int (nI L.length), .long (lN (andL L)), .long (lN (orL L))], aJ Y r 5040 f])) 0 0 := by
  refine CT_of (cc := cX0_isWrongInAll) (maxL := 2) (ret := (some .boolean)) (by decide) rfl (Nat.le_of_ble_eq_true rfl) ?_
  intro pp ee ss mm bl mt cc AA C hr hnm
  have w0 := C.t _ (List.mem_of_getElem? (i := 1) (show wsX0_isWrongInAll[1]? = some (Cond.fieldLink RX0 21 "SecretDinner$Deals" "count" "I") from rfl))
  have w1 := C.t _ (List.mem_of_getElem? (i := 2) (show wsX0_isWrongInAll[2]? = some (Cond.fieldLink RX0 17 "SecretDinner$Deals" "inAll" "J") from rfl))
  have i0 : ∀ w ∈ wsX00, w ∈ wsX0_isWrongInAll := inPlaces [7, 8, 9, 10] (by decide +kernel)
  refine J_eq (lv' := [(0, .ref o), (1, .int (nI g))]) (ws' := [oB o 0 [.ref r, .int (nI L.length), .long (lN (andL L)), .long (lN (orL L))], aJ Y r 5040 f]) rfl rfl rfl rfl ?_
  refine J_aload_n C dX0_isWrongInAll_0 rfl 0 rfl ?_
  refine J_get (ci := 0) C i0 rfl 1 (by decide) w0 rfl 0 rfl rfl dX0_isWrongInAll_1 ?_
  refine J_if_leN (tgt := 25) C dX0_isWrongInAll_4 (by decide) (by omega) (fun cq4 => ?_) (fun cq4 => ?_)
  · refine J_iconst C dX0_isWrongInAll_25 (v := nI 0) (by decide) ?_
    exact J_zret C hr (by decide) dX0_isWrongInAll_26 (()) (by first | (rw [p2i_f (fun z => absurd z.1 (by omega))]; done) | (rw [p2i_f (fun z => by rw [tb_0 cq18] at z; exact absurd z.2 (by decide))])) (rfl)
  · refine J_aload_n C dX0_isWrongInAll_7 rfl 0 rfl ?_
    refine J_get (ci := 0) C i0 rfl 2 (by decide) w1 rfl 0 rfl rfl dX0_isWrongInAll_8 ?_
    refine J_iload_n C dX0_isWrongInAll_11 rfl 1 rfl ?_
    refine J_callL (wr := [oB o 0 [.ref r, .int (nI L.length), .long (lN (andL L)), .long (lN (orL L))], aJ Y r 5040 f]) C (R_S (st := [.long (lN (andL L))]) (wc := []) C (kX0_wrongBit ll Y g (by first | assumption | omega)) (va_cwS 1 C.t gX0_isWrongInAll_X0_wrongBit rfl rfl rfl (by decide +kernel) ⟨by decide, by decide⟩) rfl [] rfl (by decide) rfl (Nat.le_of_ble_eq_true rfl) dX0_isWrongInAll_12 ⟨Nat.le_of_ble_eq_true rfl, Nat.le_of_ble_eq_true rfl⟩) [] [0, 1] rfl rfl (by decide) (by decide) (fun r12 u12 hw12 => ?_)
    subst hw12
    refine J_eq (pc' := 15) (lv' := [(0, .ref o), (1, .int (nI g))]) (st' := [.long (lN (2 ^ (40 + g))), .long (lN (andL L))]) (ws' := [oB o 0 [.ref r, .int (nI L.length), .long (lN (andL L)), .long (lN (orL L))], aJ Y r 5040 f]) rfl rfl rfl rfl ?_
    refine J_landN C dX0_isWrongInAll_15 ?_
    refine J_lconst C dX0_isWrongInAll_16 (v := lN 0) rfl ?_
    refine J_lcmp C dX0_isWrongInAll_17 ?_
    refine J_if_eqL (tgt := 25) C dX0_isWrongInAll_18 (by decide) (and_p2 _ (by omega)) (by decide) (fun cq18 => ?_) (fun cq18 => ?_)
    · refine J_iconst C dX0_isWrongInAll_25 (v := nI 0) (by decide) ?_
      exact J_zret C hr (by decide) dX0_isWrongInAll_26 (()) (by first | (rw [p2i_f (fun z => absurd z.1 (by omega))]; done) | (rw [p2i_f (fun z => by rw [tb_0 cq18] at z; exact absurd z.2 (by decide))])) (rfl)
    · refine J_iconst C dX0_isWrongInAll_21 (v := nI 1) (by decide) ?_
      refine J_goto (tgt := 26) C dX0_isWrongInAll_22 (by decide) ?_
      exact J_zret C hr (by decide) dX0_isWrongInAll_26 (()) (by rw [p2i_t ⟨cq4, tb_1 cq18⟩]) (rfl)

set_option maxHeartbeats 4000000 in
set_option maxRecDepth 100000 in
theorem kX0_copyFrom (ll : Launch) (Y : GY) (o : Nat) (r : Nat) (L0 : List Nat) (f0 : Nat → Int64) (o2 : Nat) (r2 : Nat) (L : List Nat) (f : Nat → Int64) (hL : L.length ≤ 5040) : CT ll yX0_copyFrom wsX0_copyFrom { frames := 2, cells := 0, slots := 0, locals := 41 } Y [.ref o, .ref o2] [oB o 0 [.ref r, .int (nI L0.length), .long (lN (andL L0)), .long (lN (orL L0))], aJ Y r 5040 f0, oB o2 0 [.ref r2, .int (nI L.length), .long (lN (andL L)), .long (lN (orL L))], aJ Y r2 5040 f] (QV Y (fun (_ : Unit) => True) (fun _ => [oB o 0 [.ref r, .int (nI L.length), .long (lN (andL L)), .long (lN (orL L))], aJ Y r 5040 (va_cpy f f0 0 0 L.length), oB o2 0 [.ref r2, .int (nI L.length), .long (lN (andL L)), .long (lN (orL L))], aJ Y r2 5040 f])) 0 0 := by
  refine CT_of (cc := cX0_copyFrom) (maxL := 3) (ret := none) (by decide) rfl (Nat.le_of_ble_eq_true rfl) ?_
  intro pp ee ss mm bl mt cc AA C hr hnm
  have w0 := C.t _ (List.mem_of_getElem? (i := 1) (show wsX0_copyFrom[1]? = some (Cond.fieldLink RX0 9 "SecretDinner$Deals" "row" "[J") from rfl))
  have w1 := C.t _ (List.mem_of_getElem? (i := 2) (show wsX0_copyFrom[2]? = some (Cond.methodLink RX0 70 arraycopyName) from rfl))
  have w2 := C.t _ (List.mem_of_getElem? (i := 3) (show wsX0_copyFrom[3]? = some (Cond.native arraycopyName) from rfl))
  have w3 := C.t _ (List.mem_of_getElem? (i := 4) (show wsX0_copyFrom[4]? = some (Cond.static arraycopyName) from rfl))
  have w4 := C.t _ (List.mem_of_getElem? (i := 5) (show wsX0_copyFrom[5]? = some (Cond.initialized "java/lang/System") from rfl))
  have w5 := C.t _ (List.mem_of_getElem? (i := 6) (show wsX0_copyFrom[6]? = some (Cond.fieldLink RX0 21 "SecretDinner$Deals" "count" "I") from rfl))
  have w6 := C.t _ (List.mem_of_getElem? (i := 7) (show wsX0_copyFrom[7]? = some (Cond.fieldLink RX0 17 "SecretDinner$Deals" "inAll" "J") from rfl))
  have w7 := C.t _ (List.mem_of_getElem? (i := 8) (show wsX0_copyFrom[8]? = some (Cond.fieldLink RX0 51 "SecretDinner$Deals" "inSome" "J") from rfl))
  have i0 : ∀ w ∈ wsX00, w ∈ wsX0_copyFrom := inPlaces [18, 19, 20, 21] (by decide +kernel)
  refine J_eq (lv' := [(0, .ref o), (1, .ref o2)]) (ws' := [oB o 0 [.ref r, .int (nI L0.length), .long (lN (andL L0)), .long (lN (orL L0))], aJ Y r 5040 f0, oB o2 0 [.ref r2, .int (nI L.length), .long (lN (andL L)), .long (lN (orL L))], aJ Y r2 5040 f]) rfl rfl rfl rfl ?_
  refine J_aload_n C dX0_copyFrom_0 rfl 1 rfl ?_
  refine J_callI (wr := [oB o 0 [.ref r, .int (nI L0.length), .long (lN (andL L0)), .long (lN (orL L0))], aJ Y r 5040 f0]) C (R_V (st := []) (wc := [oB o2 0 [.ref r2, .int (nI L.length), .long (lN (andL L)), .long (lN (orL L))], aJ Y r2 5040 f]) C (kX0_length ll Y o2 r2 L f (by first | assumption | omega)) (cwV 0 C.t gX0_copyFrom_X0_length rfl rfl rfl (by decide +kernel) ⟨by decide, by decide⟩) rfl [2, 3] rfl (by decide) ⟨0, 0, _, _, rfl, rfl, rfl⟩ rfl (Nat.le_of_ble_eq_true rfl) dX0_copyFrom_1 ⟨Nat.le_of_ble_eq_true rfl, Nat.le_of_ble_eq_true rfl⟩) [2, 3] [0, 1] rfl rfl (by decide) (by decide) (fun r1 u1 hw1 => ?_)
  subst hw1
  refine J_eq (pc' := 4) (lv' := [(0, .ref o), (1, .ref o2)]) (st' := [.int (nI L.length)]) (ws' := [oB o 0 [.ref r, .int (nI L0.length), .long (lN (andL L0)), .long (lN (orL L0))], aJ Y r 5040 f0, oB o2 0 [.ref r2, .int (nI L.length), .long (lN (andL L)), .long (lN (orL L))], aJ Y r2 5040 f]) rfl rfl rfl rfl ?_
  refine J_istore_n (lv' := [(2, .int (nI L.length)), (0, .ref o), (1, .ref o2)]) C dX0_copyFrom_4 rfl (by decide) rfl ?_
  refine J_iload_n C dX0_copyFrom_5 rfl 0 rfl ?_
  refine J_if_ltN (tgt := 53) C dX0_copyFrom_6 (by decide) (by omega) ?_
  refine J_iload_n C dX0_copyFrom_9 rfl 0 rfl ?_
  refine J_aload_n C dX0_copyFrom_10 rfl 1 rfl ?_
  refine J_get (ci := 0) C i0 rfl 0 (by decide) w0 rfl 0 rfl rfl dX0_copyFrom_11 ?_
  refine J_alenJ C 1 rfl dX0_copyFrom_14 ?_
  refine J_icmp_gtN (tgt := 53) C dX0_copyFrom_15 (by decide) (by omega) (by omega) (fun cq15 => ?_) (fun cq15 => ?_)
  · exact absurd cq15 (by omega)
  · refine J_aload_n C dX0_copyFrom_18 rfl 2 rfl ?_
    refine J_get (ci := 0) C i0 rfl 0 (by decide) w0 rfl 2 rfl rfl dX0_copyFrom_19 ?_
    refine J_iconst C dX0_copyFrom_22 (v := nI 0) (by decide) ?_
    refine J_aload_n C dX0_copyFrom_23 rfl 1 rfl ?_
    refine J_get (ci := 0) C i0 rfl 0 (by decide) w0 rfl 0 rfl rfl dX0_copyFrom_24 ?_
    refine J_iconst C dX0_copyFrom_27 (v := nI 0) (by decide) ?_
    refine J_iload_n C dX0_copyFrom_28 rfl 0 rfl ?_
    refine J_copyJ (ws' := [oB o 0 [.ref r, .int (nI L0.length), .long (lN (andL L0)), .long (lN (orL L0))], aJ Y r 5040 (va_cpy f f0 0 0 L.length), oB o2 0 [.ref r2, .int (nI L.length), .long (lN (andL L)), .long (lN (orL L))], aJ Y r2 5040 f]) C w1 w2 w3 w4 3 1 rfl rfl (by omega) (by omega) (by omega) (by decide) (by decide +kernel) dX0_copyFrom_29 rfl ?_
    refine J_aload_n C dX0_copyFrom_32 rfl 1 rfl ?_
    refine J_iload_n C dX0_copyFrom_33 rfl 0 rfl ?_
    refine J_put (ci := 0) (ty := .int) (ws' := [oB o 0 [.ref r, .int (nI L.length), .long (lN (andL L0)), .long (lN (orL L0))], aJ Y r 5040 (va_cpy f f0 0 0 L.length), oB o2 0 [.ref r2, .int (nI L.length), .long (lN (andL L)), .long (lN (orL L))], aJ Y r2 5040 f]) C i0 tyX0 tyX0_ok nmX0 rfl 1 (by decide) w5 rfl rfl (by decide +kernel) (rfl) (rfl) 0 rfl (Nat.le_of_ble_eq_true rfl) dX0_copyFrom_34 rfl ?_
    refine J_aload_n C dX0_copyFrom_37 rfl 1 rfl ?_
    refine J_aload_n C dX0_copyFrom_38 rfl 2 rfl ?_
    refine J_get (ci := 0) C i0 rfl 2 (by decide) w6 rfl 2 rfl rfl dX0_copyFrom_39 ?_
    refine J_put (ci := 0) (ty := .long) (ws' := [oB o 0 [.ref r, .int (nI L.length), .long (lN (andL L)), .long (lN (orL L0))], aJ Y r 5040 (va_cpy f f0 0 0 L.length), oB o2 0 [.ref r2, .int (nI L.length), .long (lN (andL L)), .long (lN (orL L))], aJ Y r2 5040 f]) C i0 tyX0 tyX0_ok nmX0 rfl 2 (by decide) w6 rfl rfl (by decide +kernel) (rfl) (rfl) 0 rfl (Nat.le_of_ble_eq_true rfl) dX0_copyFrom_42 rfl ?_
    refine J_aload_n C dX0_copyFrom_45 rfl 1 rfl ?_
    refine J_aload_n C dX0_copyFrom_46 rfl 2 rfl ?_
    refine J_get (ci := 0) C i0 rfl 3 (by decide) w7 rfl 2 rfl rfl dX0_copyFrom_47 ?_
    refine J_put (ci := 0) (ty := .long) (ws' := [oB o 0 [.ref r, .int (nI L.length), .long (lN (andL L)), .long (lN (orL L))], aJ Y r 5040 (va_cpy f f0 0 0 L.length), oB o2 0 [.ref r2, .int (nI L.length), .long (lN (andL L)), .long (lN (orL L))], aJ Y r2 5040 f]) C i0 tyX0 tyX0_ok nmX0 rfl 3 (by decide) w7 rfl rfl (by decide +kernel) (rfl) (rfl) 0 rfl (Nat.le_of_ble_eq_true rfl) dX0_copyFrom_50 rfl ?_
    exact J_vret C hr dX0_copyFrom_53 (()) (trivial) (rfl)

