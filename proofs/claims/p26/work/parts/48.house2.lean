set_option maxHeartbeats 4000000 in
set_option maxRecDepth 100000 in
theorem kX4_begin_x1 (ll : Launch) (Y : GY) (hl0 : ll.stackTraces = false) (h : Nat → Nat) (sc : Nat) (a : Nat → Nat) (g : Int32) (z : Int32) (hb : g.toInt < 3 ∨ 4 < g.toInt ∨ z.toInt < -1 ∨ 999999 < z.toInt) : CX ll yX4_begin wsX4_begin { frames := 6, cells := 1, slots := 6, locals := 90 } Y [.ref (h 0), .int g, .int z] [oB (h 0) 4 [.ref (a 0), .ref (h 1), .int (nI sc), .ref (h 3), .ref (h 4), .ref (h 5), .ref (h 6)]] "java/lang/IllegalArgumentException" 1 6 := by
  refine CX_of (cc := cX4_begin) (maxL := 4) (ret := (some .int)) (by decide) rfl (Nat.le_of_ble_eq_true rfl) ?_
  intro pp ee ss mm bl mt cc AA C hXS hx0
  have w0 := C.t _ (List.mem_of_getElem? (i := 1) (show wsX4_begin[1]? = some (Cond.classLink RX4 44 "java/lang/IllegalArgumentException") from rfl))
  have w1 := C.t _ (List.mem_of_getElem? (i := 2) (show wsX4_begin[2]? = some (Cond.initialized "java/lang/IllegalArgumentException") from rfl))
  have w2 := C.t _ (List.mem_of_getElem? (i := 5) (show wsX4_begin[5]? = some (Cond.constant RX4 51 (999999)) from rfl))
  refine J_eq (lv' := [(0, .ref (h 0)), (1, .int g), (2, .int z)]) (ws' := [oB (h 0) 4 [.ref (a 0), .ref (h 1), .int (nI sc), .ref (h 3), .ref (h 4), .ref (h 5), .ref (h 6)]]) rfl rfl rfl rfl ?_
  have m1T : (iZ (-1)).toInt = -1 := by decide
  refine J_iload_n C dX4_begin_0 rfl 1 rfl ?_
  refine J_iconst C dX4_begin_1 (v := nI 3) (by decide) ?_
  refine J_icmp_ltR (tgt := 10) C dX4_begin_2 (by decide) (by omega) (fun cq2 => ?_) (fun cq2 => ?_)
  · exact J_throw (cls := "java/lang/IllegalArgumentException") (text := "an evening is for 3 or 4 guests") (ik := 44) (is := 46) (ic := 48) C hXS hl0 hx0 (by decide +kernel) (by decide) (by decide) rfl w0 w1 (fun _ hq => List.mem_cons_of_mem _ (List.mem_append_left _ (List.mem_append_right _ hq))) (by decide +kernel) (by decide +kernel) dX4_begin_10 dX4_begin_13 dX4_begin_14 dX4_begin_16 dX4_begin_19 (Nat.le_of_ble_eq_true rfl) (Nat.le_of_ble_eq_true rfl) (Nat.le_of_ble_eq_true rfl) (Nat.le_of_ble_eq_true rfl) (Nat.le_of_ble_eq_true rfl) (Nat.le_of_ble_eq_true rfl) (Nat.le_of_ble_eq_true rfl)
  · refine J_iload_n C dX4_begin_5 rfl 1 rfl ?_
    refine J_iconst C dX4_begin_6 (v := nI 4) (by decide) ?_
    refine J_icmp_leR (tgt := 20) C dX4_begin_7 (by decide) (by omega) (fun cq7 => ?_) (fun cq7 => ?_)
    · refine J_iload_n C dX4_begin_20 rfl 2 rfl ?_
      refine J_iconst C dX4_begin_21 (v := iZ ((-1))) (by decide) ?_
      refine J_icmp_ltT (tgt := 31) C dX4_begin_22 (by decide) (fun cq22 => ?_) (fun cq22 => ?_)
      · exact J_throw (cls := "java/lang/IllegalArgumentException") (text := "s is out of range") (ik := 44) (is := 52) (ic := 48) C hXS hl0 hx0 (by decide +kernel) (by decide) (by decide) rfl w0 w1 (fun _ hq => List.mem_cons_of_mem _ (List.mem_append_left _ (List.mem_append_right _ hq))) (by decide +kernel) (by decide +kernel) dX4_begin_31 dX4_begin_34 dX4_begin_35 dX4_begin_37 dX4_begin_40 (Nat.le_of_ble_eq_true rfl) (Nat.le_of_ble_eq_true rfl) (Nat.le_of_ble_eq_true rfl) (Nat.le_of_ble_eq_true rfl) (Nat.le_of_ble_eq_true rfl) (Nat.le_of_ble_eq_true rfl) (Nat.le_of_ble_eq_true rfl)
      · refine J_iload_n C dX4_begin_25 rfl 2 rfl ?_
        refine J_ldc C dX4_begin_26 (v := nI 999999) w2 ?_
        refine J_icmp_leR (tgt := 41) C dX4_begin_28 (by decide) (by omega) (fun cq28 => ?_) (fun cq28 => ?_)
        · exact absurd cq28 (by omega)
        · exact J_throw (cls := "java/lang/IllegalArgumentException") (text := "s is out of range") (ik := 44) (is := 52) (ic := 48) C hXS hl0 hx0 (by decide +kernel) (by decide) (by decide) rfl w0 w1 (fun _ hq => List.mem_cons_of_mem _ (List.mem_append_left _ (List.mem_append_right _ hq))) (by decide +kernel) (by decide +kernel) dX4_begin_31 dX4_begin_34 dX4_begin_35 dX4_begin_37 dX4_begin_40 (Nat.le_of_ble_eq_true rfl) (Nat.le_of_ble_eq_true rfl) (Nat.le_of_ble_eq_true rfl) (Nat.le_of_ble_eq_true rfl) (Nat.le_of_ble_eq_true rfl) (Nat.le_of_ble_eq_true rfl) (Nat.le_of_ble_eq_true rfl)
    · exact J_throw (cls := "java/lang/IllegalArgumentException") (text := "an evening is for 3 or 4 guests") (ik := 44) (is := 46) (ic := 48) C hXS hl0 hx0 (by decide +kernel) (by decide) (by decide) rfl w0 w1 (fun _ hq => List.mem_cons_of_mem _ (List.mem_append_left _ (List.mem_append_right _ hq))) (by decide +kernel) (by decide +kernel) dX4_begin_10 dX4_begin_13 dX4_begin_14 dX4_begin_16 dX4_begin_19 (Nat.le_of_ble_eq_true rfl) (Nat.le_of_ble_eq_true rfl) (Nat.le_of_ble_eq_true rfl) (Nat.le_of_ble_eq_true rfl) (Nat.le_of_ble_eq_true rfl) (Nat.le_of_ble_eq_true rfl) (Nat.le_of_ble_eq_true rfl)

set_option maxHeartbeats 4000000 in
set_option maxRecDepth 100000 in
theorem kX4_begin_x2 (ll : Launch) (Y : GY) (hl0 : ll.stackTraces = false) (h : Nat → Nat) (sc : Nat) (a : Nat → Nat) (x : Nat → Nat) (n : Nat) (z : Int32) (hn3 : n = 3 ∨ n = 4) (hz : -1 ≤ z.toInt ∧ z.toInt ≤ 999999) (hgo : x 2 = 1) : CX ll yX4_begin wsX4_begin { frames := 6, cells := 1, slots := 6, locals := 90 } Y [.ref (h 0), .int (nI n), .int z] [oB (h 0) 4 [.ref (a 0), .ref (h 1), .int (nI sc), .ref (h 3), .ref (h 4), .ref (h 5), .ref (h 6)], oB (a 0) 1 [.int (nI (x 0)), .int (nI (x 1)), .int (nI (x 2)), .int (nI (x 3)), .int (nI (x 4)), .int (nI (x 5)), .int (nI (x 6)), .int (nI (x 7)), .int (nI (x 8)), .ref (a 1), .int (nI (x 10)), .ref (a 2), .int (nI (x 12)), .ref (a 3), .ref (a 4), .ref (a 5), .ref (a 6)]] "java/lang/IllegalStateException" 1 6 := by
  refine CX_of (cc := cX4_begin) (maxL := 4) (ret := (some .int)) (by decide) rfl (Nat.le_of_ble_eq_true rfl) ?_
  intro pp ee ss mm bl mt cc AA C hXS hx0
  have w0 := C.t _ (List.mem_of_getElem? (i := 5) (show wsX4_begin[5]? = some (Cond.constant RX4 51 (999999)) from rfl))
  have w1 := C.t _ (List.mem_of_getElem? (i := 6) (show wsX4_begin[6]? = some (Cond.fieldLink RX4 10 "SecretDinner" "now" "LSecretDinner$Dinner;") from rfl))
  have w2 := C.nf ("SecretDinner", 54, "SecretDinner$Dinner", "going", "Z") (List.mem_of_getElem? (i := 2) (show xn_f[2]? = some ("SecretDinner", 54, "SecretDinner$Dinner", "going", "Z") from rfl))
  have w3 := C.t _ (List.mem_of_getElem? (i := 3) (show wsX4_begin[3]? = some (Cond.classLink RX4 58 "java/lang/IllegalStateException") from rfl))
  have w4 := C.t _ (List.mem_of_getElem? (i := 4) (show wsX4_begin[4]? = some (Cond.initialized "java/lang/IllegalStateException") from rfl))
  have i4 : ∀ w ∈ wsX40, w ∈ wsX4_begin := inPlaces [117, 118, 119, 120, 121, 122, 123] (by decide +kernel)
  have i1 : ∀ w ∈ wsX10, w ∈ wsX4_begin := inPlaces [124, 125, 126, 127, 128, 129, 130, 131, 132, 133, 134, 135, 136, 137, 138, 139, 140] (by decide +kernel)
  refine J_eq (lv' := [(0, .ref (h 0)), (1, .int (nI n)), (2, .int z)]) (ws' := [oB (h 0) 4 [.ref (a 0), .ref (h 1), .int (nI sc), .ref (h 3), .ref (h 4), .ref (h 5), .ref (h 6)], oB (a 0) 1 [.int (nI (x 0)), .int (nI (x 1)), .int (nI (x 2)), .int (nI (x 3)), .int (nI (x 4)), .int (nI (x 5)), .int (nI (x 6)), .int (nI (x 7)), .int (nI (x 8)), .ref (a 1), .int (nI (x 10)), .ref (a 2), .int (nI (x 12)), .ref (a 3), .ref (a 4), .ref (a 5), .ref (a 6)]]) rfl rfl rfl rfl ?_
  have m1T : (iZ (-1)).toInt = -1 := by decide
  refine J_iload_n C dX4_begin_0 rfl 1 rfl ?_
  refine J_iconst C dX4_begin_1 (v := nI 3) (by decide) ?_
  refine J_icmp_ltN (tgt := 10) C dX4_begin_2 (by decide) (by omega) (by omega) (fun cq2 => ?_) (fun cq2 => ?_)
  · exact absurd cq2 (by omega)
  · refine J_iload_n C dX4_begin_5 rfl 1 rfl ?_
    refine J_iconst C dX4_begin_6 (v := nI 4) (by decide) ?_
    refine J_icmp_leN (tgt := 20) C dX4_begin_7 (by decide) (by omega) (by omega) (fun cq7 => ?_) (fun cq7 => ?_)
    · refine J_iload_n C dX4_begin_20 rfl 2 rfl ?_
      refine J_iconst C dX4_begin_21 (v := iZ ((-1))) (by decide) ?_
      refine J_icmp_ltT (tgt := 31) C dX4_begin_22 (by decide) (fun cq22 => ?_) (fun cq22 => ?_)
      · exact absurd cq22 (by omega)
      · refine J_iload_n C dX4_begin_25 rfl 2 rfl ?_
        refine J_ldc C dX4_begin_26 (v := nI 999999) w0 ?_
        refine J_icmp_leR (tgt := 41) C dX4_begin_28 (by decide) (by omega) (fun cq28 => ?_) (fun cq28 => ?_)
        · refine J_aload_n C dX4_begin_41 rfl 0 rfl ?_
          refine J_get (ci := 4) C i4 rfl 0 (by decide) w1 rfl 0 rfl rfl dX4_begin_42 ?_
          refine J_getN (ci := 1) C i1 rfl 2 (by decide) w2 rfl 1 rfl rfl dX4_begin_45 ?_
          refine J_if_eqN (tgt := 61) C dX4_begin_48 (by decide) (by omega) (fun cq48 => ?_) (fun cq48 => ?_)
          · exact absurd cq48 (by omega)
          · exact J_throw (cls := "java/lang/IllegalStateException") (text := "an evening goes on") (ik := 58) (is := 60) (ic := 62) C hXS hl0 hx0 (by decide +kernel) (by decide) (by decide) rfl w3 w4 (fun _ hq => List.mem_cons_of_mem _ (List.mem_append_right _ hq)) (by decide +kernel) (by decide +kernel) dX4_begin_51 dX4_begin_54 dX4_begin_55 dX4_begin_57 dX4_begin_60 (Nat.le_of_ble_eq_true rfl) (Nat.le_of_ble_eq_true rfl) (Nat.le_of_ble_eq_true rfl) (Nat.le_of_ble_eq_true rfl) (Nat.le_of_ble_eq_true rfl) (Nat.le_of_ble_eq_true rfl) (Nat.le_of_ble_eq_true rfl)
        · exact absurd cq28 (by omega)
    · exact absurd cq7 (by omega)

set_option maxHeartbeats 4000000 in
set_option maxRecDepth 100000 in
theorem kX4_ask_x1 (ll : Launch) (Y : GY) (hl0 : ll.stackTraces = false) (h : Nat → Nat) (sc : Nat) (a : Nat → Nat) (x : Nat → Nat) (g : Int32) (c : Int32) (Lp : Prop) [Decidable Lp] (hx1 : x 1 ≤ 4) (hg : g.toInt < 0 ∨ (x 1 : Int) ≤ g.toInt) : CX ll yX4_ask wsX4_ask { frames := 6, cells := 1, slots := 6, locals := 90 } Y [.ref (h 0), .int g, .int c, .int (p2i (Lp))] [oB (h 0) 4 [.ref (a 0), .ref (h 1), .int (nI sc), .ref (h 3), .ref (h 4), .ref (h 5), .ref (h 6)], oB (a 0) 1 [.int (nI (x 0)), .int (nI (x 1)), .int (nI (x 2)), .int (nI (x 3)), .int (nI (x 4)), .int (nI (x 5)), .int (nI (x 6)), .int (nI (x 7)), .int (nI (x 8)), .ref (a 1), .int (nI (x 10)), .ref (a 2), .int (nI (x 12)), .ref (a 3), .ref (a 4), .ref (a 5), .ref (a 6)]] "java/lang/IndexOutOfBoundsException" 1 6 := by
  refine CX_of (cc := cX4_ask) (maxL := 4) (ret := (some .int)) (by decide) rfl (Nat.le_of_ble_eq_true rfl) ?_
  intro pp ee ss mm bl mt cc AA C hXS hx0
  have w0 := C.t _ (List.mem_of_getElem? (i := 7) (show wsX4_ask[7]? = some (Cond.fieldLink RX4 10 "SecretDinner" "now" "LSecretDinner$Dinner;") from rfl))
  have w1 := C.t _ (List.mem_of_getElem? (i := 1) (show wsX4_ask[1]? = some (Cond.classLink RX4 82 "java/lang/IndexOutOfBoundsException") from rfl))
  have w2 := C.t _ (List.mem_of_getElem? (i := 2) (show wsX4_ask[2]? = some (Cond.initialized "java/lang/IndexOutOfBoundsException") from rfl))
  have i4 : ∀ w ∈ wsX40, w ∈ wsX4_ask := inPlaces [121, 122, 123, 124, 125, 126, 127] (by decide +kernel)
  refine J_eq (lv' := [(0, .ref (h 0)), (1, .int g), (2, .int c), (3, .int (p2i (Lp)))]) (ws' := [oB (h 0) 4 [.ref (a 0), .ref (h 1), .int (nI sc), .ref (h 3), .ref (h 4), .ref (h 5), .ref (h 6)], oB (a 0) 1 [.int (nI (x 0)), .int (nI (x 1)), .int (nI (x 2)), .int (nI (x 3)), .int (nI (x 4)), .int (nI (x 5)), .int (nI (x 6)), .int (nI (x 7)), .int (nI (x 8)), .ref (a 1), .int (nI (x 10)), .ref (a 2), .int (nI (x 12)), .ref (a 3), .ref (a 4), .ref (a 5), .ref (a 6)]]) rfl rfl rfl rfl ?_
  refine J_aload_n C dX4_ask_0 rfl 0 rfl ?_
  refine J_get (ci := 4) C i4 rfl 0 (by decide) w0 rfl 0 rfl rfl dX4_ask_1 ?_
  refine J_iload_n C dX4_ask_4 rfl 1 rfl ?_
  refine J_callI (wr := [oB (h 0) 4 [.ref (a 0), .ref (h 1), .int (nI sc), .ref (h 3), .ref (h 4), .ref (h 5), .ref (h 6)]]) C (R_V (st := []) (wc := [oB (a 0) 1 [.int (nI (x 0)), .int (nI (x 1)), .int (nI (x 2)), .int (nI (x 3)), .int (nI (x 4)), .int (nI (x 5)), .int (nI (x 6)), .int (nI (x 7)), .int (nI (x 8)), .ref (a 1), .int (nI (x 10)), .ref (a 2), .int (nI (x 12)), .ref (a 3), .ref (a 4), .ref (a 5), .ref (a 6)]]) C (kX1_hasGuest ll Y a x g (by first | assumption | omega)) (cwV 1 C.t gX4_ask_X1_hasGuest rfl rfl rfl (by decide +kernel) ⟨by decide, by decide⟩) rfl [1] rfl (by decide) ⟨0, 1, _, _, rfl, rfl, rfl⟩ rfl (Nat.le_of_ble_eq_true rfl) dX4_ask_5 ⟨Nat.le_of_ble_eq_true rfl, Nat.le_of_ble_eq_true rfl⟩) [1] [0] rfl rfl (by decide) (by decide) (fun r5 u5 hw5 => ?_)
  subst hw5
  refine J_eq (pc' := 8) (lv' := [(0, .ref (h 0)), (1, .int g), (2, .int c), (3, .int (p2i (Lp)))]) (st' := [.int (p2i (0 ≤ g.toInt ∧ g.toInt < (x 1 : Int)))]) (ws' := [oB (h 0) 4 [.ref (a 0), .ref (h 1), .int (nI sc), .ref (h 3), .ref (h 4), .ref (h 5), .ref (h 6)], oB (a 0) 1 [.int (nI (x 0)), .int (nI (x 1)), .int (nI (x 2)), .int (nI (x 3)), .int (nI (x 4)), .int (nI (x 5)), .int (nI (x 6)), .int (nI (x 7)), .int (nI (x 8)), .ref (a 1), .int (nI (x 10)), .ref (a 2), .int (nI (x 12)), .ref (a 3), .ref (a 4), .ref (a 5), .ref (a 6)]]) rfl rfl rfl rfl ?_
  refine J_if_neP (tgt := 21) C dX4_ask_8 (by decide) (fun cq8 => ?_) (fun cq8 => ?_)
  · exact absurd cq8 (by omega)
  · exact J_throw (cls := "java/lang/IndexOutOfBoundsException") (text := "no such guest") (ik := 82) (is := 84) (ic := 86) C hXS hl0 hx0 (by decide +kernel) (by decide) (by decide) rfl w1 w2 (fun _ hq => List.mem_cons_of_mem _ (List.mem_append_left _ (List.mem_append_left _ (List.mem_append_right _ hq)))) (by decide +kernel) (by decide +kernel) dX4_ask_11 dX4_ask_14 dX4_ask_15 dX4_ask_17 dX4_ask_20 (Nat.le_of_ble_eq_true rfl) (Nat.le_of_ble_eq_true rfl) (Nat.le_of_ble_eq_true rfl) (Nat.le_of_ble_eq_true rfl) (Nat.le_of_ble_eq_true rfl) (Nat.le_of_ble_eq_true rfl) (Nat.le_of_ble_eq_true rfl)

set_option maxHeartbeats 4000000 in
set_option maxRecDepth 100000 in
theorem kX4_ask_x2 (ll : Launch) (Y : GY) (hl0 : ll.stackTraces = false) (h : Nat → Nat) (sc : Nat) (a : Nat → Nat) (x : Nat → Nat) (g : Nat) (c : Int32) (Lp : Prop) [Decidable Lp] (hx1 : x 1 ≤ 4) (hg : g < x 1) (hc : c.toInt < 1 ∨ 255 < c.toInt) : CX ll yX4_ask wsX4_ask { frames := 6, cells := 1, slots := 6, locals := 90 } Y [.ref (h 0), .int (nI g), .int c, .int (p2i (Lp))] [oB (h 0) 4 [.ref (a 0), .ref (h 1), .int (nI sc), .ref (h 3), .ref (h 4), .ref (h 5), .ref (h 6)], oB (a 0) 1 [.int (nI (x 0)), .int (nI (x 1)), .int (nI (x 2)), .int (nI (x 3)), .int (nI (x 4)), .int (nI (x 5)), .int (nI (x 6)), .int (nI (x 7)), .int (nI (x 8)), .ref (a 1), .int (nI (x 10)), .ref (a 2), .int (nI (x 12)), .ref (a 3), .ref (a 4), .ref (a 5), .ref (a 6)]] "java/lang/IllegalArgumentException" 1 6 := by
  refine CX_of (cc := cX4_ask) (maxL := 4) (ret := (some .int)) (by decide) rfl (Nat.le_of_ble_eq_true rfl) ?_
  intro pp ee ss mm bl mt cc AA C hXS hx0
  have w0 := C.t _ (List.mem_of_getElem? (i := 7) (show wsX4_ask[7]? = some (Cond.fieldLink RX4 10 "SecretDinner" "now" "LSecretDinner$Dinner;") from rfl))
  have w1 := C.t _ (List.mem_of_getElem? (i := 3) (show wsX4_ask[3]? = some (Cond.classLink RX4 44 "java/lang/IllegalArgumentException") from rfl))
  have w2 := C.t _ (List.mem_of_getElem? (i := 4) (show wsX4_ask[4]? = some (Cond.initialized "java/lang/IllegalArgumentException") from rfl))
  have i4 : ∀ w ∈ wsX40, w ∈ wsX4_ask := inPlaces [121, 122, 123, 124, 125, 126, 127] (by decide +kernel)
  refine J_eq (lv' := [(0, .ref (h 0)), (1, .int (nI g)), (2, .int c), (3, .int (p2i (Lp)))]) (ws' := [oB (h 0) 4 [.ref (a 0), .ref (h 1), .int (nI sc), .ref (h 3), .ref (h 4), .ref (h 5), .ref (h 6)], oB (a 0) 1 [.int (nI (x 0)), .int (nI (x 1)), .int (nI (x 2)), .int (nI (x 3)), .int (nI (x 4)), .int (nI (x 5)), .int (nI (x 6)), .int (nI (x 7)), .int (nI (x 8)), .ref (a 1), .int (nI (x 10)), .ref (a 2), .int (nI (x 12)), .ref (a 3), .ref (a 4), .ref (a 5), .ref (a 6)]]) rfl rfl rfl rfl ?_
  refine J_aload_n C dX4_ask_0 rfl 0 rfl ?_
  refine J_get (ci := 4) C i4 rfl 0 (by decide) w0 rfl 0 rfl rfl dX4_ask_1 ?_
  refine J_iload_n C dX4_ask_4 rfl 1 rfl ?_
  refine J_callI (wr := [oB (h 0) 4 [.ref (a 0), .ref (h 1), .int (nI sc), .ref (h 3), .ref (h 4), .ref (h 5), .ref (h 6)]]) C (R_V (st := []) (wc := [oB (a 0) 1 [.int (nI (x 0)), .int (nI (x 1)), .int (nI (x 2)), .int (nI (x 3)), .int (nI (x 4)), .int (nI (x 5)), .int (nI (x 6)), .int (nI (x 7)), .int (nI (x 8)), .ref (a 1), .int (nI (x 10)), .ref (a 2), .int (nI (x 12)), .ref (a 3), .ref (a 4), .ref (a 5), .ref (a 6)]]) C (kX1_hasGuest_n ll Y a x g (by first | assumption | omega) (by first | assumption | omega)) (cwV 1 C.t gX4_ask_X1_hasGuest rfl rfl rfl (by decide +kernel) ⟨by decide, by decide⟩) rfl [1] rfl (by decide) ⟨0, 1, _, _, rfl, rfl, rfl⟩ rfl (Nat.le_of_ble_eq_true rfl) dX4_ask_5 ⟨Nat.le_of_ble_eq_true rfl, Nat.le_of_ble_eq_true rfl⟩) [1] [0] rfl rfl (by decide) (by decide) (fun r5 u5 hw5 => ?_)
  subst hw5
  refine J_eq (pc' := 8) (lv' := [(0, .ref (h 0)), (1, .int (nI g)), (2, .int c), (3, .int (p2i (Lp)))]) (st' := [.int (p2i (g < x 1))]) (ws' := [oB (h 0) 4 [.ref (a 0), .ref (h 1), .int (nI sc), .ref (h 3), .ref (h 4), .ref (h 5), .ref (h 6)], oB (a 0) 1 [.int (nI (x 0)), .int (nI (x 1)), .int (nI (x 2)), .int (nI (x 3)), .int (nI (x 4)), .int (nI (x 5)), .int (nI (x 6)), .int (nI (x 7)), .int (nI (x 8)), .ref (a 1), .int (nI (x 10)), .ref (a 2), .int (nI (x 12)), .ref (a 3), .ref (a 4), .ref (a 5), .ref (a 6)]]) rfl rfl rfl rfl ?_
  refine J_if_neP (tgt := 21) C dX4_ask_8 (by decide) (fun cq8 => ?_) (fun cq8 => ?_)
  · refine J_iload_n C dX4_ask_21 rfl 2 rfl ?_
    refine J_callI (wr := [oB (h 0) 4 [.ref (a 0), .ref (h 1), .int (nI sc), .ref (h 3), .ref (h 4), .ref (h 5), .ref (h 6)], oB (a 0) 1 [.int (nI (x 0)), .int (nI (x 1)), .int (nI (x 2)), .int (nI (x 3)), .int (nI (x 4)), .int (nI (x 5)), .int (nI (x 6)), .int (nI (x 7)), .int (nI (x 8)), .ref (a 1), .int (nI (x 10)), .ref (a 2), .int (nI (x 12)), .ref (a 3), .ref (a 4), .ref (a 5), .ref (a 6)]]) C (R_S (st := []) (wc := []) C (kX4_isQuestion ll Y c) (va_cwS 1 C.t gX4_ask_X4_isQuestion rfl rfl rfl (by decide +kernel) ⟨by decide, by decide⟩) rfl [] rfl (by decide) rfl (Nat.le_of_ble_eq_true rfl) dX4_ask_22 ⟨Nat.le_of_ble_eq_true rfl, Nat.le_of_ble_eq_true rfl⟩) [] [0, 1] rfl rfl (by decide) (by decide) (fun r22 u22 hw22 => ?_)
    subst hw22
    refine J_eq (pc' := 25) (lv' := [(0, .ref (h 0)), (1, .int (nI g)), (2, .int c), (3, .int (p2i (Lp)))]) (st' := [.int (p2i (1 ≤ c.toInt ∧ c.toInt ≤ 255))]) (ws' := [oB (h 0) 4 [.ref (a 0), .ref (h 1), .int (nI sc), .ref (h 3), .ref (h 4), .ref (h 5), .ref (h 6)], oB (a 0) 1 [.int (nI (x 0)), .int (nI (x 1)), .int (nI (x 2)), .int (nI (x 3)), .int (nI (x 4)), .int (nI (x 5)), .int (nI (x 6)), .int (nI (x 7)), .int (nI (x 8)), .ref (a 1), .int (nI (x 10)), .ref (a 2), .int (nI (x 12)), .ref (a 3), .ref (a 4), .ref (a 5), .ref (a 6)]]) rfl rfl rfl rfl ?_
    refine J_if_neP (tgt := 38) C dX4_ask_25 (by decide) (fun cq25 => ?_) (fun cq25 => ?_)
    · exact absurd cq25 (by omega)
    · exact J_throw (cls := "java/lang/IllegalArgumentException") (text := "cards is out of range") (ik := 44) (is := 90) (ic := 48) C hXS hl0 hx0 (by decide +kernel) (by decide) (by decide) rfl w1 w2 (fun _ hq => List.mem_cons_of_mem _ (List.mem_append_left _ (List.mem_append_right _ hq))) (by decide +kernel) (by decide +kernel) dX4_ask_28 dX4_ask_31 dX4_ask_32 dX4_ask_34 dX4_ask_37 (Nat.le_of_ble_eq_true rfl) (Nat.le_of_ble_eq_true rfl) (Nat.le_of_ble_eq_true rfl) (Nat.le_of_ble_eq_true rfl) (Nat.le_of_ble_eq_true rfl) (Nat.le_of_ble_eq_true rfl) (Nat.le_of_ble_eq_true rfl)
  · exact absurd cq8 (by omega)

set_option maxHeartbeats 4000000 in
set_option maxRecDepth 100000 in
theorem kX4_ask_x3 (ll : Launch) (Y : GY) (hl0 : ll.stackTraces = false) (h : Nat → Nat) (sc : Nat) (a : Nat → Nat) (x : Nat → Nat) (g : Nat) (c : Nat) (Lp : Prop) [Decidable Lp] (hx1 : x 1 ≤ 4) (hx2 : x 2 ≤ 1) (hx7 : x 7 < 16) (hx8 : x 8 < 16) (hx12 : x 12 ≤ 20) (hg : g < x 1) (hc : 1 ≤ c ∧ c ≤ 255) (hcan : ¬ ((x 2 = 1 ∧ g < x 1 ∧ x 7 / 2 ^ g &&& 1 = 1) ∧ x 12 < 20 ∧ ¬ (Lp ∧ x 8 / 2 ^ g &&& 1 = 1))) : CX ll yX4_ask wsX4_ask { frames := 6, cells := 1, slots := 6, locals := 90 } Y [.ref (h 0), .int (nI g), .int (nI c), .int (p2i (Lp))] [oB (h 0) 4 [.ref (a 0), .ref (h 1), .int (nI sc), .ref (h 3), .ref (h 4), .ref (h 5), .ref (h 6)], oB (a 0) 1 [.int (nI (x 0)), .int (nI (x 1)), .int (nI (x 2)), .int (nI (x 3)), .int (nI (x 4)), .int (nI (x 5)), .int (nI (x 6)), .int (nI (x 7)), .int (nI (x 8)), .ref (a 1), .int (nI (x 10)), .ref (a 2), .int (nI (x 12)), .ref (a 3), .ref (a 4), .ref (a 5), .ref (a 6)]] "java/lang/IllegalStateException" 1 6 := by
  refine CX_of (cc := cX4_ask) (maxL := 4) (ret := (some .int)) (by decide) rfl (Nat.le_of_ble_eq_true rfl) ?_
  intro pp ee ss mm bl mt cc AA C hXS hx0
  have w0 := C.t _ (List.mem_of_getElem? (i := 7) (show wsX4_ask[7]? = some (Cond.fieldLink RX4 10 "SecretDinner" "now" "LSecretDinner$Dinner;") from rfl))
  have w1 := C.t _ (List.mem_of_getElem? (i := 5) (show wsX4_ask[5]? = some (Cond.classLink RX4 58 "java/lang/IllegalStateException") from rfl))
  have w2 := C.t _ (List.mem_of_getElem? (i := 6) (show wsX4_ask[6]? = some (Cond.initialized "java/lang/IllegalStateException") from rfl))
  have i4 : ∀ w ∈ wsX40, w ∈ wsX4_ask := inPlaces [121, 122, 123, 124, 125, 126, 127] (by decide +kernel)
  refine J_eq (lv' := [(0, .ref (h 0)), (1, .int (nI g)), (2, .int (nI c)), (3, .int (p2i (Lp)))]) (ws' := [oB (h 0) 4 [.ref (a 0), .ref (h 1), .int (nI sc), .ref (h 3), .ref (h 4), .ref (h 5), .ref (h 6)], oB (a 0) 1 [.int (nI (x 0)), .int (nI (x 1)), .int (nI (x 2)), .int (nI (x 3)), .int (nI (x 4)), .int (nI (x 5)), .int (nI (x 6)), .int (nI (x 7)), .int (nI (x 8)), .ref (a 1), .int (nI (x 10)), .ref (a 2), .int (nI (x 12)), .ref (a 3), .ref (a 4), .ref (a 5), .ref (a 6)]]) rfl rfl rfl rfl ?_
  refine J_aload_n C dX4_ask_0 rfl 0 rfl ?_
  refine J_get (ci := 4) C i4 rfl 0 (by decide) w0 rfl 0 rfl rfl dX4_ask_1 ?_
  refine J_iload_n C dX4_ask_4 rfl 1 rfl ?_
  refine J_callI (wr := [oB (h 0) 4 [.ref (a 0), .ref (h 1), .int (nI sc), .ref (h 3), .ref (h 4), .ref (h 5), .ref (h 6)]]) C (R_V (st := []) (wc := [oB (a 0) 1 [.int (nI (x 0)), .int (nI (x 1)), .int (nI (x 2)), .int (nI (x 3)), .int (nI (x 4)), .int (nI (x 5)), .int (nI (x 6)), .int (nI (x 7)), .int (nI (x 8)), .ref (a 1), .int (nI (x 10)), .ref (a 2), .int (nI (x 12)), .ref (a 3), .ref (a 4), .ref (a 5), .ref (a 6)]]) C (kX1_hasGuest_n ll Y a x g (by first | assumption | omega) (by first | assumption | omega)) (cwV 1 C.t gX4_ask_X1_hasGuest rfl rfl rfl (by decide +kernel) ⟨by decide, by decide⟩) rfl [1] rfl (by decide) ⟨0, 1, _, _, rfl, rfl, rfl⟩ rfl (Nat.le_of_ble_eq_true rfl) dX4_ask_5 ⟨Nat.le_of_ble_eq_true rfl, Nat.le_of_ble_eq_true rfl⟩) [1] [0] rfl rfl (by decide) (by decide) (fun r5 u5 hw5 => ?_)
  subst hw5
  refine J_eq (pc' := 8) (lv' := [(0, .ref (h 0)), (1, .int (nI g)), (2, .int (nI c)), (3, .int (p2i (Lp)))]) (st' := [.int (p2i (g < x 1))]) (ws' := [oB (h 0) 4 [.ref (a 0), .ref (h 1), .int (nI sc), .ref (h 3), .ref (h 4), .ref (h 5), .ref (h 6)], oB (a 0) 1 [.int (nI (x 0)), .int (nI (x 1)), .int (nI (x 2)), .int (nI (x 3)), .int (nI (x 4)), .int (nI (x 5)), .int (nI (x 6)), .int (nI (x 7)), .int (nI (x 8)), .ref (a 1), .int (nI (x 10)), .ref (a 2), .int (nI (x 12)), .ref (a 3), .ref (a 4), .ref (a 5), .ref (a 6)]]) rfl rfl rfl rfl ?_
  refine J_if_neP (tgt := 21) C dX4_ask_8 (by decide) (fun cq8 => ?_) (fun cq8 => ?_)
  · refine J_iload_n C dX4_ask_21 rfl 2 rfl ?_
    refine J_callI (wr := [oB (h 0) 4 [.ref (a 0), .ref (h 1), .int (nI sc), .ref (h 3), .ref (h 4), .ref (h 5), .ref (h 6)], oB (a 0) 1 [.int (nI (x 0)), .int (nI (x 1)), .int (nI (x 2)), .int (nI (x 3)), .int (nI (x 4)), .int (nI (x 5)), .int (nI (x 6)), .int (nI (x 7)), .int (nI (x 8)), .ref (a 1), .int (nI (x 10)), .ref (a 2), .int (nI (x 12)), .ref (a 3), .ref (a 4), .ref (a 5), .ref (a 6)]]) C (R_S (st := []) (wc := []) C (kX4_isQuestion_n ll Y c (by first | assumption | omega)) (va_cwS 1 C.t gX4_ask_X4_isQuestion rfl rfl rfl (by decide +kernel) ⟨by decide, by decide⟩) rfl [] rfl (by decide) rfl (Nat.le_of_ble_eq_true rfl) dX4_ask_22 ⟨Nat.le_of_ble_eq_true rfl, Nat.le_of_ble_eq_true rfl⟩) [] [0, 1] rfl rfl (by decide) (by decide) (fun r22 u22 hw22 => ?_)
    subst hw22
    refine J_eq (pc' := 25) (lv' := [(0, .ref (h 0)), (1, .int (nI g)), (2, .int (nI c)), (3, .int (p2i (Lp)))]) (st' := [.int (p2i (1 ≤ c ∧ c ≤ 255))]) (ws' := [oB (h 0) 4 [.ref (a 0), .ref (h 1), .int (nI sc), .ref (h 3), .ref (h 4), .ref (h 5), .ref (h 6)], oB (a 0) 1 [.int (nI (x 0)), .int (nI (x 1)), .int (nI (x 2)), .int (nI (x 3)), .int (nI (x 4)), .int (nI (x 5)), .int (nI (x 6)), .int (nI (x 7)), .int (nI (x 8)), .ref (a 1), .int (nI (x 10)), .ref (a 2), .int (nI (x 12)), .ref (a 3), .ref (a 4), .ref (a 5), .ref (a 6)]]) rfl rfl rfl rfl ?_
    refine J_if_neP (tgt := 38) C dX4_ask_25 (by decide) (fun cq25 => ?_) (fun cq25 => ?_)
    · refine J_aload_n C dX4_ask_38 rfl 0 rfl ?_
      refine J_get (ci := 4) C i4 rfl 0 (by decide) w0 rfl 0 rfl rfl dX4_ask_39 ?_
      refine J_iload_n C dX4_ask_42 rfl 1 rfl ?_
      refine J_iload_n C dX4_ask_43 rfl 3 rfl ?_
      refine J_callI (wr := [oB (h 0) 4 [.ref (a 0), .ref (h 1), .int (nI sc), .ref (h 3), .ref (h 4), .ref (h 5), .ref (h 6)]]) C (R_V (st := []) (wc := [oB (a 0) 1 [.int (nI (x 0)), .int (nI (x 1)), .int (nI (x 2)), .int (nI (x 3)), .int (nI (x 4)), .int (nI (x 5)), .int (nI (x 6)), .int (nI (x 7)), .int (nI (x 8)), .ref (a 1), .int (nI (x 10)), .ref (a 2), .int (nI (x 12)), .ref (a 3), .ref (a 4), .ref (a 5), .ref (a 6)]]) C (kX1_canAnswer ll Y a x g Lp (by first | assumption | omega) (by first | assumption | omega) (by first | assumption | omega) (by first | assumption | omega) (by first | assumption | omega) (by first | assumption | omega)) (cwV 2 C.t gX4_ask_X1_canAnswer rfl rfl rfl (by decide +kernel) ⟨by decide, by decide⟩) rfl [1] rfl (by decide) ⟨0, 1, _, _, rfl, rfl, rfl⟩ rfl (Nat.le_of_ble_eq_true rfl) dX4_ask_44 ⟨Nat.le_of_ble_eq_true rfl, Nat.le_of_ble_eq_true rfl⟩) [1] [0] rfl rfl (by decide) (by decide) (fun r44 u44 hw44 => ?_)
      subst hw44
      refine J_eq (pc' := 47) (lv' := [(0, .ref (h 0)), (1, .int (nI g)), (2, .int (nI c)), (3, .int (p2i (Lp)))]) (st' := [.int (p2i ((x 2 = 1 ∧ g < x 1 ∧ x 7 / 2 ^ g &&& 1 = 1) ∧ x 12 < 20 ∧ ¬ (Lp ∧ x 8 / 2 ^ g &&& 1 = 1)))]) (ws' := [oB (h 0) 4 [.ref (a 0), .ref (h 1), .int (nI sc), .ref (h 3), .ref (h 4), .ref (h 5), .ref (h 6)], oB (a 0) 1 [.int (nI (x 0)), .int (nI (x 1)), .int (nI (x 2)), .int (nI (x 3)), .int (nI (x 4)), .int (nI (x 5)), .int (nI (x 6)), .int (nI (x 7)), .int (nI (x 8)), .ref (a 1), .int (nI (x 10)), .ref (a 2), .int (nI (x 12)), .ref (a 3), .ref (a 4), .ref (a 5), .ref (a 6)]]) rfl rfl rfl rfl ?_
      refine J_if_neP (tgt := 60) C dX4_ask_47 (by decide) (fun cq47 => ?_) (fun cq47 => ?_)
      · exact absurd cq47 hcan
      · exact J_throw (cls := "java/lang/IllegalStateException") (text := "the guest cannot be asked so") (ik := 58) (is := 96) (ic := 62) C hXS hl0 hx0 (by decide +kernel) (by decide) (by decide) rfl w1 w2 (fun _ hq => List.mem_cons_of_mem _ (List.mem_append_right _ hq)) (by decide +kernel) (by decide +kernel) dX4_ask_50 dX4_ask_53 dX4_ask_54 dX4_ask_56 dX4_ask_59 (Nat.le_of_ble_eq_true rfl) (Nat.le_of_ble_eq_true rfl) (Nat.le_of_ble_eq_true rfl) (Nat.le_of_ble_eq_true rfl) (Nat.le_of_ble_eq_true rfl) (Nat.le_of_ble_eq_true rfl) (Nat.le_of_ble_eq_true rfl)
    · exact absurd cq25 (by omega)
  · exact absurd cq8 (by omega)

set_option maxHeartbeats 4000000 in
set_option maxRecDepth 100000 in
theorem kX4_prove_x1 (ll : Launch) (Y : GY) (hl0 : ll.stackTraces = false) (h : Nat → Nat) (sc : Nat) (a : Nat → Nat) (x : Nat → Nat) (g : Int32) (c : Int32) (hx1 : x 1 ≤ 4) (hb : g.toInt < 0 ∨ (x 1 : Int) ≤ g.toInt ∨ c.toInt < 0 ∨ 7 < c.toInt) : CX ll yX4_prove wsX4_prove { frames := 6, cells := 1, slots := 6, locals := 90 } Y [.ref (h 0), .int g, .int c] [oB (h 0) 4 [.ref (a 0), .ref (h 1), .int (nI sc), .ref (h 3), .ref (h 4), .ref (h 5), .ref (h 6)], oB (a 0) 1 [.int (nI (x 0)), .int (nI (x 1)), .int (nI (x 2)), .int (nI (x 3)), .int (nI (x 4)), .int (nI (x 5)), .int (nI (x 6)), .int (nI (x 7)), .int (nI (x 8)), .ref (a 1), .int (nI (x 10)), .ref (a 2), .int (nI (x 12)), .ref (a 3), .ref (a 4), .ref (a 5), .ref (a 6)]] "java/lang/IndexOutOfBoundsException" 1 6 := by
  refine CX_of (cc := cX4_prove) (maxL := 3) (ret := (some .boolean)) (by decide) rfl (Nat.le_of_ble_eq_true rfl) ?_
  intro pp ee ss mm bl mt cc AA C hXS hx0
  have w0 := C.t _ (List.mem_of_getElem? (i := 5) (show wsX4_prove[5]? = some (Cond.fieldLink RX4 10 "SecretDinner" "now" "LSecretDinner$Dinner;") from rfl))
  have w1 := C.t _ (List.mem_of_getElem? (i := 1) (show wsX4_prove[1]? = some (Cond.classLink RX4 82 "java/lang/IndexOutOfBoundsException") from rfl))
  have w2 := C.t _ (List.mem_of_getElem? (i := 2) (show wsX4_prove[2]? = some (Cond.initialized "java/lang/IndexOutOfBoundsException") from rfl))
  have i4 : ∀ w ∈ wsX40, w ∈ wsX4_prove := inPlaces [100, 101, 102, 103, 104, 105, 106] (by decide +kernel)
  refine J_eq (lv' := [(0, .ref (h 0)), (1, .int g), (2, .int c)]) (ws' := [oB (h 0) 4 [.ref (a 0), .ref (h 1), .int (nI sc), .ref (h 3), .ref (h 4), .ref (h 5), .ref (h 6)], oB (a 0) 1 [.int (nI (x 0)), .int (nI (x 1)), .int (nI (x 2)), .int (nI (x 3)), .int (nI (x 4)), .int (nI (x 5)), .int (nI (x 6)), .int (nI (x 7)), .int (nI (x 8)), .ref (a 1), .int (nI (x 10)), .ref (a 2), .int (nI (x 12)), .ref (a 3), .ref (a 4), .ref (a 5), .ref (a 6)]]) rfl rfl rfl rfl ?_
  refine J_aload_n C dX4_prove_0 rfl 0 rfl ?_
  refine J_get (ci := 4) C i4 rfl 0 (by decide) w0 rfl 0 rfl rfl dX4_prove_1 ?_
  refine J_iload_n C dX4_prove_4 rfl 1 rfl ?_
  refine J_callI (wr := [oB (h 0) 4 [.ref (a 0), .ref (h 1), .int (nI sc), .ref (h 3), .ref (h 4), .ref (h 5), .ref (h 6)]]) C (R_V (st := []) (wc := [oB (a 0) 1 [.int (nI (x 0)), .int (nI (x 1)), .int (nI (x 2)), .int (nI (x 3)), .int (nI (x 4)), .int (nI (x 5)), .int (nI (x 6)), .int (nI (x 7)), .int (nI (x 8)), .ref (a 1), .int (nI (x 10)), .ref (a 2), .int (nI (x 12)), .ref (a 3), .ref (a 4), .ref (a 5), .ref (a 6)]]) C (kX1_hasGuest ll Y a x g (by first | assumption | omega)) (cwV 1 C.t gX4_prove_X1_hasGuest rfl rfl rfl (by decide +kernel) ⟨by decide, by decide⟩) rfl [1] rfl (by decide) ⟨0, 1, _, _, rfl, rfl, rfl⟩ rfl (Nat.le_of_ble_eq_true rfl) dX4_prove_5 ⟨Nat.le_of_ble_eq_true rfl, Nat.le_of_ble_eq_true rfl⟩) [1] [0] rfl rfl (by decide) (by decide) (fun r5 u5 hw5 => ?_)
  subst hw5
  refine J_eq (pc' := 8) (lv' := [(0, .ref (h 0)), (1, .int g), (2, .int c)]) (st' := [.int (p2i (0 ≤ g.toInt ∧ g.toInt < (x 1 : Int)))]) (ws' := [oB (h 0) 4 [.ref (a 0), .ref (h 1), .int (nI sc), .ref (h 3), .ref (h 4), .ref (h 5), .ref (h 6)], oB (a 0) 1 [.int (nI (x 0)), .int (nI (x 1)), .int (nI (x 2)), .int (nI (x 3)), .int (nI (x 4)), .int (nI (x 5)), .int (nI (x 6)), .int (nI (x 7)), .int (nI (x 8)), .ref (a 1), .int (nI (x 10)), .ref (a 2), .int (nI (x 12)), .ref (a 3), .ref (a 4), .ref (a 5), .ref (a 6)]]) rfl rfl rfl rfl ?_
  refine J_if_eqP (tgt := 18) C dX4_prove_8 (by decide) (fun cq8 => ?_) (fun cq8 => ?_)
  · exact J_throw (cls := "java/lang/IndexOutOfBoundsException") (text := "no such guest or card") (ik := 82) (is := 105) (ic := 86) C hXS hl0 hx0 (by decide +kernel) (by decide) (by decide) rfl w1 w2 (fun _ hq => List.mem_cons_of_mem _ (List.mem_append_left _ (List.mem_append_right _ hq))) (by decide +kernel) (by decide +kernel) dX4_prove_18 dX4_prove_21 dX4_prove_22 dX4_prove_24 dX4_prove_27 (Nat.le_of_ble_eq_true rfl) (Nat.le_of_ble_eq_true rfl) (Nat.le_of_ble_eq_true rfl) (Nat.le_of_ble_eq_true rfl) (Nat.le_of_ble_eq_true rfl) (Nat.le_of_ble_eq_true rfl) (Nat.le_of_ble_eq_true rfl)
  · refine J_iload_n C dX4_prove_11 rfl 2 rfl ?_
    refine J_callI (wr := [oB (h 0) 4 [.ref (a 0), .ref (h 1), .int (nI sc), .ref (h 3), .ref (h 4), .ref (h 5), .ref (h 6)], oB (a 0) 1 [.int (nI (x 0)), .int (nI (x 1)), .int (nI (x 2)), .int (nI (x 3)), .int (nI (x 4)), .int (nI (x 5)), .int (nI (x 6)), .int (nI (x 7)), .int (nI (x 8)), .ref (a 1), .int (nI (x 10)), .ref (a 2), .int (nI (x 12)), .ref (a 3), .ref (a 4), .ref (a 5), .ref (a 6)]]) C (R_S (st := []) (wc := []) C (kX4_isCard ll Y c) (va_cwS 1 C.t gX4_prove_X4_isCard rfl rfl rfl (by decide +kernel) ⟨by decide, by decide⟩) rfl [] rfl (by decide) rfl (Nat.le_of_ble_eq_true rfl) dX4_prove_12 ⟨Nat.le_of_ble_eq_true rfl, Nat.le_of_ble_eq_true rfl⟩) [] [0, 1] rfl rfl (by decide) (by decide) (fun r12 u12 hw12 => ?_)
    subst hw12
    refine J_eq (pc' := 15) (lv' := [(0, .ref (h 0)), (1, .int g), (2, .int c)]) (st' := [.int (p2i (0 ≤ c.toInt ∧ c.toInt < 8))]) (ws' := [oB (h 0) 4 [.ref (a 0), .ref (h 1), .int (nI sc), .ref (h 3), .ref (h 4), .ref (h 5), .ref (h 6)], oB (a 0) 1 [.int (nI (x 0)), .int (nI (x 1)), .int (nI (x 2)), .int (nI (x 3)), .int (nI (x 4)), .int (nI (x 5)), .int (nI (x 6)), .int (nI (x 7)), .int (nI (x 8)), .ref (a 1), .int (nI (x 10)), .ref (a 2), .int (nI (x 12)), .ref (a 3), .ref (a 4), .ref (a 5), .ref (a 6)]]) rfl rfl rfl rfl ?_
    refine J_if_neP (tgt := 28) C dX4_prove_15 (by decide) (fun cq15 => ?_) (fun cq15 => ?_)
    · exact absurd cq15 (by omega)
    · exact J_throw (cls := "java/lang/IndexOutOfBoundsException") (text := "no such guest or card") (ik := 82) (is := 105) (ic := 86) C hXS hl0 hx0 (by decide +kernel) (by decide) (by decide) rfl w1 w2 (fun _ hq => List.mem_cons_of_mem _ (List.mem_append_left _ (List.mem_append_right _ hq))) (by decide +kernel) (by decide +kernel) dX4_prove_18 dX4_prove_21 dX4_prove_22 dX4_prove_24 dX4_prove_27 (Nat.le_of_ble_eq_true rfl) (Nat.le_of_ble_eq_true rfl) (Nat.le_of_ble_eq_true rfl) (Nat.le_of_ble_eq_true rfl) (Nat.le_of_ble_eq_true rfl) (Nat.le_of_ble_eq_true rfl) (Nat.le_of_ble_eq_true rfl)

set_option maxHeartbeats 4000000 in
set_option maxRecDepth 100000 in
theorem kX4_prove_x2 (ll : Launch) (Y : GY) (hl0 : ll.stackTraces = false) (h : Nat → Nat) (sc : Nat) (a : Nat → Nat) (x : Nat → Nat) (g : Nat) (c : Nat) (hx1 : x 1 ≤ 4) (hx2 : x 2 ≤ 1) (hx7 : x 7 < 16) (hg : g < x 1) (hc : c ≤ 7) (hcan : ¬ (x 2 = 1 ∧ g < x 1 ∧ x 7 / 2 ^ g &&& 1 = 1)) : CX ll yX4_prove wsX4_prove { frames := 6, cells := 1, slots := 6, locals := 90 } Y [.ref (h 0), .int (nI g), .int (nI c)] [oB (h 0) 4 [.ref (a 0), .ref (h 1), .int (nI sc), .ref (h 3), .ref (h 4), .ref (h 5), .ref (h 6)], oB (a 0) 1 [.int (nI (x 0)), .int (nI (x 1)), .int (nI (x 2)), .int (nI (x 3)), .int (nI (x 4)), .int (nI (x 5)), .int (nI (x 6)), .int (nI (x 7)), .int (nI (x 8)), .ref (a 1), .int (nI (x 10)), .ref (a 2), .int (nI (x 12)), .ref (a 3), .ref (a 4), .ref (a 5), .ref (a 6)]] "java/lang/IllegalStateException" 1 6 := by
  refine CX_of (cc := cX4_prove) (maxL := 3) (ret := (some .boolean)) (by decide) rfl (Nat.le_of_ble_eq_true rfl) ?_
  intro pp ee ss mm bl mt cc AA C hXS hx0
  have w0 := C.t _ (List.mem_of_getElem? (i := 5) (show wsX4_prove[5]? = some (Cond.fieldLink RX4 10 "SecretDinner" "now" "LSecretDinner$Dinner;") from rfl))
  have w1 := C.t _ (List.mem_of_getElem? (i := 3) (show wsX4_prove[3]? = some (Cond.classLink RX4 58 "java/lang/IllegalStateException") from rfl))
  have w2 := C.t _ (List.mem_of_getElem? (i := 4) (show wsX4_prove[4]? = some (Cond.initialized "java/lang/IllegalStateException") from rfl))
  have i4 : ∀ w ∈ wsX40, w ∈ wsX4_prove := inPlaces [100, 101, 102, 103, 104, 105, 106] (by decide +kernel)
  refine J_eq (lv' := [(0, .ref (h 0)), (1, .int (nI g)), (2, .int (nI c))]) (ws' := [oB (h 0) 4 [.ref (a 0), .ref (h 1), .int (nI sc), .ref (h 3), .ref (h 4), .ref (h 5), .ref (h 6)], oB (a 0) 1 [.int (nI (x 0)), .int (nI (x 1)), .int (nI (x 2)), .int (nI (x 3)), .int (nI (x 4)), .int (nI (x 5)), .int (nI (x 6)), .int (nI (x 7)), .int (nI (x 8)), .ref (a 1), .int (nI (x 10)), .ref (a 2), .int (nI (x 12)), .ref (a 3), .ref (a 4), .ref (a 5), .ref (a 6)]]) rfl rfl rfl rfl ?_
  refine J_aload_n C dX4_prove_0 rfl 0 rfl ?_
  refine J_get (ci := 4) C i4 rfl 0 (by decide) w0 rfl 0 rfl rfl dX4_prove_1 ?_
  refine J_iload_n C dX4_prove_4 rfl 1 rfl ?_
  refine J_callI (wr := [oB (h 0) 4 [.ref (a 0), .ref (h 1), .int (nI sc), .ref (h 3), .ref (h 4), .ref (h 5), .ref (h 6)]]) C (R_V (st := []) (wc := [oB (a 0) 1 [.int (nI (x 0)), .int (nI (x 1)), .int (nI (x 2)), .int (nI (x 3)), .int (nI (x 4)), .int (nI (x 5)), .int (nI (x 6)), .int (nI (x 7)), .int (nI (x 8)), .ref (a 1), .int (nI (x 10)), .ref (a 2), .int (nI (x 12)), .ref (a 3), .ref (a 4), .ref (a 5), .ref (a 6)]]) C (kX1_hasGuest_n ll Y a x g (by first | assumption | omega) (by first | assumption | omega)) (cwV 1 C.t gX4_prove_X1_hasGuest rfl rfl rfl (by decide +kernel) ⟨by decide, by decide⟩) rfl [1] rfl (by decide) ⟨0, 1, _, _, rfl, rfl, rfl⟩ rfl (Nat.le_of_ble_eq_true rfl) dX4_prove_5 ⟨Nat.le_of_ble_eq_true rfl, Nat.le_of_ble_eq_true rfl⟩) [1] [0] rfl rfl (by decide) (by decide) (fun r5 u5 hw5 => ?_)
  subst hw5
  refine J_eq (pc' := 8) (lv' := [(0, .ref (h 0)), (1, .int (nI g)), (2, .int (nI c))]) (st' := [.int (p2i (g < x 1))]) (ws' := [oB (h 0) 4 [.ref (a 0), .ref (h 1), .int (nI sc), .ref (h 3), .ref (h 4), .ref (h 5), .ref (h 6)], oB (a 0) 1 [.int (nI (x 0)), .int (nI (x 1)), .int (nI (x 2)), .int (nI (x 3)), .int (nI (x 4)), .int (nI (x 5)), .int (nI (x 6)), .int (nI (x 7)), .int (nI (x 8)), .ref (a 1), .int (nI (x 10)), .ref (a 2), .int (nI (x 12)), .ref (a 3), .ref (a 4), .ref (a 5), .ref (a 6)]]) rfl rfl rfl rfl ?_
  refine J_if_eqP (tgt := 18) C dX4_prove_8 (by decide) (fun cq8 => ?_) (fun cq8 => ?_)
  · exact absurd cq8 (by omega)
  · refine J_iload_n C dX4_prove_11 rfl 2 rfl ?_
    refine J_callI (wr := [oB (h 0) 4 [.ref (a 0), .ref (h 1), .int (nI sc), .ref (h 3), .ref (h 4), .ref (h 5), .ref (h 6)], oB (a 0) 1 [.int (nI (x 0)), .int (nI (x 1)), .int (nI (x 2)), .int (nI (x 3)), .int (nI (x 4)), .int (nI (x 5)), .int (nI (x 6)), .int (nI (x 7)), .int (nI (x 8)), .ref (a 1), .int (nI (x 10)), .ref (a 2), .int (nI (x 12)), .ref (a 3), .ref (a 4), .ref (a 5), .ref (a 6)]]) C (R_S (st := []) (wc := []) C (kX4_isCard_n ll Y c (by first | assumption | omega)) (va_cwS 1 C.t gX4_prove_X4_isCard rfl rfl rfl (by decide +kernel) ⟨by decide, by decide⟩) rfl [] rfl (by decide) rfl (Nat.le_of_ble_eq_true rfl) dX4_prove_12 ⟨Nat.le_of_ble_eq_true rfl, Nat.le_of_ble_eq_true rfl⟩) [] [0, 1] rfl rfl (by decide) (by decide) (fun r12 u12 hw12 => ?_)
    subst hw12
    refine J_eq (pc' := 15) (lv' := [(0, .ref (h 0)), (1, .int (nI g)), (2, .int (nI c))]) (st' := [.int (p2i (c < 8))]) (ws' := [oB (h 0) 4 [.ref (a 0), .ref (h 1), .int (nI sc), .ref (h 3), .ref (h 4), .ref (h 5), .ref (h 6)], oB (a 0) 1 [.int (nI (x 0)), .int (nI (x 1)), .int (nI (x 2)), .int (nI (x 3)), .int (nI (x 4)), .int (nI (x 5)), .int (nI (x 6)), .int (nI (x 7)), .int (nI (x 8)), .ref (a 1), .int (nI (x 10)), .ref (a 2), .int (nI (x 12)), .ref (a 3), .ref (a 4), .ref (a 5), .ref (a 6)]]) rfl rfl rfl rfl ?_
    refine J_if_neP (tgt := 28) C dX4_prove_15 (by decide) (fun cq15 => ?_) (fun cq15 => ?_)
    · refine J_aload_n C dX4_prove_28 rfl 0 rfl ?_
      refine J_get (ci := 4) C i4 rfl 0 (by decide) w0 rfl 0 rfl rfl dX4_prove_29 ?_
      refine J_iload_n C dX4_prove_32 rfl 1 rfl ?_
      refine J_callI (wr := [oB (h 0) 4 [.ref (a 0), .ref (h 1), .int (nI sc), .ref (h 3), .ref (h 4), .ref (h 5), .ref (h 6)]]) C (R_V (st := []) (wc := [oB (a 0) 1 [.int (nI (x 0)), .int (nI (x 1)), .int (nI (x 2)), .int (nI (x 3)), .int (nI (x 4)), .int (nI (x 5)), .int (nI (x 6)), .int (nI (x 7)), .int (nI (x 8)), .ref (a 1), .int (nI (x 10)), .ref (a 2), .int (nI (x 12)), .ref (a 3), .ref (a 4), .ref (a 5), .ref (a 6)]]) C (kX1_isThere ll Y a x g (by first | assumption | omega) (by first | assumption | omega) (by first | assumption | omega) (by first | assumption | omega)) (cwV 1 C.t gX4_prove_X1_isThere rfl rfl rfl (by decide +kernel) ⟨by decide, by decide⟩) rfl [1] rfl (by decide) ⟨0, 1, _, _, rfl, rfl, rfl⟩ rfl (Nat.le_of_ble_eq_true rfl) dX4_prove_33 ⟨Nat.le_of_ble_eq_true rfl, Nat.le_of_ble_eq_true rfl⟩) [1] [0] rfl rfl (by decide) (by decide) (fun r33 u33 hw33 => ?_)
      subst hw33
      refine J_eq (pc' := 36) (lv' := [(0, .ref (h 0)), (1, .int (nI g)), (2, .int (nI c))]) (st' := [.int (p2i (x 2 = 1 ∧ g < x 1 ∧ x 7 / 2 ^ g &&& 1 = 1))]) (ws' := [oB (h 0) 4 [.ref (a 0), .ref (h 1), .int (nI sc), .ref (h 3), .ref (h 4), .ref (h 5), .ref (h 6)], oB (a 0) 1 [.int (nI (x 0)), .int (nI (x 1)), .int (nI (x 2)), .int (nI (x 3)), .int (nI (x 4)), .int (nI (x 5)), .int (nI (x 6)), .int (nI (x 7)), .int (nI (x 8)), .ref (a 1), .int (nI (x 10)), .ref (a 2), .int (nI (x 12)), .ref (a 3), .ref (a 4), .ref (a 5), .ref (a 6)]]) rfl rfl rfl rfl ?_
      refine J_if_neP (tgt := 49) C dX4_prove_36 (by decide) (fun cq36 => ?_) (fun cq36 => ?_)
      · exact absurd cq36 hcan
      · exact J_throw (cls := "java/lang/IllegalStateException") (text := "the guest cannot prove a card") (ik := 58) (is := 110) (ic := 62) C hXS hl0 hx0 (by decide +kernel) (by decide) (by decide) rfl w1 w2 (fun _ hq => List.mem_cons_of_mem _ (List.mem_append_right _ hq)) (by decide +kernel) (by decide +kernel) dX4_prove_39 dX4_prove_42 dX4_prove_43 dX4_prove_45 dX4_prove_48 (Nat.le_of_ble_eq_true rfl) (Nat.le_of_ble_eq_true rfl) (Nat.le_of_ble_eq_true rfl) (Nat.le_of_ble_eq_true rfl) (Nat.le_of_ble_eq_true rfl) (Nat.le_of_ble_eq_true rfl) (Nat.le_of_ble_eq_true rfl)
    · exact absurd cq15 (by omega)

set_option maxHeartbeats 4000000 in
set_option maxRecDepth 100000 in
theorem kX4_leave_x1 (ll : Launch) (Y : GY) (hl0 : ll.stackTraces = false) (h : Nat → Nat) (sc : Nat) (a : Nat → Nat) (x : Nat → Nat) (g : Int32) (hx1 : x 1 ≤ 4) (hg : g.toInt < 0 ∨ (x 1 : Int) ≤ g.toInt) : CX ll yX4_leave wsX4_leave { frames := 6, cells := 1, slots := 6, locals := 90 } Y [.ref (h 0), .int g] [oB (h 0) 4 [.ref (a 0), .ref (h 1), .int (nI sc), .ref (h 3), .ref (h 4), .ref (h 5), .ref (h 6)], oB (a 0) 1 [.int (nI (x 0)), .int (nI (x 1)), .int (nI (x 2)), .int (nI (x 3)), .int (nI (x 4)), .int (nI (x 5)), .int (nI (x 6)), .int (nI (x 7)), .int (nI (x 8)), .ref (a 1), .int (nI (x 10)), .ref (a 2), .int (nI (x 12)), .ref (a 3), .ref (a 4), .ref (a 5), .ref (a 6)]] "java/lang/IndexOutOfBoundsException" 1 6 := by
  refine CX_of (cc := cX4_leave) (maxL := 2) (ret := (some .int)) (by decide) rfl (Nat.le_of_ble_eq_true rfl) ?_
  intro pp ee ss mm bl mt cc AA C hXS hx0
  have w0 := C.t _ (List.mem_of_getElem? (i := 5) (show wsX4_leave[5]? = some (Cond.fieldLink RX4 10 "SecretDinner" "now" "LSecretDinner$Dinner;") from rfl))
  have w1 := C.t _ (List.mem_of_getElem? (i := 1) (show wsX4_leave[1]? = some (Cond.classLink RX4 82 "java/lang/IndexOutOfBoundsException") from rfl))
  have w2 := C.t _ (List.mem_of_getElem? (i := 2) (show wsX4_leave[2]? = some (Cond.initialized "java/lang/IndexOutOfBoundsException") from rfl))
  have i4 : ∀ w ∈ wsX40, w ∈ wsX4_leave := inPlaces [84, 85, 86, 87, 88, 89, 90] (by decide +kernel)
  refine J_eq (lv' := [(0, .ref (h 0)), (1, .int g)]) (ws' := [oB (h 0) 4 [.ref (a 0), .ref (h 1), .int (nI sc), .ref (h 3), .ref (h 4), .ref (h 5), .ref (h 6)], oB (a 0) 1 [.int (nI (x 0)), .int (nI (x 1)), .int (nI (x 2)), .int (nI (x 3)), .int (nI (x 4)), .int (nI (x 5)), .int (nI (x 6)), .int (nI (x 7)), .int (nI (x 8)), .ref (a 1), .int (nI (x 10)), .ref (a 2), .int (nI (x 12)), .ref (a 3), .ref (a 4), .ref (a 5), .ref (a 6)]]) rfl rfl rfl rfl ?_
  refine J_aload_n C dX4_leave_0 rfl 0 rfl ?_
  refine J_get (ci := 4) C i4 rfl 0 (by decide) w0 rfl 0 rfl rfl dX4_leave_1 ?_
  refine J_iload_n C dX4_leave_4 rfl 1 rfl ?_
  refine J_callI (wr := [oB (h 0) 4 [.ref (a 0), .ref (h 1), .int (nI sc), .ref (h 3), .ref (h 4), .ref (h 5), .ref (h 6)]]) C (R_V (st := []) (wc := [oB (a 0) 1 [.int (nI (x 0)), .int (nI (x 1)), .int (nI (x 2)), .int (nI (x 3)), .int (nI (x 4)), .int (nI (x 5)), .int (nI (x 6)), .int (nI (x 7)), .int (nI (x 8)), .ref (a 1), .int (nI (x 10)), .ref (a 2), .int (nI (x 12)), .ref (a 3), .ref (a 4), .ref (a 5), .ref (a 6)]]) C (kX1_hasGuest ll Y a x g (by first | assumption | omega)) (cwV 1 C.t gX4_leave_X1_hasGuest rfl rfl rfl (by decide +kernel) ⟨by decide, by decide⟩) rfl [1] rfl (by decide) ⟨0, 1, _, _, rfl, rfl, rfl⟩ rfl (Nat.le_of_ble_eq_true rfl) dX4_leave_5 ⟨Nat.le_of_ble_eq_true rfl, Nat.le_of_ble_eq_true rfl⟩) [1] [0] rfl rfl (by decide) (by decide) (fun r5 u5 hw5 => ?_)
  subst hw5
  refine J_eq (pc' := 8) (lv' := [(0, .ref (h 0)), (1, .int g)]) (st' := [.int (p2i (0 ≤ g.toInt ∧ g.toInt < (x 1 : Int)))]) (ws' := [oB (h 0) 4 [.ref (a 0), .ref (h 1), .int (nI sc), .ref (h 3), .ref (h 4), .ref (h 5), .ref (h 6)], oB (a 0) 1 [.int (nI (x 0)), .int (nI (x 1)), .int (nI (x 2)), .int (nI (x 3)), .int (nI (x 4)), .int (nI (x 5)), .int (nI (x 6)), .int (nI (x 7)), .int (nI (x 8)), .ref (a 1), .int (nI (x 10)), .ref (a 2), .int (nI (x 12)), .ref (a 3), .ref (a 4), .ref (a 5), .ref (a 6)]]) rfl rfl rfl rfl ?_
  refine J_if_neP (tgt := 21) C dX4_leave_8 (by decide) (fun cq8 => ?_) (fun cq8 => ?_)
  · exact absurd cq8 (by omega)
  · exact J_throw (cls := "java/lang/IndexOutOfBoundsException") (text := "no such guest") (ik := 82) (is := 84) (ic := 86) C hXS hl0 hx0 (by decide +kernel) (by decide) (by decide) rfl w1 w2 (fun _ hq => List.mem_cons_of_mem _ (List.mem_append_left _ (List.mem_append_right _ hq))) (by decide +kernel) (by decide +kernel) dX4_leave_11 dX4_leave_14 dX4_leave_15 dX4_leave_17 dX4_leave_20 (Nat.le_of_ble_eq_true rfl) (Nat.le_of_ble_eq_true rfl) (Nat.le_of_ble_eq_true rfl) (Nat.le_of_ble_eq_true rfl) (Nat.le_of_ble_eq_true rfl) (Nat.le_of_ble_eq_true rfl) (Nat.le_of_ble_eq_true rfl)

set_option maxHeartbeats 4000000 in
set_option maxRecDepth 100000 in
theorem kX4_leave_x2 (ll : Launch) (Y : GY) (hl0 : ll.stackTraces = false) (h : Nat → Nat) (sc : Nat) (a : Nat → Nat) (x : Nat → Nat) (g : Nat) (hx1 : x 1 ≤ 4) (hx2 : x 2 ≤ 1) (hx7 : x 7 < 16) (hg : g < x 1) (hcan : ¬ (x 2 = 1 ∧ g < x 1 ∧ x 7 / 2 ^ g &&& 1 = 1)) : CX ll yX4_leave wsX4_leave { frames := 6, cells := 1, slots := 6, locals := 90 } Y [.ref (h 0), .int (nI g)] [oB (h 0) 4 [.ref (a 0), .ref (h 1), .int (nI sc), .ref (h 3), .ref (h 4), .ref (h 5), .ref (h 6)], oB (a 0) 1 [.int (nI (x 0)), .int (nI (x 1)), .int (nI (x 2)), .int (nI (x 3)), .int (nI (x 4)), .int (nI (x 5)), .int (nI (x 6)), .int (nI (x 7)), .int (nI (x 8)), .ref (a 1), .int (nI (x 10)), .ref (a 2), .int (nI (x 12)), .ref (a 3), .ref (a 4), .ref (a 5), .ref (a 6)]] "java/lang/IllegalStateException" 1 6 := by
  refine CX_of (cc := cX4_leave) (maxL := 2) (ret := (some .int)) (by decide) rfl (Nat.le_of_ble_eq_true rfl) ?_
  intro pp ee ss mm bl mt cc AA C hXS hx0
  have w0 := C.t _ (List.mem_of_getElem? (i := 5) (show wsX4_leave[5]? = some (Cond.fieldLink RX4 10 "SecretDinner" "now" "LSecretDinner$Dinner;") from rfl))
  have w1 := C.t _ (List.mem_of_getElem? (i := 3) (show wsX4_leave[3]? = some (Cond.classLink RX4 58 "java/lang/IllegalStateException") from rfl))
  have w2 := C.t _ (List.mem_of_getElem? (i := 4) (show wsX4_leave[4]? = some (Cond.initialized "java/lang/IllegalStateException") from rfl))
  have i4 : ∀ w ∈ wsX40, w ∈ wsX4_leave := inPlaces [84, 85, 86, 87, 88, 89, 90] (by decide +kernel)
  refine J_eq (lv' := [(0, .ref (h 0)), (1, .int (nI g))]) (ws' := [oB (h 0) 4 [.ref (a 0), .ref (h 1), .int (nI sc), .ref (h 3), .ref (h 4), .ref (h 5), .ref (h 6)], oB (a 0) 1 [.int (nI (x 0)), .int (nI (x 1)), .int (nI (x 2)), .int (nI (x 3)), .int (nI (x 4)), .int (nI (x 5)), .int (nI (x 6)), .int (nI (x 7)), .int (nI (x 8)), .ref (a 1), .int (nI (x 10)), .ref (a 2), .int (nI (x 12)), .ref (a 3), .ref (a 4), .ref (a 5), .ref (a 6)]]) rfl rfl rfl rfl ?_
  refine J_aload_n C dX4_leave_0 rfl 0 rfl ?_
  refine J_get (ci := 4) C i4 rfl 0 (by decide) w0 rfl 0 rfl rfl dX4_leave_1 ?_
  refine J_iload_n C dX4_leave_4 rfl 1 rfl ?_
  refine J_callI (wr := [oB (h 0) 4 [.ref (a 0), .ref (h 1), .int (nI sc), .ref (h 3), .ref (h 4), .ref (h 5), .ref (h 6)]]) C (R_V (st := []) (wc := [oB (a 0) 1 [.int (nI (x 0)), .int (nI (x 1)), .int (nI (x 2)), .int (nI (x 3)), .int (nI (x 4)), .int (nI (x 5)), .int (nI (x 6)), .int (nI (x 7)), .int (nI (x 8)), .ref (a 1), .int (nI (x 10)), .ref (a 2), .int (nI (x 12)), .ref (a 3), .ref (a 4), .ref (a 5), .ref (a 6)]]) C (kX1_hasGuest_n ll Y a x g (by first | assumption | omega) (by first | assumption | omega)) (cwV 1 C.t gX4_leave_X1_hasGuest rfl rfl rfl (by decide +kernel) ⟨by decide, by decide⟩) rfl [1] rfl (by decide) ⟨0, 1, _, _, rfl, rfl, rfl⟩ rfl (Nat.le_of_ble_eq_true rfl) dX4_leave_5 ⟨Nat.le_of_ble_eq_true rfl, Nat.le_of_ble_eq_true rfl⟩) [1] [0] rfl rfl (by decide) (by decide) (fun r5 u5 hw5 => ?_)
  subst hw5
  refine J_eq (pc' := 8) (lv' := [(0, .ref (h 0)), (1, .int (nI g))]) (st' := [.int (p2i (g < x 1))]) (ws' := [oB (h 0) 4 [.ref (a 0), .ref (h 1), .int (nI sc), .ref (h 3), .ref (h 4), .ref (h 5), .ref (h 6)], oB (a 0) 1 [.int (nI (x 0)), .int (nI (x 1)), .int (nI (x 2)), .int (nI (x 3)), .int (nI (x 4)), .int (nI (x 5)), .int (nI (x 6)), .int (nI (x 7)), .int (nI (x 8)), .ref (a 1), .int (nI (x 10)), .ref (a 2), .int (nI (x 12)), .ref (a 3), .ref (a 4), .ref (a 5), .ref (a 6)]]) rfl rfl rfl rfl ?_
  refine J_if_neP (tgt := 21) C dX4_leave_8 (by decide) (fun cq8 => ?_) (fun cq8 => ?_)
  · refine J_aload_n C dX4_leave_21 rfl 0 rfl ?_
    refine J_get (ci := 4) C i4 rfl 0 (by decide) w0 rfl 0 rfl rfl dX4_leave_22 ?_
    refine J_iload_n C dX4_leave_25 rfl 1 rfl ?_
    refine J_callI (wr := [oB (h 0) 4 [.ref (a 0), .ref (h 1), .int (nI sc), .ref (h 3), .ref (h 4), .ref (h 5), .ref (h 6)]]) C (R_V (st := []) (wc := [oB (a 0) 1 [.int (nI (x 0)), .int (nI (x 1)), .int (nI (x 2)), .int (nI (x 3)), .int (nI (x 4)), .int (nI (x 5)), .int (nI (x 6)), .int (nI (x 7)), .int (nI (x 8)), .ref (a 1), .int (nI (x 10)), .ref (a 2), .int (nI (x 12)), .ref (a 3), .ref (a 4), .ref (a 5), .ref (a 6)]]) C (kX1_isThere ll Y a x g (by first | assumption | omega) (by first | assumption | omega) (by first | assumption | omega) (by first | assumption | omega)) (cwV 1 C.t gX4_leave_X1_isThere rfl rfl rfl (by decide +kernel) ⟨by decide, by decide⟩) rfl [1] rfl (by decide) ⟨0, 1, _, _, rfl, rfl, rfl⟩ rfl (Nat.le_of_ble_eq_true rfl) dX4_leave_26 ⟨Nat.le_of_ble_eq_true rfl, Nat.le_of_ble_eq_true rfl⟩) [1] [0] rfl rfl (by decide) (by decide) (fun r26 u26 hw26 => ?_)
    subst hw26
    refine J_eq (pc' := 29) (lv' := [(0, .ref (h 0)), (1, .int (nI g))]) (st' := [.int (p2i (x 2 = 1 ∧ g < x 1 ∧ x 7 / 2 ^ g &&& 1 = 1))]) (ws' := [oB (h 0) 4 [.ref (a 0), .ref (h 1), .int (nI sc), .ref (h 3), .ref (h 4), .ref (h 5), .ref (h 6)], oB (a 0) 1 [.int (nI (x 0)), .int (nI (x 1)), .int (nI (x 2)), .int (nI (x 3)), .int (nI (x 4)), .int (nI (x 5)), .int (nI (x 6)), .int (nI (x 7)), .int (nI (x 8)), .ref (a 1), .int (nI (x 10)), .ref (a 2), .int (nI (x 12)), .ref (a 3), .ref (a 4), .ref (a 5), .ref (a 6)]]) rfl rfl rfl rfl ?_
    refine J_if_neP (tgt := 42) C dX4_leave_29 (by decide) (fun cq29 => ?_) (fun cq29 => ?_)
    · exact absurd cq29 hcan
    · exact J_throw (cls := "java/lang/IllegalStateException") (text := "the guest cannot leave") (ik := 58) (is := 116) (ic := 62) C hXS hl0 hx0 (by decide +kernel) (by decide) (by decide) rfl w1 w2 (fun _ hq => List.mem_cons_of_mem _ (List.mem_append_right _ hq)) (by decide +kernel) (by decide +kernel) dX4_leave_32 dX4_leave_35 dX4_leave_36 dX4_leave_38 dX4_leave_41 (Nat.le_of_ble_eq_true rfl) (Nat.le_of_ble_eq_true rfl) (Nat.le_of_ble_eq_true rfl) (Nat.le_of_ble_eq_true rfl) (Nat.le_of_ble_eq_true rfl) (Nat.le_of_ble_eq_true rfl) (Nat.le_of_ble_eq_true rfl)
  · exact absurd cq8 (by omega)

set_option maxHeartbeats 4000000 in
set_option maxRecDepth 100000 in
theorem kX4_accuse_x1 (ll : Launch) (Y : GY) (hl0 : ll.stackTraces = false) (h : Nat → Nat) (sc : Nat) (a : Nat → Nat) (c : Int32) (hc : c.toInt < 0 ∨ 7 < c.toInt) : CX ll yX4_accuse wsX4_accuse { frames := 6, cells := 1, slots := 6, locals := 90 } Y [.ref (h 0), .int c] [oB (h 0) 4 [.ref (a 0), .ref (h 1), .int (nI sc), .ref (h 3), .ref (h 4), .ref (h 5), .ref (h 6)]] "java/lang/IndexOutOfBoundsException" 1 6 := by
  refine CX_of (cc := cX4_accuse) (maxL := 2) (ret := (some .int)) (by decide) rfl (Nat.le_of_ble_eq_true rfl) ?_
  intro pp ee ss mm bl mt cc AA C hXS hx0
  have w0 := C.t _ (List.mem_of_getElem? (i := 1) (show wsX4_accuse[1]? = some (Cond.classLink RX4 82 "java/lang/IndexOutOfBoundsException") from rfl))
  have w1 := C.t _ (List.mem_of_getElem? (i := 2) (show wsX4_accuse[2]? = some (Cond.initialized "java/lang/IndexOutOfBoundsException") from rfl))
  refine J_eq (lv' := [(0, .ref (h 0)), (1, .int c)]) (ws' := [oB (h 0) 4 [.ref (a 0), .ref (h 1), .int (nI sc), .ref (h 3), .ref (h 4), .ref (h 5), .ref (h 6)]]) rfl rfl rfl rfl ?_
  refine J_iload_n C dX4_accuse_0 rfl 1 rfl ?_
  refine J_callI (wr := [oB (h 0) 4 [.ref (a 0), .ref (h 1), .int (nI sc), .ref (h 3), .ref (h 4), .ref (h 5), .ref (h 6)]]) C (R_S (st := []) (wc := []) C (kX4_isCard ll Y c) (va_cwS 1 C.t gX4_accuse_X4_isCard rfl rfl rfl (by decide +kernel) ⟨by decide, by decide⟩) rfl [] rfl (by decide) rfl (Nat.le_of_ble_eq_true rfl) dX4_accuse_1 ⟨Nat.le_of_ble_eq_true rfl, Nat.le_of_ble_eq_true rfl⟩) [] [0] rfl rfl (by decide) (by decide) (fun r1 u1 hw1 => ?_)
  subst hw1
  refine J_eq (pc' := 4) (lv' := [(0, .ref (h 0)), (1, .int c)]) (st' := [.int (p2i (0 ≤ c.toInt ∧ c.toInt < 8))]) (ws' := [oB (h 0) 4 [.ref (a 0), .ref (h 1), .int (nI sc), .ref (h 3), .ref (h 4), .ref (h 5), .ref (h 6)]]) rfl rfl rfl rfl ?_
  refine J_if_neP (tgt := 17) C dX4_accuse_4 (by decide) (fun cq4 => ?_) (fun cq4 => ?_)
  · exact absurd cq4 (by omega)
  · exact J_throw (cls := "java/lang/IndexOutOfBoundsException") (text := "no such card") (ik := 82) (is := 122) (ic := 86) C hXS hl0 hx0 (by decide +kernel) (by decide) (by decide) rfl w0 w1 (fun _ hq => List.mem_cons_of_mem _ (List.mem_append_left _ (List.mem_append_right _ hq))) (by decide +kernel) (by decide +kernel) dX4_accuse_7 dX4_accuse_10 dX4_accuse_11 dX4_accuse_13 dX4_accuse_16 (Nat.le_of_ble_eq_true rfl) (Nat.le_of_ble_eq_true rfl) (Nat.le_of_ble_eq_true rfl) (Nat.le_of_ble_eq_true rfl) (Nat.le_of_ble_eq_true rfl) (Nat.le_of_ble_eq_true rfl) (Nat.le_of_ble_eq_true rfl)

set_option maxHeartbeats 4000000 in
set_option maxRecDepth 100000 in
theorem kX4_accuse_x2 (ll : Launch) (Y : GY) (hl0 : ll.stackTraces = false) (h : Nat → Nat) (sc : Nat) (a : Nat → Nat) (x : Nat → Nat) (c : Nat) (hc : c ≤ 7) (hgo : x 2 = 0) : CX ll yX4_accuse wsX4_accuse { frames := 6, cells := 1, slots := 6, locals := 90 } Y [.ref (h 0), .int (nI c)] [oB (h 0) 4 [.ref (a 0), .ref (h 1), .int (nI sc), .ref (h 3), .ref (h 4), .ref (h 5), .ref (h 6)], oB (a 0) 1 [.int (nI (x 0)), .int (nI (x 1)), .int (nI (x 2)), .int (nI (x 3)), .int (nI (x 4)), .int (nI (x 5)), .int (nI (x 6)), .int (nI (x 7)), .int (nI (x 8)), .ref (a 1), .int (nI (x 10)), .ref (a 2), .int (nI (x 12)), .ref (a 3), .ref (a 4), .ref (a 5), .ref (a 6)]] "java/lang/IllegalStateException" 1 6 := by
  refine CX_of (cc := cX4_accuse) (maxL := 2) (ret := (some .int)) (by decide) rfl (Nat.le_of_ble_eq_true rfl) ?_
  intro pp ee ss mm bl mt cc AA C hXS hx0
  have w0 := C.t _ (List.mem_of_getElem? (i := 5) (show wsX4_accuse[5]? = some (Cond.fieldLink RX4 10 "SecretDinner" "now" "LSecretDinner$Dinner;") from rfl))
  have w1 := C.nf ("SecretDinner", 54, "SecretDinner$Dinner", "going", "Z") (List.mem_of_getElem? (i := 2) (show xn_f[2]? = some ("SecretDinner", 54, "SecretDinner$Dinner", "going", "Z") from rfl))
  have w2 := C.t _ (List.mem_of_getElem? (i := 3) (show wsX4_accuse[3]? = some (Cond.classLink RX4 58 "java/lang/IllegalStateException") from rfl))
  have w3 := C.t _ (List.mem_of_getElem? (i := 4) (show wsX4_accuse[4]? = some (Cond.initialized "java/lang/IllegalStateException") from rfl))
  have i4 : ∀ w ∈ wsX40, w ∈ wsX4_accuse := inPlaces [71, 72, 73, 74, 75, 76, 77] (by decide +kernel)
  have i1 : ∀ w ∈ wsX10, w ∈ wsX4_accuse := inPlaces [78, 79, 80, 81, 82, 83, 84, 85, 86, 87, 88, 89, 90, 91, 92, 93, 94] (by decide +kernel)
  refine J_eq (lv' := [(0, .ref (h 0)), (1, .int (nI c))]) (ws' := [oB (h 0) 4 [.ref (a 0), .ref (h 1), .int (nI sc), .ref (h 3), .ref (h 4), .ref (h 5), .ref (h 6)], oB (a 0) 1 [.int (nI (x 0)), .int (nI (x 1)), .int (nI (x 2)), .int (nI (x 3)), .int (nI (x 4)), .int (nI (x 5)), .int (nI (x 6)), .int (nI (x 7)), .int (nI (x 8)), .ref (a 1), .int (nI (x 10)), .ref (a 2), .int (nI (x 12)), .ref (a 3), .ref (a 4), .ref (a 5), .ref (a 6)]]) rfl rfl rfl rfl ?_
  refine J_iload_n C dX4_accuse_0 rfl 1 rfl ?_
  refine J_callI (wr := [oB (h 0) 4 [.ref (a 0), .ref (h 1), .int (nI sc), .ref (h 3), .ref (h 4), .ref (h 5), .ref (h 6)], oB (a 0) 1 [.int (nI (x 0)), .int (nI (x 1)), .int (nI (x 2)), .int (nI (x 3)), .int (nI (x 4)), .int (nI (x 5)), .int (nI (x 6)), .int (nI (x 7)), .int (nI (x 8)), .ref (a 1), .int (nI (x 10)), .ref (a 2), .int (nI (x 12)), .ref (a 3), .ref (a 4), .ref (a 5), .ref (a 6)]]) C (R_S (st := []) (wc := []) C (kX4_isCard_n ll Y c (by first | assumption | omega)) (va_cwS 1 C.t gX4_accuse_X4_isCard rfl rfl rfl (by decide +kernel) ⟨by decide, by decide⟩) rfl [] rfl (by decide) rfl (Nat.le_of_ble_eq_true rfl) dX4_accuse_1 ⟨Nat.le_of_ble_eq_true rfl, Nat.le_of_ble_eq_true rfl⟩) [] [0, 1] rfl rfl (by decide) (by decide) (fun r1 u1 hw1 => ?_)
  subst hw1
  refine J_eq (pc' := 4) (lv' := [(0, .ref (h 0)), (1, .int (nI c))]) (st' := [.int (p2i (c < 8))]) (ws' := [oB (h 0) 4 [.ref (a 0), .ref (h 1), .int (nI sc), .ref (h 3), .ref (h 4), .ref (h 5), .ref (h 6)], oB (a 0) 1 [.int (nI (x 0)), .int (nI (x 1)), .int (nI (x 2)), .int (nI (x 3)), .int (nI (x 4)), .int (nI (x 5)), .int (nI (x 6)), .int (nI (x 7)), .int (nI (x 8)), .ref (a 1), .int (nI (x 10)), .ref (a 2), .int (nI (x 12)), .ref (a 3), .ref (a 4), .ref (a 5), .ref (a 6)]]) rfl rfl rfl rfl ?_
  refine J_if_neP (tgt := 17) C dX4_accuse_4 (by decide) (fun cq4 => ?_) (fun cq4 => ?_)
  · refine J_aload_n C dX4_accuse_17 rfl 0 rfl ?_
    refine J_get (ci := 4) C i4 rfl 0 (by decide) w0 rfl 0 rfl rfl dX4_accuse_18 ?_
    refine J_getN (ci := 1) C i1 rfl 2 (by decide) w1 rfl 1 rfl rfl dX4_accuse_21 ?_
    refine J_if_neN (tgt := 37) C dX4_accuse_24 (by decide) (by omega) (fun cq24 => ?_) (fun cq24 => ?_)
    · exact absurd cq24 (by omega)
    · exact J_throw (cls := "java/lang/IllegalStateException") (text := "no evening goes on") (ik := 58) (is := 124) (ic := 62) C hXS hl0 hx0 (by decide +kernel) (by decide) (by decide) rfl w2 w3 (fun _ hq => List.mem_cons_of_mem _ (List.mem_append_right _ hq)) (by decide +kernel) (by decide +kernel) dX4_accuse_27 dX4_accuse_30 dX4_accuse_31 dX4_accuse_33 dX4_accuse_36 (Nat.le_of_ble_eq_true rfl) (Nat.le_of_ble_eq_true rfl) (Nat.le_of_ble_eq_true rfl) (Nat.le_of_ble_eq_true rfl) (Nat.le_of_ble_eq_true rfl) (Nat.le_of_ble_eq_true rfl) (Nat.le_of_ble_eq_true rfl)
  · exact absurd cq4 (by omega)

set_option maxHeartbeats 4000000 in
set_option maxRecDepth 100000 in
theorem kX4_guest_x1 (ll : Launch) (Y : GY) (hl0 : ll.stackTraces = false) (h : Nat → Nat) (sc : Nat) (a : Nat → Nat) (x : Nat → Nat) (g : Int32) (w : Int32) (hx1 : x 1 ≤ 4) (hg : g.toInt < 0 ∨ (x 1 : Int) ≤ g.toInt) : CX ll yX4_guest wsX4_guest { frames := 6, cells := 1, slots := 6, locals := 90 } Y [.ref (h 0), .int g, .int w] [oB (h 0) 4 [.ref (a 0), .ref (h 1), .int (nI sc), .ref (h 3), .ref (h 4), .ref (h 5), .ref (h 6)], oB (a 0) 1 [.int (nI (x 0)), .int (nI (x 1)), .int (nI (x 2)), .int (nI (x 3)), .int (nI (x 4)), .int (nI (x 5)), .int (nI (x 6)), .int (nI (x 7)), .int (nI (x 8)), .ref (a 1), .int (nI (x 10)), .ref (a 2), .int (nI (x 12)), .ref (a 3), .ref (a 4), .ref (a 5), .ref (a 6)]] "java/lang/IndexOutOfBoundsException" 1 6 := by
  refine CX_of (cc := cX4_guest) (maxL := 3) (ret := (some .int)) (by decide) rfl (Nat.le_of_ble_eq_true rfl) ?_
  intro pp ee ss mm bl mt cc AA C hXS hx0
  have w0 := C.t _ (List.mem_of_getElem? (i := 5) (show wsX4_guest[5]? = some (Cond.fieldLink RX4 10 "SecretDinner" "now" "LSecretDinner$Dinner;") from rfl))
  have w1 := C.t _ (List.mem_of_getElem? (i := 1) (show wsX4_guest[1]? = some (Cond.classLink RX4 82 "java/lang/IndexOutOfBoundsException") from rfl))
  have w2 := C.t _ (List.mem_of_getElem? (i := 2) (show wsX4_guest[2]? = some (Cond.initialized "java/lang/IndexOutOfBoundsException") from rfl))
  have i4 : ∀ w ∈ wsX40, w ∈ wsX4_guest := inPlaces [58, 59, 60, 61, 62, 63, 64] (by decide +kernel)
  refine J_eq (lv' := [(0, .ref (h 0)), (1, .int g), (2, .int w)]) (ws' := [oB (h 0) 4 [.ref (a 0), .ref (h 1), .int (nI sc), .ref (h 3), .ref (h 4), .ref (h 5), .ref (h 6)], oB (a 0) 1 [.int (nI (x 0)), .int (nI (x 1)), .int (nI (x 2)), .int (nI (x 3)), .int (nI (x 4)), .int (nI (x 5)), .int (nI (x 6)), .int (nI (x 7)), .int (nI (x 8)), .ref (a 1), .int (nI (x 10)), .ref (a 2), .int (nI (x 12)), .ref (a 3), .ref (a 4), .ref (a 5), .ref (a 6)]]) rfl rfl rfl rfl ?_
  refine J_aload_n C dX4_guest_0 rfl 0 rfl ?_
  refine J_get (ci := 4) C i4 rfl 0 (by decide) w0 rfl 0 rfl rfl dX4_guest_1 ?_
  refine J_iload_n C dX4_guest_4 rfl 1 rfl ?_
  refine J_callI (wr := [oB (h 0) 4 [.ref (a 0), .ref (h 1), .int (nI sc), .ref (h 3), .ref (h 4), .ref (h 5), .ref (h 6)]]) C (R_V (st := []) (wc := [oB (a 0) 1 [.int (nI (x 0)), .int (nI (x 1)), .int (nI (x 2)), .int (nI (x 3)), .int (nI (x 4)), .int (nI (x 5)), .int (nI (x 6)), .int (nI (x 7)), .int (nI (x 8)), .ref (a 1), .int (nI (x 10)), .ref (a 2), .int (nI (x 12)), .ref (a 3), .ref (a 4), .ref (a 5), .ref (a 6)]]) C (kX1_hasGuest ll Y a x g (by first | assumption | omega)) (cwV 1 C.t gX4_guest_X1_hasGuest rfl rfl rfl (by decide +kernel) ⟨by decide, by decide⟩) rfl [1] rfl (by decide) ⟨0, 1, _, _, rfl, rfl, rfl⟩ rfl (Nat.le_of_ble_eq_true rfl) dX4_guest_5 ⟨Nat.le_of_ble_eq_true rfl, Nat.le_of_ble_eq_true rfl⟩) [1] [0] rfl rfl (by decide) (by decide) (fun r5 u5 hw5 => ?_)
  subst hw5
  refine J_eq (pc' := 8) (lv' := [(0, .ref (h 0)), (1, .int g), (2, .int w)]) (st' := [.int (p2i (0 ≤ g.toInt ∧ g.toInt < (x 1 : Int)))]) (ws' := [oB (h 0) 4 [.ref (a 0), .ref (h 1), .int (nI sc), .ref (h 3), .ref (h 4), .ref (h 5), .ref (h 6)], oB (a 0) 1 [.int (nI (x 0)), .int (nI (x 1)), .int (nI (x 2)), .int (nI (x 3)), .int (nI (x 4)), .int (nI (x 5)), .int (nI (x 6)), .int (nI (x 7)), .int (nI (x 8)), .ref (a 1), .int (nI (x 10)), .ref (a 2), .int (nI (x 12)), .ref (a 3), .ref (a 4), .ref (a 5), .ref (a 6)]]) rfl rfl rfl rfl ?_
  refine J_if_neP (tgt := 21) C dX4_guest_8 (by decide) (fun cq8 => ?_) (fun cq8 => ?_)
  · exact absurd cq8 (by omega)
  · exact J_throw (cls := "java/lang/IndexOutOfBoundsException") (text := "no such guest") (ik := 82) (is := 84) (ic := 86) C hXS hl0 hx0 (by decide +kernel) (by decide) (by decide) rfl w1 w2 (fun _ hq => List.mem_cons_of_mem _ (List.mem_append_left _ (List.mem_append_right _ hq))) (by decide +kernel) (by decide +kernel) dX4_guest_11 dX4_guest_14 dX4_guest_15 dX4_guest_17 dX4_guest_20 (Nat.le_of_ble_eq_true rfl) (Nat.le_of_ble_eq_true rfl) (Nat.le_of_ble_eq_true rfl) (Nat.le_of_ble_eq_true rfl) (Nat.le_of_ble_eq_true rfl) (Nat.le_of_ble_eq_true rfl) (Nat.le_of_ble_eq_true rfl)

set_option maxHeartbeats 4000000 in
set_option maxRecDepth 100000 in
theorem kX4_guest_x2 (ll : Launch) (Y : GY) (hl0 : ll.stackTraces = false) (h : Nat → Nat) (sc : Nat) (a : Nat → Nat) (x : Nat → Nat) (g : Nat) (w : Int32) (hx1 : x 1 ≤ 4) (hg : g < x 1) (hw : w.toInt < 0 ∨ 7 < w.toInt) : CX ll yX4_guest wsX4_guest { frames := 6, cells := 1, slots := 6, locals := 90 } Y [.ref (h 0), .int (nI g), .int w] [oB (h 0) 4 [.ref (a 0), .ref (h 1), .int (nI sc), .ref (h 3), .ref (h 4), .ref (h 5), .ref (h 6)], oB (a 0) 1 [.int (nI (x 0)), .int (nI (x 1)), .int (nI (x 2)), .int (nI (x 3)), .int (nI (x 4)), .int (nI (x 5)), .int (nI (x 6)), .int (nI (x 7)), .int (nI (x 8)), .ref (a 1), .int (nI (x 10)), .ref (a 2), .int (nI (x 12)), .ref (a 3), .ref (a 4), .ref (a 5), .ref (a 6)]] "java/lang/IllegalArgumentException" 1 6 := by
  refine CX_of (cc := cX4_guest) (maxL := 3) (ret := (some .int)) (by decide) rfl (Nat.le_of_ble_eq_true rfl) ?_
  intro pp ee ss mm bl mt cc AA C hXS hx0
  have w0 := C.t _ (List.mem_of_getElem? (i := 5) (show wsX4_guest[5]? = some (Cond.fieldLink RX4 10 "SecretDinner" "now" "LSecretDinner$Dinner;") from rfl))
  have w1 := C.t _ (List.mem_of_getElem? (i := 3) (show wsX4_guest[3]? = some (Cond.classLink RX4 44 "java/lang/IllegalArgumentException") from rfl))
  have w2 := C.t _ (List.mem_of_getElem? (i := 4) (show wsX4_guest[4]? = some (Cond.initialized "java/lang/IllegalArgumentException") from rfl))
  have i4 : ∀ w ∈ wsX40, w ∈ wsX4_guest := inPlaces [58, 59, 60, 61, 62, 63, 64] (by decide +kernel)
  refine J_eq (lv' := [(0, .ref (h 0)), (1, .int (nI g)), (2, .int w)]) (ws' := [oB (h 0) 4 [.ref (a 0), .ref (h 1), .int (nI sc), .ref (h 3), .ref (h 4), .ref (h 5), .ref (h 6)], oB (a 0) 1 [.int (nI (x 0)), .int (nI (x 1)), .int (nI (x 2)), .int (nI (x 3)), .int (nI (x 4)), .int (nI (x 5)), .int (nI (x 6)), .int (nI (x 7)), .int (nI (x 8)), .ref (a 1), .int (nI (x 10)), .ref (a 2), .int (nI (x 12)), .ref (a 3), .ref (a 4), .ref (a 5), .ref (a 6)]]) rfl rfl rfl rfl ?_
  refine J_aload_n C dX4_guest_0 rfl 0 rfl ?_
  refine J_get (ci := 4) C i4 rfl 0 (by decide) w0 rfl 0 rfl rfl dX4_guest_1 ?_
  refine J_iload_n C dX4_guest_4 rfl 1 rfl ?_
  refine J_callI (wr := [oB (h 0) 4 [.ref (a 0), .ref (h 1), .int (nI sc), .ref (h 3), .ref (h 4), .ref (h 5), .ref (h 6)]]) C (R_V (st := []) (wc := [oB (a 0) 1 [.int (nI (x 0)), .int (nI (x 1)), .int (nI (x 2)), .int (nI (x 3)), .int (nI (x 4)), .int (nI (x 5)), .int (nI (x 6)), .int (nI (x 7)), .int (nI (x 8)), .ref (a 1), .int (nI (x 10)), .ref (a 2), .int (nI (x 12)), .ref (a 3), .ref (a 4), .ref (a 5), .ref (a 6)]]) C (kX1_hasGuest_n ll Y a x g (by first | assumption | omega) (by first | assumption | omega)) (cwV 1 C.t gX4_guest_X1_hasGuest rfl rfl rfl (by decide +kernel) ⟨by decide, by decide⟩) rfl [1] rfl (by decide) ⟨0, 1, _, _, rfl, rfl, rfl⟩ rfl (Nat.le_of_ble_eq_true rfl) dX4_guest_5 ⟨Nat.le_of_ble_eq_true rfl, Nat.le_of_ble_eq_true rfl⟩) [1] [0] rfl rfl (by decide) (by decide) (fun r5 u5 hw5 => ?_)
  subst hw5
  refine J_eq (pc' := 8) (lv' := [(0, .ref (h 0)), (1, .int (nI g)), (2, .int w)]) (st' := [.int (p2i (g < x 1))]) (ws' := [oB (h 0) 4 [.ref (a 0), .ref (h 1), .int (nI sc), .ref (h 3), .ref (h 4), .ref (h 5), .ref (h 6)], oB (a 0) 1 [.int (nI (x 0)), .int (nI (x 1)), .int (nI (x 2)), .int (nI (x 3)), .int (nI (x 4)), .int (nI (x 5)), .int (nI (x 6)), .int (nI (x 7)), .int (nI (x 8)), .ref (a 1), .int (nI (x 10)), .ref (a 2), .int (nI (x 12)), .ref (a 3), .ref (a 4), .ref (a 5), .ref (a 6)]]) rfl rfl rfl rfl ?_
  refine J_if_neP (tgt := 21) C dX4_guest_8 (by decide) (fun cq8 => ?_) (fun cq8 => ?_)
  · refine J_iload_n C dX4_guest_21 rfl 2 rfl ?_
    refine J_if_ltT (tgt := 31) C dX4_guest_22 (by decide) (fun cq22 => ?_) (fun cq22 => ?_)
    · exact J_throw (cls := "java/lang/IllegalArgumentException") (text := "what is out of range") (ik := 44) (is := 129) (ic := 48) C hXS hl0 hx0 (by decide +kernel) (by decide) (by decide) rfl w1 w2 (fun _ hq => List.mem_cons_of_mem _ (List.mem_append_right _ hq)) (by decide +kernel) (by decide +kernel) dX4_guest_31 dX4_guest_34 dX4_guest_35 dX4_guest_37 dX4_guest_40 (Nat.le_of_ble_eq_true rfl) (Nat.le_of_ble_eq_true rfl) (Nat.le_of_ble_eq_true rfl) (Nat.le_of_ble_eq_true rfl) (Nat.le_of_ble_eq_true rfl) (Nat.le_of_ble_eq_true rfl) (Nat.le_of_ble_eq_true rfl)
    · refine J_iload_n C dX4_guest_25 rfl 2 rfl ?_
      refine J_bipush C dX4_guest_26 (v := nI 8) (by decide) ?_
      refine J_icmp_ltR (tgt := 41) C dX4_guest_28 (by decide) (by omega) (fun cq28 => ?_) (fun cq28 => ?_)
      · exact absurd cq28 (by omega)
      · exact J_throw (cls := "java/lang/IllegalArgumentException") (text := "what is out of range") (ik := 44) (is := 129) (ic := 48) C hXS hl0 hx0 (by decide +kernel) (by decide) (by decide) rfl w1 w2 (fun _ hq => List.mem_cons_of_mem _ (List.mem_append_right _ hq)) (by decide +kernel) (by decide +kernel) dX4_guest_31 dX4_guest_34 dX4_guest_35 dX4_guest_37 dX4_guest_40 (Nat.le_of_ble_eq_true rfl) (Nat.le_of_ble_eq_true rfl) (Nat.le_of_ble_eq_true rfl) (Nat.le_of_ble_eq_true rfl) (Nat.le_of_ble_eq_true rfl) (Nat.le_of_ble_eq_true rfl) (Nat.le_of_ble_eq_true rfl)
  · exact absurd cq8 (by omega)

set_option maxHeartbeats 4000000 in
set_option maxRecDepth 100000 in
theorem kX4_value_x1 (ll : Launch) (Y : GY) (hl0 : ll.stackTraces = false) (h : Nat → Nat) (sc : Nat) (a : Nat → Nat) (w : Int32) (hw : w.toInt < 0 ∨ 9 < w.toInt) : CX ll yX4_value wsX4_value { frames := 6, cells := 1, slots := 6, locals := 90 } Y [.ref (h 0), .int w] [oB (h 0) 4 [.ref (a 0), .ref (h 1), .int (nI sc), .ref (h 3), .ref (h 4), .ref (h 5), .ref (h 6)]] "java/lang/IllegalArgumentException" 1 6 := by
  refine CX_of (cc := cX4_value) (maxL := 2) (ret := (some .int)) (by decide) rfl (Nat.le_of_ble_eq_true rfl) ?_
  intro pp ee ss mm bl mt cc AA C hXS hx0
  have w0 := C.t _ (List.mem_of_getElem? (i := 1) (show wsX4_value[1]? = some (Cond.classLink RX4 44 "java/lang/IllegalArgumentException") from rfl))
  have w1 := C.t _ (List.mem_of_getElem? (i := 2) (show wsX4_value[2]? = some (Cond.initialized "java/lang/IllegalArgumentException") from rfl))
  refine J_eq (lv' := [(0, .ref (h 0)), (1, .int w)]) (ws' := [oB (h 0) 4 [.ref (a 0), .ref (h 1), .int (nI sc), .ref (h 3), .ref (h 4), .ref (h 5), .ref (h 6)]]) rfl rfl rfl rfl ?_
  refine J_iload_n C dX4_value_0 rfl 1 rfl ?_
  refine J_if_ltT (tgt := 10) C dX4_value_1 (by decide) (fun cq1 => ?_) (fun cq1 => ?_)
  · exact J_throw (cls := "java/lang/IllegalArgumentException") (text := "what is out of range") (ik := 44) (is := 129) (ic := 48) C hXS hl0 hx0 (by decide +kernel) (by decide) (by decide) rfl w0 w1 (fun _ hq => List.mem_cons_of_mem _ (List.mem_append_right _ hq)) (by decide +kernel) (by decide +kernel) dX4_value_10 dX4_value_13 dX4_value_14 dX4_value_16 dX4_value_19 (Nat.le_of_ble_eq_true rfl) (Nat.le_of_ble_eq_true rfl) (Nat.le_of_ble_eq_true rfl) (Nat.le_of_ble_eq_true rfl) (Nat.le_of_ble_eq_true rfl) (Nat.le_of_ble_eq_true rfl) (Nat.le_of_ble_eq_true rfl)
  · refine J_iload_n C dX4_value_4 rfl 1 rfl ?_
    refine J_bipush C dX4_value_5 (v := nI 10) (by decide) ?_
    refine J_icmp_ltR (tgt := 20) C dX4_value_7 (by decide) (by omega) (fun cq7 => ?_) (fun cq7 => ?_)
    · exact absurd cq7 (by omega)
    · exact J_throw (cls := "java/lang/IllegalArgumentException") (text := "what is out of range") (ik := 44) (is := 129) (ic := 48) C hXS hl0 hx0 (by decide +kernel) (by decide) (by decide) rfl w0 w1 (fun _ hq => List.mem_cons_of_mem _ (List.mem_append_right _ hq)) (by decide +kernel) (by decide +kernel) dX4_value_10 dX4_value_13 dX4_value_14 dX4_value_16 dX4_value_19 (Nat.le_of_ble_eq_true rfl) (Nat.le_of_ble_eq_true rfl) (Nat.le_of_ble_eq_true rfl) (Nat.le_of_ble_eq_true rfl) (Nat.le_of_ble_eq_true rfl) (Nat.le_of_ble_eq_true rfl) (Nat.le_of_ble_eq_true rfl)

set_option maxHeartbeats 4000000 in
set_option maxRecDepth 100000 in
theorem kX4_question_x1 (ll : Launch) (Y : GY) (hl0 : ll.stackTraces = false) (h : Nat → Nat) (sc : Nat) (a : Nat → Nat) (x : Nat → Nat) (q : Int32) (w : Int32) (hx12 : x 12 ≤ 20) (hq : q.toInt < 0 ∨ (x 12 : Int) ≤ q.toInt) : CX ll yX4_question wsX4_question { frames := 6, cells := 1, slots := 6, locals := 90 } Y [.ref (h 0), .int q, .int w] [oB (h 0) 4 [.ref (a 0), .ref (h 1), .int (nI sc), .ref (h 3), .ref (h 4), .ref (h 5), .ref (h 6)], oB (a 0) 1 [.int (nI (x 0)), .int (nI (x 1)), .int (nI (x 2)), .int (nI (x 3)), .int (nI (x 4)), .int (nI (x 5)), .int (nI (x 6)), .int (nI (x 7)), .int (nI (x 8)), .ref (a 1), .int (nI (x 10)), .ref (a 2), .int (nI (x 12)), .ref (a 3), .ref (a 4), .ref (a 5), .ref (a 6)]] "java/lang/IndexOutOfBoundsException" 1 6 := by
  refine CX_of (cc := cX4_question) (maxL := 3) (ret := (some .int)) (by decide) rfl (Nat.le_of_ble_eq_true rfl) ?_
  intro pp ee ss mm bl mt cc AA C hXS hx0
  have w0 := C.t _ (List.mem_of_getElem? (i := 1) (show wsX4_question[1]? = some (Cond.classLink RX4 82 "java/lang/IndexOutOfBoundsException") from rfl))
  have w1 := C.t _ (List.mem_of_getElem? (i := 2) (show wsX4_question[2]? = some (Cond.initialized "java/lang/IndexOutOfBoundsException") from rfl))
  have w2 := C.t _ (List.mem_of_getElem? (i := 5) (show wsX4_question[5]? = some (Cond.fieldLink RX4 10 "SecretDinner" "now" "LSecretDinner$Dinner;") from rfl))
  have w3 := C.nf ("SecretDinner", 137, "SecretDinner$Dinner", "asked", "I") (List.mem_of_getElem? (i := 3) (show xn_f[3]? = some ("SecretDinner", 137, "SecretDinner$Dinner", "asked", "I") from rfl))
  have i4 : ∀ w ∈ wsX40, w ∈ wsX4_question := inPlaces [14, 15, 16, 17, 18, 19, 20] (by decide +kernel)
  have i1 : ∀ w ∈ wsX10, w ∈ wsX4_question := inPlaces [21, 22, 23, 24, 25, 26, 27, 28, 29, 30, 31, 32, 33, 34, 35, 36, 37] (by decide +kernel)
  refine J_eq (lv' := [(0, .ref (h 0)), (1, .int q), (2, .int w)]) (ws' := [oB (h 0) 4 [.ref (a 0), .ref (h 1), .int (nI sc), .ref (h 3), .ref (h 4), .ref (h 5), .ref (h 6)], oB (a 0) 1 [.int (nI (x 0)), .int (nI (x 1)), .int (nI (x 2)), .int (nI (x 3)), .int (nI (x 4)), .int (nI (x 5)), .int (nI (x 6)), .int (nI (x 7)), .int (nI (x 8)), .ref (a 1), .int (nI (x 10)), .ref (a 2), .int (nI (x 12)), .ref (a 3), .ref (a 4), .ref (a 5), .ref (a 6)]]) rfl rfl rfl rfl ?_
  refine J_iload_n C dX4_question_0 rfl 1 rfl ?_
  refine J_if_ltT (tgt := 15) C dX4_question_1 (by decide) (fun cq1 => ?_) (fun cq1 => ?_)
  · exact J_throw (cls := "java/lang/IndexOutOfBoundsException") (text := "there are not so many questions") (ik := 82) (is := 141) (ic := 86) C hXS hl0 hx0 (by decide +kernel) (by decide) (by decide) rfl w0 w1 (fun _ hq => List.mem_cons_of_mem _ (List.mem_append_left _ (List.mem_append_right _ hq))) (by decide +kernel) (by decide +kernel) dX4_question_15 dX4_question_18 dX4_question_19 dX4_question_21 dX4_question_24 (Nat.le_of_ble_eq_true rfl) (Nat.le_of_ble_eq_true rfl) (Nat.le_of_ble_eq_true rfl) (Nat.le_of_ble_eq_true rfl) (Nat.le_of_ble_eq_true rfl) (Nat.le_of_ble_eq_true rfl) (Nat.le_of_ble_eq_true rfl)
  · refine J_iload_n C dX4_question_4 rfl 1 rfl ?_
    refine J_aload_n C dX4_question_5 rfl 0 rfl ?_
    refine J_get (ci := 4) C i4 rfl 0 (by decide) w2 rfl 0 rfl rfl dX4_question_6 ?_
    refine J_getN (ci := 1) C i1 rfl 12 (by decide) w3 rfl 1 rfl rfl dX4_question_9 ?_
    refine J_icmp_ltR (tgt := 25) C dX4_question_12 (by decide) (by omega) (fun cq12 => ?_) (fun cq12 => ?_)
    · exact absurd cq12 (by omega)
    · exact J_throw (cls := "java/lang/IndexOutOfBoundsException") (text := "there are not so many questions") (ik := 82) (is := 141) (ic := 86) C hXS hl0 hx0 (by decide +kernel) (by decide) (by decide) rfl w0 w1 (fun _ hq => List.mem_cons_of_mem _ (List.mem_append_left _ (List.mem_append_right _ hq))) (by decide +kernel) (by decide +kernel) dX4_question_15 dX4_question_18 dX4_question_19 dX4_question_21 dX4_question_24 (Nat.le_of_ble_eq_true rfl) (Nat.le_of_ble_eq_true rfl) (Nat.le_of_ble_eq_true rfl) (Nat.le_of_ble_eq_true rfl) (Nat.le_of_ble_eq_true rfl) (Nat.le_of_ble_eq_true rfl) (Nat.le_of_ble_eq_true rfl)

set_option maxHeartbeats 4000000 in
set_option maxRecDepth 100000 in
theorem kX4_question_x2 (ll : Launch) (Y : GY) (hl0 : ll.stackTraces = false) (h : Nat → Nat) (sc : Nat) (a : Nat → Nat) (x : Nat → Nat) (q : Nat) (w : Int32) (hx12 : x 12 ≤ 20) (hq : q < x 12) (hw : w.toInt < 0 ∨ 2 < w.toInt) : CX ll yX4_question wsX4_question { frames := 6, cells := 1, slots := 6, locals := 90 } Y [.ref (h 0), .int (nI q), .int w] [oB (h 0) 4 [.ref (a 0), .ref (h 1), .int (nI sc), .ref (h 3), .ref (h 4), .ref (h 5), .ref (h 6)], oB (a 0) 1 [.int (nI (x 0)), .int (nI (x 1)), .int (nI (x 2)), .int (nI (x 3)), .int (nI (x 4)), .int (nI (x 5)), .int (nI (x 6)), .int (nI (x 7)), .int (nI (x 8)), .ref (a 1), .int (nI (x 10)), .ref (a 2), .int (nI (x 12)), .ref (a 3), .ref (a 4), .ref (a 5), .ref (a 6)]] "java/lang/IllegalArgumentException" 1 6 := by
  refine CX_of (cc := cX4_question) (maxL := 3) (ret := (some .int)) (by decide) rfl (Nat.le_of_ble_eq_true rfl) ?_
  intro pp ee ss mm bl mt cc AA C hXS hx0
  have w0 := C.t _ (List.mem_of_getElem? (i := 5) (show wsX4_question[5]? = some (Cond.fieldLink RX4 10 "SecretDinner" "now" "LSecretDinner$Dinner;") from rfl))
  have w1 := C.nf ("SecretDinner", 137, "SecretDinner$Dinner", "asked", "I") (List.mem_of_getElem? (i := 3) (show xn_f[3]? = some ("SecretDinner", 137, "SecretDinner$Dinner", "asked", "I") from rfl))
  have w2 := C.t _ (List.mem_of_getElem? (i := 3) (show wsX4_question[3]? = some (Cond.classLink RX4 44 "java/lang/IllegalArgumentException") from rfl))
  have w3 := C.t _ (List.mem_of_getElem? (i := 4) (show wsX4_question[4]? = some (Cond.initialized "java/lang/IllegalArgumentException") from rfl))
  have i4 : ∀ w ∈ wsX40, w ∈ wsX4_question := inPlaces [14, 15, 16, 17, 18, 19, 20] (by decide +kernel)
  have i1 : ∀ w ∈ wsX10, w ∈ wsX4_question := inPlaces [21, 22, 23, 24, 25, 26, 27, 28, 29, 30, 31, 32, 33, 34, 35, 36, 37] (by decide +kernel)
  refine J_eq (lv' := [(0, .ref (h 0)), (1, .int (nI q)), (2, .int w)]) (ws' := [oB (h 0) 4 [.ref (a 0), .ref (h 1), .int (nI sc), .ref (h 3), .ref (h 4), .ref (h 5), .ref (h 6)], oB (a 0) 1 [.int (nI (x 0)), .int (nI (x 1)), .int (nI (x 2)), .int (nI (x 3)), .int (nI (x 4)), .int (nI (x 5)), .int (nI (x 6)), .int (nI (x 7)), .int (nI (x 8)), .ref (a 1), .int (nI (x 10)), .ref (a 2), .int (nI (x 12)), .ref (a 3), .ref (a 4), .ref (a 5), .ref (a 6)]]) rfl rfl rfl rfl ?_
  refine J_iload_n C dX4_question_0 rfl 1 rfl ?_
  refine J_if_ltN (tgt := 15) C dX4_question_1 (by decide) (by omega) ?_
  refine J_iload_n C dX4_question_4 rfl 1 rfl ?_
  refine J_aload_n C dX4_question_5 rfl 0 rfl ?_
  refine J_get (ci := 4) C i4 rfl 0 (by decide) w0 rfl 0 rfl rfl dX4_question_6 ?_
  refine J_getN (ci := 1) C i1 rfl 12 (by decide) w1 rfl 1 rfl rfl dX4_question_9 ?_
  refine J_icmp_ltN (tgt := 25) C dX4_question_12 (by decide) (by omega) (by omega) (fun cq12 => ?_) (fun cq12 => ?_)
  · refine J_iload_n C dX4_question_25 rfl 2 rfl ?_
    refine J_if_ltT (tgt := 34) C dX4_question_26 (by decide) (fun cq26 => ?_) (fun cq26 => ?_)
    · exact J_throw (cls := "java/lang/IllegalArgumentException") (text := "what is out of range") (ik := 44) (is := 129) (ic := 48) C hXS hl0 hx0 (by decide +kernel) (by decide) (by decide) rfl w2 w3 (fun _ hq => List.mem_cons_of_mem _ (List.mem_append_right _ hq)) (by decide +kernel) (by decide +kernel) dX4_question_34 dX4_question_37 dX4_question_38 dX4_question_40 dX4_question_43 (Nat.le_of_ble_eq_true rfl) (Nat.le_of_ble_eq_true rfl) (Nat.le_of_ble_eq_true rfl) (Nat.le_of_ble_eq_true rfl) (Nat.le_of_ble_eq_true rfl) (Nat.le_of_ble_eq_true rfl) (Nat.le_of_ble_eq_true rfl)
    · refine J_iload_n C dX4_question_29 rfl 2 rfl ?_
      refine J_iconst C dX4_question_30 (v := nI 3) (by decide) ?_
      refine J_icmp_ltR (tgt := 44) C dX4_question_31 (by decide) (by omega) (fun cq31 => ?_) (fun cq31 => ?_)
      · exact absurd cq31 (by omega)
      · exact J_throw (cls := "java/lang/IllegalArgumentException") (text := "what is out of range") (ik := 44) (is := 129) (ic := 48) C hXS hl0 hx0 (by decide +kernel) (by decide) (by decide) rfl w2 w3 (fun _ hq => List.mem_cons_of_mem _ (List.mem_append_right _ hq)) (by decide +kernel) (by decide +kernel) dX4_question_34 dX4_question_37 dX4_question_38 dX4_question_40 dX4_question_43 (Nat.le_of_ble_eq_true rfl) (Nat.le_of_ble_eq_true rfl) (Nat.le_of_ble_eq_true rfl) (Nat.le_of_ble_eq_true rfl) (Nat.le_of_ble_eq_true rfl) (Nat.le_of_ble_eq_true rfl) (Nat.le_of_ble_eq_true rfl)
  · exact absurd cq12 (by omega)

set_option maxHeartbeats 4000000 in
set_option maxRecDepth 100000 in
theorem kX4_dealsWith_x1 (ll : Launch) (Y : GY) (hl0 : ll.stackTraces = false) (h : Nat → Nat) (sc : Nat) (a : Nat → Nat) (c : Int32) (hc : c.toInt < 0 ∨ 7 < c.toInt) : CX ll yX4_dealsWith wsX4_dealsWith { frames := 6, cells := 1, slots := 6, locals := 90 } Y [.ref (h 0), .int c] [oB (h 0) 4 [.ref (a 0), .ref (h 1), .int (nI sc), .ref (h 3), .ref (h 4), .ref (h 5), .ref (h 6)]] "java/lang/IndexOutOfBoundsException" 1 6 := by
  refine CX_of (cc := cX4_dealsWith) (maxL := 2) (ret := (some .int)) (by decide) rfl (Nat.le_of_ble_eq_true rfl) ?_
  intro pp ee ss mm bl mt cc AA C hXS hx0
  have w0 := C.t _ (List.mem_of_getElem? (i := 1) (show wsX4_dealsWith[1]? = some (Cond.classLink RX4 82 "java/lang/IndexOutOfBoundsException") from rfl))
  have w1 := C.t _ (List.mem_of_getElem? (i := 2) (show wsX4_dealsWith[2]? = some (Cond.initialized "java/lang/IndexOutOfBoundsException") from rfl))
  refine J_eq (lv' := [(0, .ref (h 0)), (1, .int c)]) (ws' := [oB (h 0) 4 [.ref (a 0), .ref (h 1), .int (nI sc), .ref (h 3), .ref (h 4), .ref (h 5), .ref (h 6)]]) rfl rfl rfl rfl ?_
  refine J_iload_n C dX4_dealsWith_0 rfl 1 rfl ?_
  refine J_callI (wr := [oB (h 0) 4 [.ref (a 0), .ref (h 1), .int (nI sc), .ref (h 3), .ref (h 4), .ref (h 5), .ref (h 6)]]) C (R_S (st := []) (wc := []) C (kX4_isCard ll Y c) (va_cwS 1 C.t gX4_dealsWith_X4_isCard rfl rfl rfl (by decide +kernel) ⟨by decide, by decide⟩) rfl [] rfl (by decide) rfl (Nat.le_of_ble_eq_true rfl) dX4_dealsWith_1 ⟨Nat.le_of_ble_eq_true rfl, Nat.le_of_ble_eq_true rfl⟩) [] [0] rfl rfl (by decide) (by decide) (fun r1 u1 hw1 => ?_)
  subst hw1
  refine J_eq (pc' := 4) (lv' := [(0, .ref (h 0)), (1, .int c)]) (st' := [.int (p2i (0 ≤ c.toInt ∧ c.toInt < 8))]) (ws' := [oB (h 0) 4 [.ref (a 0), .ref (h 1), .int (nI sc), .ref (h 3), .ref (h 4), .ref (h 5), .ref (h 6)]]) rfl rfl rfl rfl ?_
  refine J_if_neP (tgt := 17) C dX4_dealsWith_4 (by decide) (fun cq4 => ?_) (fun cq4 => ?_)
  · exact absurd cq4 (by omega)
  · exact J_throw (cls := "java/lang/IndexOutOfBoundsException") (text := "no such card") (ik := 82) (is := 122) (ic := 86) C hXS hl0 hx0 (by decide +kernel) (by decide) (by decide) rfl w0 w1 (fun _ hq => List.mem_cons_of_mem _ (List.mem_append_right _ hq)) (by decide +kernel) (by decide +kernel) dX4_dealsWith_7 dX4_dealsWith_10 dX4_dealsWith_11 dX4_dealsWith_13 dX4_dealsWith_16 (Nat.le_of_ble_eq_true rfl) (Nat.le_of_ble_eq_true rfl) (Nat.le_of_ble_eq_true rfl) (Nat.le_of_ble_eq_true rfl) (Nat.le_of_ble_eq_true rfl) (Nat.le_of_ble_eq_true rfl) (Nat.le_of_ble_eq_true rfl)

set_option maxHeartbeats 4000000 in
set_option maxRecDepth 100000 in
theorem kX4_chance_x1 (ll : Launch) (Y : GY) (hl0 : ll.stackTraces = false) (h : Nat → Nat) (sc : Nat) (a : Nat → Nat) (c : Int32) (hc : c.toInt < 0 ∨ 7 < c.toInt) : CX ll yX4_chance wsX4_chance { frames := 6, cells := 1, slots := 6, locals := 90 } Y [.ref (h 0), .int c] [oB (h 0) 4 [.ref (a 0), .ref (h 1), .int (nI sc), .ref (h 3), .ref (h 4), .ref (h 5), .ref (h 6)]] "java/lang/IndexOutOfBoundsException" 1 6 := by
  refine CX_of (cc := cX4_chance) (maxL := 2) (ret := (some .double)) (by decide) rfl (Nat.le_of_ble_eq_true rfl) ?_
  intro pp ee ss mm bl mt cc AA C hXS hx0
  have w0 := C.t _ (List.mem_of_getElem? (i := 1) (show wsX4_chance[1]? = some (Cond.classLink RX4 82 "java/lang/IndexOutOfBoundsException") from rfl))
  have w1 := C.t _ (List.mem_of_getElem? (i := 2) (show wsX4_chance[2]? = some (Cond.initialized "java/lang/IndexOutOfBoundsException") from rfl))
  refine J_eq (lv' := [(0, .ref (h 0)), (1, .int c)]) (ws' := [oB (h 0) 4 [.ref (a 0), .ref (h 1), .int (nI sc), .ref (h 3), .ref (h 4), .ref (h 5), .ref (h 6)]]) rfl rfl rfl rfl ?_
  refine J_iload_n C dX4_chance_0 rfl 1 rfl ?_
  refine J_callI (wr := [oB (h 0) 4 [.ref (a 0), .ref (h 1), .int (nI sc), .ref (h 3), .ref (h 4), .ref (h 5), .ref (h 6)]]) C (R_S (st := []) (wc := []) C (kX4_isCard ll Y c) (va_cwS 1 C.t gX4_chance_X4_isCard rfl rfl rfl (by decide +kernel) ⟨by decide, by decide⟩) rfl [] rfl (by decide) rfl (Nat.le_of_ble_eq_true rfl) dX4_chance_1 ⟨Nat.le_of_ble_eq_true rfl, Nat.le_of_ble_eq_true rfl⟩) [] [0] rfl rfl (by decide) (by decide) (fun r1 u1 hw1 => ?_)
  subst hw1
  refine J_eq (pc' := 4) (lv' := [(0, .ref (h 0)), (1, .int c)]) (st' := [.int (p2i (0 ≤ c.toInt ∧ c.toInt < 8))]) (ws' := [oB (h 0) 4 [.ref (a 0), .ref (h 1), .int (nI sc), .ref (h 3), .ref (h 4), .ref (h 5), .ref (h 6)]]) rfl rfl rfl rfl ?_
  refine J_if_neP (tgt := 17) C dX4_chance_4 (by decide) (fun cq4 => ?_) (fun cq4 => ?_)
  · exact absurd cq4 (by omega)
  · exact J_throw (cls := "java/lang/IndexOutOfBoundsException") (text := "no such card") (ik := 82) (is := 122) (ic := 86) C hXS hl0 hx0 (by decide +kernel) (by decide) (by decide) rfl w0 w1 (fun _ hq => List.mem_cons_of_mem _ (List.mem_append_right _ hq)) (by decide +kernel) (by decide +kernel) dX4_chance_7 dX4_chance_10 dX4_chance_11 dX4_chance_13 dX4_chance_16 (Nat.le_of_ble_eq_true rfl) (Nat.le_of_ble_eq_true rfl) (Nat.le_of_ble_eq_true rfl) (Nat.le_of_ble_eq_true rfl) (Nat.le_of_ble_eq_true rfl) (Nat.le_of_ble_eq_true rfl) (Nat.le_of_ble_eq_true rfl)

set_option maxHeartbeats 4000000 in
set_option maxRecDepth 100000 in
theorem kX4_dealsHeld_x1 (ll : Launch) (Y : GY) (hl0 : ll.stackTraces = false) (h : Nat → Nat) (sc : Nat) (a : Nat → Nat) (x : Nat → Nat) (g : Int32) (c : Int32) (hx1 : x 1 ≤ 4) (hb : g.toInt < 0 ∨ (x 1 : Int) ≤ g.toInt ∨ c.toInt < 0 ∨ 7 < c.toInt) : CX ll yX4_dealsHeld wsX4_dealsHeld { frames := 6, cells := 1, slots := 6, locals := 90 } Y [.ref (h 0), .int g, .int c] [oB (h 0) 4 [.ref (a 0), .ref (h 1), .int (nI sc), .ref (h 3), .ref (h 4), .ref (h 5), .ref (h 6)], oB (a 0) 1 [.int (nI (x 0)), .int (nI (x 1)), .int (nI (x 2)), .int (nI (x 3)), .int (nI (x 4)), .int (nI (x 5)), .int (nI (x 6)), .int (nI (x 7)), .int (nI (x 8)), .ref (a 1), .int (nI (x 10)), .ref (a 2), .int (nI (x 12)), .ref (a 3), .ref (a 4), .ref (a 5), .ref (a 6)]] "java/lang/IndexOutOfBoundsException" 1 6 := by
  refine CX_of (cc := cX4_dealsHeld) (maxL := 3) (ret := (some .int)) (by decide) rfl (Nat.le_of_ble_eq_true rfl) ?_
  intro pp ee ss mm bl mt cc AA C hXS hx0
  have w0 := C.t _ (List.mem_of_getElem? (i := 3) (show wsX4_dealsHeld[3]? = some (Cond.fieldLink RX4 10 "SecretDinner" "now" "LSecretDinner$Dinner;") from rfl))
  have w1 := C.t _ (List.mem_of_getElem? (i := 1) (show wsX4_dealsHeld[1]? = some (Cond.classLink RX4 82 "java/lang/IndexOutOfBoundsException") from rfl))
  have w2 := C.t _ (List.mem_of_getElem? (i := 2) (show wsX4_dealsHeld[2]? = some (Cond.initialized "java/lang/IndexOutOfBoundsException") from rfl))
  have i4 : ∀ w ∈ wsX40, w ∈ wsX4_dealsHeld := inPlaces [32, 33, 34, 35, 36, 37, 38] (by decide +kernel)
  refine J_eq (lv' := [(0, .ref (h 0)), (1, .int g), (2, .int c)]) (ws' := [oB (h 0) 4 [.ref (a 0), .ref (h 1), .int (nI sc), .ref (h 3), .ref (h 4), .ref (h 5), .ref (h 6)], oB (a 0) 1 [.int (nI (x 0)), .int (nI (x 1)), .int (nI (x 2)), .int (nI (x 3)), .int (nI (x 4)), .int (nI (x 5)), .int (nI (x 6)), .int (nI (x 7)), .int (nI (x 8)), .ref (a 1), .int (nI (x 10)), .ref (a 2), .int (nI (x 12)), .ref (a 3), .ref (a 4), .ref (a 5), .ref (a 6)]]) rfl rfl rfl rfl ?_
  refine J_aload_n C dX4_dealsHeld_0 rfl 0 rfl ?_
  refine J_get (ci := 4) C i4 rfl 0 (by decide) w0 rfl 0 rfl rfl dX4_dealsHeld_1 ?_
  refine J_iload_n C dX4_dealsHeld_4 rfl 1 rfl ?_
  refine J_callI (wr := [oB (h 0) 4 [.ref (a 0), .ref (h 1), .int (nI sc), .ref (h 3), .ref (h 4), .ref (h 5), .ref (h 6)]]) C (R_V (st := []) (wc := [oB (a 0) 1 [.int (nI (x 0)), .int (nI (x 1)), .int (nI (x 2)), .int (nI (x 3)), .int (nI (x 4)), .int (nI (x 5)), .int (nI (x 6)), .int (nI (x 7)), .int (nI (x 8)), .ref (a 1), .int (nI (x 10)), .ref (a 2), .int (nI (x 12)), .ref (a 3), .ref (a 4), .ref (a 5), .ref (a 6)]]) C (kX1_hasGuest ll Y a x g (by first | assumption | omega)) (cwV 1 C.t gX4_dealsHeld_X1_hasGuest rfl rfl rfl (by decide +kernel) ⟨by decide, by decide⟩) rfl [1] rfl (by decide) ⟨0, 1, _, _, rfl, rfl, rfl⟩ rfl (Nat.le_of_ble_eq_true rfl) dX4_dealsHeld_5 ⟨Nat.le_of_ble_eq_true rfl, Nat.le_of_ble_eq_true rfl⟩) [1] [0] rfl rfl (by decide) (by decide) (fun r5 u5 hw5 => ?_)
  subst hw5
  refine J_eq (pc' := 8) (lv' := [(0, .ref (h 0)), (1, .int g), (2, .int c)]) (st' := [.int (p2i (0 ≤ g.toInt ∧ g.toInt < (x 1 : Int)))]) (ws' := [oB (h 0) 4 [.ref (a 0), .ref (h 1), .int (nI sc), .ref (h 3), .ref (h 4), .ref (h 5), .ref (h 6)], oB (a 0) 1 [.int (nI (x 0)), .int (nI (x 1)), .int (nI (x 2)), .int (nI (x 3)), .int (nI (x 4)), .int (nI (x 5)), .int (nI (x 6)), .int (nI (x 7)), .int (nI (x 8)), .ref (a 1), .int (nI (x 10)), .ref (a 2), .int (nI (x 12)), .ref (a 3), .ref (a 4), .ref (a 5), .ref (a 6)]]) rfl rfl rfl rfl ?_
  refine J_if_eqP (tgt := 18) C dX4_dealsHeld_8 (by decide) (fun cq8 => ?_) (fun cq8 => ?_)
  · exact J_throw (cls := "java/lang/IndexOutOfBoundsException") (text := "no such guest or card") (ik := 82) (is := 105) (ic := 86) C hXS hl0 hx0 (by decide +kernel) (by decide) (by decide) rfl w1 w2 (fun _ hq => List.mem_cons_of_mem _ (List.mem_append_right _ hq)) (by decide +kernel) (by decide +kernel) dX4_dealsHeld_18 dX4_dealsHeld_21 dX4_dealsHeld_22 dX4_dealsHeld_24 dX4_dealsHeld_27 (Nat.le_of_ble_eq_true rfl) (Nat.le_of_ble_eq_true rfl) (Nat.le_of_ble_eq_true rfl) (Nat.le_of_ble_eq_true rfl) (Nat.le_of_ble_eq_true rfl) (Nat.le_of_ble_eq_true rfl) (Nat.le_of_ble_eq_true rfl)
  · refine J_iload_n C dX4_dealsHeld_11 rfl 2 rfl ?_
    refine J_callI (wr := [oB (h 0) 4 [.ref (a 0), .ref (h 1), .int (nI sc), .ref (h 3), .ref (h 4), .ref (h 5), .ref (h 6)], oB (a 0) 1 [.int (nI (x 0)), .int (nI (x 1)), .int (nI (x 2)), .int (nI (x 3)), .int (nI (x 4)), .int (nI (x 5)), .int (nI (x 6)), .int (nI (x 7)), .int (nI (x 8)), .ref (a 1), .int (nI (x 10)), .ref (a 2), .int (nI (x 12)), .ref (a 3), .ref (a 4), .ref (a 5), .ref (a 6)]]) C (R_S (st := []) (wc := []) C (kX4_isCard ll Y c) (va_cwS 1 C.t gX4_dealsHeld_X4_isCard rfl rfl rfl (by decide +kernel) ⟨by decide, by decide⟩) rfl [] rfl (by decide) rfl (Nat.le_of_ble_eq_true rfl) dX4_dealsHeld_12 ⟨Nat.le_of_ble_eq_true rfl, Nat.le_of_ble_eq_true rfl⟩) [] [0, 1] rfl rfl (by decide) (by decide) (fun r12 u12 hw12 => ?_)
    subst hw12
    refine J_eq (pc' := 15) (lv' := [(0, .ref (h 0)), (1, .int g), (2, .int c)]) (st' := [.int (p2i (0 ≤ c.toInt ∧ c.toInt < 8))]) (ws' := [oB (h 0) 4 [.ref (a 0), .ref (h 1), .int (nI sc), .ref (h 3), .ref (h 4), .ref (h 5), .ref (h 6)], oB (a 0) 1 [.int (nI (x 0)), .int (nI (x 1)), .int (nI (x 2)), .int (nI (x 3)), .int (nI (x 4)), .int (nI (x 5)), .int (nI (x 6)), .int (nI (x 7)), .int (nI (x 8)), .ref (a 1), .int (nI (x 10)), .ref (a 2), .int (nI (x 12)), .ref (a 3), .ref (a 4), .ref (a 5), .ref (a 6)]]) rfl rfl rfl rfl ?_
    refine J_if_neP (tgt := 28) C dX4_dealsHeld_15 (by decide) (fun cq15 => ?_) (fun cq15 => ?_)
    · exact absurd cq15 (by omega)
    · exact J_throw (cls := "java/lang/IndexOutOfBoundsException") (text := "no such guest or card") (ik := 82) (is := 105) (ic := 86) C hXS hl0 hx0 (by decide +kernel) (by decide) (by decide) rfl w1 w2 (fun _ hq => List.mem_cons_of_mem _ (List.mem_append_right _ hq)) (by decide +kernel) (by decide +kernel) dX4_dealsHeld_18 dX4_dealsHeld_21 dX4_dealsHeld_22 dX4_dealsHeld_24 dX4_dealsHeld_27 (Nat.le_of_ble_eq_true rfl) (Nat.le_of_ble_eq_true rfl) (Nat.le_of_ble_eq_true rfl) (Nat.le_of_ble_eq_true rfl) (Nat.le_of_ble_eq_true rfl) (Nat.le_of_ble_eq_true rfl) (Nat.le_of_ble_eq_true rfl)

set_option maxHeartbeats 4000000 in
set_option maxRecDepth 100000 in
theorem kX4_leftByProof_x1 (ll : Launch) (Y : GY) (hl0 : ll.stackTraces = false) (h : Nat → Nat) (sc : Nat) (a : Nat → Nat) (x : Nat → Nat) (g : Int32) (c : Int32) (hx1 : x 1 ≤ 4) (hb : g.toInt < 0 ∨ (x 1 : Int) ≤ g.toInt ∨ c.toInt < 0 ∨ 7 < c.toInt) : CX ll yX4_leftByProof wsX4_leftByProof { frames := 6, cells := 1, slots := 6, locals := 90 } Y [.ref (h 0), .int g, .int c] [oB (h 0) 4 [.ref (a 0), .ref (h 1), .int (nI sc), .ref (h 3), .ref (h 4), .ref (h 5), .ref (h 6)], oB (a 0) 1 [.int (nI (x 0)), .int (nI (x 1)), .int (nI (x 2)), .int (nI (x 3)), .int (nI (x 4)), .int (nI (x 5)), .int (nI (x 6)), .int (nI (x 7)), .int (nI (x 8)), .ref (a 1), .int (nI (x 10)), .ref (a 2), .int (nI (x 12)), .ref (a 3), .ref (a 4), .ref (a 5), .ref (a 6)]] "java/lang/IndexOutOfBoundsException" 1 6 := by
  refine CX_of (cc := cX4_leftByProof) (maxL := 5) (ret := (some .double)) (by decide) rfl (Nat.le_of_ble_eq_true rfl) ?_
  intro pp ee ss mm bl mt cc AA C hXS hx0
  have w0 := C.t _ (List.mem_of_getElem? (i := 3) (show wsX4_leftByProof[3]? = some (Cond.fieldLink RX4 10 "SecretDinner" "now" "LSecretDinner$Dinner;") from rfl))
  have w1 := C.t _ (List.mem_of_getElem? (i := 1) (show wsX4_leftByProof[1]? = some (Cond.classLink RX4 82 "java/lang/IndexOutOfBoundsException") from rfl))
  have w2 := C.t _ (List.mem_of_getElem? (i := 2) (show wsX4_leftByProof[2]? = some (Cond.initialized "java/lang/IndexOutOfBoundsException") from rfl))
  have i4 : ∀ w ∈ wsX40, w ∈ wsX4_leftByProof := inPlaces [35, 36, 37, 38, 39, 40, 41] (by decide +kernel)
  refine J_eq (lv' := [(0, .ref (h 0)), (1, .int g), (2, .int c)]) (ws' := [oB (h 0) 4 [.ref (a 0), .ref (h 1), .int (nI sc), .ref (h 3), .ref (h 4), .ref (h 5), .ref (h 6)], oB (a 0) 1 [.int (nI (x 0)), .int (nI (x 1)), .int (nI (x 2)), .int (nI (x 3)), .int (nI (x 4)), .int (nI (x 5)), .int (nI (x 6)), .int (nI (x 7)), .int (nI (x 8)), .ref (a 1), .int (nI (x 10)), .ref (a 2), .int (nI (x 12)), .ref (a 3), .ref (a 4), .ref (a 5), .ref (a 6)]]) rfl rfl rfl rfl ?_
  refine J_aload_n C dX4_leftByProof_0 rfl 0 rfl ?_
  refine J_get (ci := 4) C i4 rfl 0 (by decide) w0 rfl 0 rfl rfl dX4_leftByProof_1 ?_
  refine J_iload_n C dX4_leftByProof_4 rfl 1 rfl ?_
  refine J_callI (wr := [oB (h 0) 4 [.ref (a 0), .ref (h 1), .int (nI sc), .ref (h 3), .ref (h 4), .ref (h 5), .ref (h 6)]]) C (R_V (st := []) (wc := [oB (a 0) 1 [.int (nI (x 0)), .int (nI (x 1)), .int (nI (x 2)), .int (nI (x 3)), .int (nI (x 4)), .int (nI (x 5)), .int (nI (x 6)), .int (nI (x 7)), .int (nI (x 8)), .ref (a 1), .int (nI (x 10)), .ref (a 2), .int (nI (x 12)), .ref (a 3), .ref (a 4), .ref (a 5), .ref (a 6)]]) C (kX1_hasGuest ll Y a x g (by first | assumption | omega)) (cwV 1 C.t gX4_leftByProof_X1_hasGuest rfl rfl rfl (by decide +kernel) ⟨by decide, by decide⟩) rfl [1] rfl (by decide) ⟨0, 1, _, _, rfl, rfl, rfl⟩ rfl (Nat.le_of_ble_eq_true rfl) dX4_leftByProof_5 ⟨Nat.le_of_ble_eq_true rfl, Nat.le_of_ble_eq_true rfl⟩) [1] [0] rfl rfl (by decide) (by decide) (fun r5 u5 hw5 => ?_)
  subst hw5
  refine J_eq (pc' := 8) (lv' := [(0, .ref (h 0)), (1, .int g), (2, .int c)]) (st' := [.int (p2i (0 ≤ g.toInt ∧ g.toInt < (x 1 : Int)))]) (ws' := [oB (h 0) 4 [.ref (a 0), .ref (h 1), .int (nI sc), .ref (h 3), .ref (h 4), .ref (h 5), .ref (h 6)], oB (a 0) 1 [.int (nI (x 0)), .int (nI (x 1)), .int (nI (x 2)), .int (nI (x 3)), .int (nI (x 4)), .int (nI (x 5)), .int (nI (x 6)), .int (nI (x 7)), .int (nI (x 8)), .ref (a 1), .int (nI (x 10)), .ref (a 2), .int (nI (x 12)), .ref (a 3), .ref (a 4), .ref (a 5), .ref (a 6)]]) rfl rfl rfl rfl ?_
  refine J_if_eqP (tgt := 18) C dX4_leftByProof_8 (by decide) (fun cq8 => ?_) (fun cq8 => ?_)
  · exact J_throw (cls := "java/lang/IndexOutOfBoundsException") (text := "no such guest or card") (ik := 82) (is := 105) (ic := 86) C hXS hl0 hx0 (by decide +kernel) (by decide) (by decide) rfl w1 w2 (fun _ hq => List.mem_cons_of_mem _ (List.mem_append_right _ hq)) (by decide +kernel) (by decide +kernel) dX4_leftByProof_18 dX4_leftByProof_21 dX4_leftByProof_22 dX4_leftByProof_24 dX4_leftByProof_27 (Nat.le_of_ble_eq_true rfl) (Nat.le_of_ble_eq_true rfl) (Nat.le_of_ble_eq_true rfl) (Nat.le_of_ble_eq_true rfl) (Nat.le_of_ble_eq_true rfl) (Nat.le_of_ble_eq_true rfl) (Nat.le_of_ble_eq_true rfl)
  · refine J_iload_n C dX4_leftByProof_11 rfl 2 rfl ?_
    refine J_callI (wr := [oB (h 0) 4 [.ref (a 0), .ref (h 1), .int (nI sc), .ref (h 3), .ref (h 4), .ref (h 5), .ref (h 6)], oB (a 0) 1 [.int (nI (x 0)), .int (nI (x 1)), .int (nI (x 2)), .int (nI (x 3)), .int (nI (x 4)), .int (nI (x 5)), .int (nI (x 6)), .int (nI (x 7)), .int (nI (x 8)), .ref (a 1), .int (nI (x 10)), .ref (a 2), .int (nI (x 12)), .ref (a 3), .ref (a 4), .ref (a 5), .ref (a 6)]]) C (R_S (st := []) (wc := []) C (kX4_isCard ll Y c) (va_cwS 1 C.t gX4_leftByProof_X4_isCard rfl rfl rfl (by decide +kernel) ⟨by decide, by decide⟩) rfl [] rfl (by decide) rfl (Nat.le_of_ble_eq_true rfl) dX4_leftByProof_12 ⟨Nat.le_of_ble_eq_true rfl, Nat.le_of_ble_eq_true rfl⟩) [] [0, 1] rfl rfl (by decide) (by decide) (fun r12 u12 hw12 => ?_)
    subst hw12
    refine J_eq (pc' := 15) (lv' := [(0, .ref (h 0)), (1, .int g), (2, .int c)]) (st' := [.int (p2i (0 ≤ c.toInt ∧ c.toInt < 8))]) (ws' := [oB (h 0) 4 [.ref (a 0), .ref (h 1), .int (nI sc), .ref (h 3), .ref (h 4), .ref (h 5), .ref (h 6)], oB (a 0) 1 [.int (nI (x 0)), .int (nI (x 1)), .int (nI (x 2)), .int (nI (x 3)), .int (nI (x 4)), .int (nI (x 5)), .int (nI (x 6)), .int (nI (x 7)), .int (nI (x 8)), .ref (a 1), .int (nI (x 10)), .ref (a 2), .int (nI (x 12)), .ref (a 3), .ref (a 4), .ref (a 5), .ref (a 6)]]) rfl rfl rfl rfl ?_
    refine J_if_neP (tgt := 28) C dX4_leftByProof_15 (by decide) (fun cq15 => ?_) (fun cq15 => ?_)
    · exact absurd cq15 (by omega)
    · exact J_throw (cls := "java/lang/IndexOutOfBoundsException") (text := "no such guest or card") (ik := 82) (is := 105) (ic := 86) C hXS hl0 hx0 (by decide +kernel) (by decide) (by decide) rfl w1 w2 (fun _ hq => List.mem_cons_of_mem _ (List.mem_append_right _ hq)) (by decide +kernel) (by decide +kernel) dX4_leftByProof_18 dX4_leftByProof_21 dX4_leftByProof_22 dX4_leftByProof_24 dX4_leftByProof_27 (Nat.le_of_ble_eq_true rfl) (Nat.le_of_ble_eq_true rfl) (Nat.le_of_ble_eq_true rfl) (Nat.le_of_ble_eq_true rfl) (Nat.le_of_ble_eq_true rfl) (Nat.le_of_ble_eq_true rfl) (Nat.le_of_ble_eq_true rfl)

set_option maxHeartbeats 4000000 in
set_option maxRecDepth 100000 in
theorem kX4_dealsIf_x1 (ll : Launch) (Y : GY) (hl0 : ll.stackTraces = false) (h : Nat → Nat) (sc : Nat) (a : Nat → Nat) (x : Nat → Nat) (g : Int32) (c : Int32) (w : Int32) (hx1 : x 1 ≤ 4) (hg : g.toInt < 0 ∨ (x 1 : Int) ≤ g.toInt) : CX ll yX4_dealsIf wsX4_dealsIf { frames := 6, cells := 1, slots := 6, locals := 90 } Y [.ref (h 0), .int g, .int c, .int w] [oB (h 0) 4 [.ref (a 0), .ref (h 1), .int (nI sc), .ref (h 3), .ref (h 4), .ref (h 5), .ref (h 6)], oB (a 0) 1 [.int (nI (x 0)), .int (nI (x 1)), .int (nI (x 2)), .int (nI (x 3)), .int (nI (x 4)), .int (nI (x 5)), .int (nI (x 6)), .int (nI (x 7)), .int (nI (x 8)), .ref (a 1), .int (nI (x 10)), .ref (a 2), .int (nI (x 12)), .ref (a 3), .ref (a 4), .ref (a 5), .ref (a 6)]] "java/lang/IndexOutOfBoundsException" 1 6 := by
  refine CX_of (cc := cX4_dealsIf) (maxL := 4) (ret := (some .int)) (by decide) rfl (Nat.le_of_ble_eq_true rfl) ?_
  intro pp ee ss mm bl mt cc AA C hXS hx0
  have w0 := C.t _ (List.mem_of_getElem? (i := 5) (show wsX4_dealsIf[5]? = some (Cond.fieldLink RX4 10 "SecretDinner" "now" "LSecretDinner$Dinner;") from rfl))
  have w1 := C.t _ (List.mem_of_getElem? (i := 1) (show wsX4_dealsIf[1]? = some (Cond.classLink RX4 82 "java/lang/IndexOutOfBoundsException") from rfl))
  have w2 := C.t _ (List.mem_of_getElem? (i := 2) (show wsX4_dealsIf[2]? = some (Cond.initialized "java/lang/IndexOutOfBoundsException") from rfl))
  have i4 : ∀ w ∈ wsX40, w ∈ wsX4_dealsIf := inPlaces [51, 52, 53, 54, 55, 56, 57] (by decide +kernel)
  refine J_eq (lv' := [(0, .ref (h 0)), (1, .int g), (2, .int c), (3, .int w)]) (ws' := [oB (h 0) 4 [.ref (a 0), .ref (h 1), .int (nI sc), .ref (h 3), .ref (h 4), .ref (h 5), .ref (h 6)], oB (a 0) 1 [.int (nI (x 0)), .int (nI (x 1)), .int (nI (x 2)), .int (nI (x 3)), .int (nI (x 4)), .int (nI (x 5)), .int (nI (x 6)), .int (nI (x 7)), .int (nI (x 8)), .ref (a 1), .int (nI (x 10)), .ref (a 2), .int (nI (x 12)), .ref (a 3), .ref (a 4), .ref (a 5), .ref (a 6)]]) rfl rfl rfl rfl ?_
  refine J_aload_n C dX4_dealsIf_0 rfl 0 rfl ?_
  refine J_get (ci := 4) C i4 rfl 0 (by decide) w0 rfl 0 rfl rfl dX4_dealsIf_1 ?_
  refine J_iload_n C dX4_dealsIf_4 rfl 1 rfl ?_
  refine J_callI (wr := [oB (h 0) 4 [.ref (a 0), .ref (h 1), .int (nI sc), .ref (h 3), .ref (h 4), .ref (h 5), .ref (h 6)]]) C (R_V (st := []) (wc := [oB (a 0) 1 [.int (nI (x 0)), .int (nI (x 1)), .int (nI (x 2)), .int (nI (x 3)), .int (nI (x 4)), .int (nI (x 5)), .int (nI (x 6)), .int (nI (x 7)), .int (nI (x 8)), .ref (a 1), .int (nI (x 10)), .ref (a 2), .int (nI (x 12)), .ref (a 3), .ref (a 4), .ref (a 5), .ref (a 6)]]) C (kX1_hasGuest ll Y a x g (by first | assumption | omega)) (cwV 1 C.t gX4_dealsIf_X1_hasGuest rfl rfl rfl (by decide +kernel) ⟨by decide, by decide⟩) rfl [1] rfl (by decide) ⟨0, 1, _, _, rfl, rfl, rfl⟩ rfl (Nat.le_of_ble_eq_true rfl) dX4_dealsIf_5 ⟨Nat.le_of_ble_eq_true rfl, Nat.le_of_ble_eq_true rfl⟩) [1] [0] rfl rfl (by decide) (by decide) (fun r5 u5 hw5 => ?_)
  subst hw5
  refine J_eq (pc' := 8) (lv' := [(0, .ref (h 0)), (1, .int g), (2, .int c), (3, .int w)]) (st' := [.int (p2i (0 ≤ g.toInt ∧ g.toInt < (x 1 : Int)))]) (ws' := [oB (h 0) 4 [.ref (a 0), .ref (h 1), .int (nI sc), .ref (h 3), .ref (h 4), .ref (h 5), .ref (h 6)], oB (a 0) 1 [.int (nI (x 0)), .int (nI (x 1)), .int (nI (x 2)), .int (nI (x 3)), .int (nI (x 4)), .int (nI (x 5)), .int (nI (x 6)), .int (nI (x 7)), .int (nI (x 8)), .ref (a 1), .int (nI (x 10)), .ref (a 2), .int (nI (x 12)), .ref (a 3), .ref (a 4), .ref (a 5), .ref (a 6)]]) rfl rfl rfl rfl ?_
  refine J_if_neP (tgt := 21) C dX4_dealsIf_8 (by decide) (fun cq8 => ?_) (fun cq8 => ?_)
  · exact absurd cq8 (by omega)
  · exact J_throw (cls := "java/lang/IndexOutOfBoundsException") (text := "no such guest") (ik := 82) (is := 84) (ic := 86) C hXS hl0 hx0 (by decide +kernel) (by decide) (by decide) rfl w1 w2 (fun _ hq => List.mem_cons_of_mem _ (List.mem_append_left _ (List.mem_append_right _ hq))) (by decide +kernel) (by decide +kernel) dX4_dealsIf_11 dX4_dealsIf_14 dX4_dealsIf_15 dX4_dealsIf_17 dX4_dealsIf_20 (Nat.le_of_ble_eq_true rfl) (Nat.le_of_ble_eq_true rfl) (Nat.le_of_ble_eq_true rfl) (Nat.le_of_ble_eq_true rfl) (Nat.le_of_ble_eq_true rfl) (Nat.le_of_ble_eq_true rfl) (Nat.le_of_ble_eq_true rfl)

set_option maxHeartbeats 4000000 in
set_option maxRecDepth 100000 in
theorem kX4_dealsIf_x2 (ll : Launch) (Y : GY) (hl0 : ll.stackTraces = false) (h : Nat → Nat) (sc : Nat) (a : Nat → Nat) (x : Nat → Nat) (g : Nat) (c : Int32) (w : Int32) (hx1 : x 1 ≤ 4) (hg : g < x 1) (hb : c.toInt < 1 ∨ 255 < c.toInt ∨ w.toInt < 0 ∨ 8 < w.toInt) : CX ll yX4_dealsIf wsX4_dealsIf { frames := 6, cells := 1, slots := 6, locals := 90 } Y [.ref (h 0), .int (nI g), .int c, .int w] [oB (h 0) 4 [.ref (a 0), .ref (h 1), .int (nI sc), .ref (h 3), .ref (h 4), .ref (h 5), .ref (h 6)], oB (a 0) 1 [.int (nI (x 0)), .int (nI (x 1)), .int (nI (x 2)), .int (nI (x 3)), .int (nI (x 4)), .int (nI (x 5)), .int (nI (x 6)), .int (nI (x 7)), .int (nI (x 8)), .ref (a 1), .int (nI (x 10)), .ref (a 2), .int (nI (x 12)), .ref (a 3), .ref (a 4), .ref (a 5), .ref (a 6)]] "java/lang/IllegalArgumentException" 1 6 := by
  refine CX_of (cc := cX4_dealsIf) (maxL := 4) (ret := (some .int)) (by decide) rfl (Nat.le_of_ble_eq_true rfl) ?_
  intro pp ee ss mm bl mt cc AA C hXS hx0
  have w0 := C.t _ (List.mem_of_getElem? (i := 5) (show wsX4_dealsIf[5]? = some (Cond.fieldLink RX4 10 "SecretDinner" "now" "LSecretDinner$Dinner;") from rfl))
  have w1 := C.t _ (List.mem_of_getElem? (i := 3) (show wsX4_dealsIf[3]? = some (Cond.classLink RX4 44 "java/lang/IllegalArgumentException") from rfl))
  have w2 := C.t _ (List.mem_of_getElem? (i := 4) (show wsX4_dealsIf[4]? = some (Cond.initialized "java/lang/IllegalArgumentException") from rfl))
  have i4 : ∀ w ∈ wsX40, w ∈ wsX4_dealsIf := inPlaces [51, 52, 53, 54, 55, 56, 57] (by decide +kernel)
  refine J_eq (lv' := [(0, .ref (h 0)), (1, .int (nI g)), (2, .int c), (3, .int w)]) (ws' := [oB (h 0) 4 [.ref (a 0), .ref (h 1), .int (nI sc), .ref (h 3), .ref (h 4), .ref (h 5), .ref (h 6)], oB (a 0) 1 [.int (nI (x 0)), .int (nI (x 1)), .int (nI (x 2)), .int (nI (x 3)), .int (nI (x 4)), .int (nI (x 5)), .int (nI (x 6)), .int (nI (x 7)), .int (nI (x 8)), .ref (a 1), .int (nI (x 10)), .ref (a 2), .int (nI (x 12)), .ref (a 3), .ref (a 4), .ref (a 5), .ref (a 6)]]) rfl rfl rfl rfl ?_
  refine J_aload_n C dX4_dealsIf_0 rfl 0 rfl ?_
  refine J_get (ci := 4) C i4 rfl 0 (by decide) w0 rfl 0 rfl rfl dX4_dealsIf_1 ?_
  refine J_iload_n C dX4_dealsIf_4 rfl 1 rfl ?_
  refine J_callI (wr := [oB (h 0) 4 [.ref (a 0), .ref (h 1), .int (nI sc), .ref (h 3), .ref (h 4), .ref (h 5), .ref (h 6)]]) C (R_V (st := []) (wc := [oB (a 0) 1 [.int (nI (x 0)), .int (nI (x 1)), .int (nI (x 2)), .int (nI (x 3)), .int (nI (x 4)), .int (nI (x 5)), .int (nI (x 6)), .int (nI (x 7)), .int (nI (x 8)), .ref (a 1), .int (nI (x 10)), .ref (a 2), .int (nI (x 12)), .ref (a 3), .ref (a 4), .ref (a 5), .ref (a 6)]]) C (kX1_hasGuest_n ll Y a x g (by first | assumption | omega) (by first | assumption | omega)) (cwV 1 C.t gX4_dealsIf_X1_hasGuest rfl rfl rfl (by decide +kernel) ⟨by decide, by decide⟩) rfl [1] rfl (by decide) ⟨0, 1, _, _, rfl, rfl, rfl⟩ rfl (Nat.le_of_ble_eq_true rfl) dX4_dealsIf_5 ⟨Nat.le_of_ble_eq_true rfl, Nat.le_of_ble_eq_true rfl⟩) [1] [0] rfl rfl (by decide) (by decide) (fun r5 u5 hw5 => ?_)
  subst hw5
  refine J_eq (pc' := 8) (lv' := [(0, .ref (h 0)), (1, .int (nI g)), (2, .int c), (3, .int w)]) (st' := [.int (p2i (g < x 1))]) (ws' := [oB (h 0) 4 [.ref (a 0), .ref (h 1), .int (nI sc), .ref (h 3), .ref (h 4), .ref (h 5), .ref (h 6)], oB (a 0) 1 [.int (nI (x 0)), .int (nI (x 1)), .int (nI (x 2)), .int (nI (x 3)), .int (nI (x 4)), .int (nI (x 5)), .int (nI (x 6)), .int (nI (x 7)), .int (nI (x 8)), .ref (a 1), .int (nI (x 10)), .ref (a 2), .int (nI (x 12)), .ref (a 3), .ref (a 4), .ref (a 5), .ref (a 6)]]) rfl rfl rfl rfl ?_
  refine J_if_neP (tgt := 21) C dX4_dealsIf_8 (by decide) (fun cq8 => ?_) (fun cq8 => ?_)
  · refine J_iload_n C dX4_dealsIf_21 rfl 2 rfl ?_
    refine J_callI (wr := [oB (h 0) 4 [.ref (a 0), .ref (h 1), .int (nI sc), .ref (h 3), .ref (h 4), .ref (h 5), .ref (h 6)], oB (a 0) 1 [.int (nI (x 0)), .int (nI (x 1)), .int (nI (x 2)), .int (nI (x 3)), .int (nI (x 4)), .int (nI (x 5)), .int (nI (x 6)), .int (nI (x 7)), .int (nI (x 8)), .ref (a 1), .int (nI (x 10)), .ref (a 2), .int (nI (x 12)), .ref (a 3), .ref (a 4), .ref (a 5), .ref (a 6)]]) C (R_S (st := []) (wc := []) C (kX4_isQuestion ll Y c) (va_cwS 1 C.t gX4_dealsIf_X4_isQuestion rfl rfl rfl (by decide +kernel) ⟨by decide, by decide⟩) rfl [] rfl (by decide) rfl (Nat.le_of_ble_eq_true rfl) dX4_dealsIf_22 ⟨Nat.le_of_ble_eq_true rfl, Nat.le_of_ble_eq_true rfl⟩) [] [0, 1] rfl rfl (by decide) (by decide) (fun r22 u22 hw22 => ?_)
    subst hw22
    refine J_eq (pc' := 25) (lv' := [(0, .ref (h 0)), (1, .int (nI g)), (2, .int c), (3, .int w)]) (st' := [.int (p2i (1 ≤ c.toInt ∧ c.toInt ≤ 255))]) (ws' := [oB (h 0) 4 [.ref (a 0), .ref (h 1), .int (nI sc), .ref (h 3), .ref (h 4), .ref (h 5), .ref (h 6)], oB (a 0) 1 [.int (nI (x 0)), .int (nI (x 1)), .int (nI (x 2)), .int (nI (x 3)), .int (nI (x 4)), .int (nI (x 5)), .int (nI (x 6)), .int (nI (x 7)), .int (nI (x 8)), .ref (a 1), .int (nI (x 10)), .ref (a 2), .int (nI (x 12)), .ref (a 3), .ref (a 4), .ref (a 5), .ref (a 6)]]) rfl rfl rfl rfl ?_
    refine J_if_neP (tgt := 38) C dX4_dealsIf_25 (by decide) (fun cq25 => ?_) (fun cq25 => ?_)
    · refine J_iload_n C dX4_dealsIf_38 rfl 3 rfl ?_
      refine J_if_ltT (tgt := 48) C dX4_dealsIf_39 (by decide) (fun cq39 => ?_) (fun cq39 => ?_)
      · exact J_throw (cls := "java/lang/IllegalArgumentException") (text := "answer is out of range") (ik := 44) (is := 162) (ic := 48) C hXS hl0 hx0 (by decide +kernel) (by decide) (by decide) rfl w1 w2 (fun _ hq => List.mem_cons_of_mem _ (List.mem_append_right _ hq)) (by decide +kernel) (by decide +kernel) dX4_dealsIf_48 dX4_dealsIf_51 dX4_dealsIf_52 dX4_dealsIf_54 dX4_dealsIf_57 (Nat.le_of_ble_eq_true rfl) (Nat.le_of_ble_eq_true rfl) (Nat.le_of_ble_eq_true rfl) (Nat.le_of_ble_eq_true rfl) (Nat.le_of_ble_eq_true rfl) (Nat.le_of_ble_eq_true rfl) (Nat.le_of_ble_eq_true rfl)
      · refine J_iload_n C dX4_dealsIf_42 rfl 3 rfl ?_
        refine J_bipush C dX4_dealsIf_43 (v := nI 8) (by decide) ?_
        refine J_icmp_leR (tgt := 58) C dX4_dealsIf_45 (by decide) (by omega) (fun cq45 => ?_) (fun cq45 => ?_)
        · exact absurd cq45 (by omega)
        · exact J_throw (cls := "java/lang/IllegalArgumentException") (text := "answer is out of range") (ik := 44) (is := 162) (ic := 48) C hXS hl0 hx0 (by decide +kernel) (by decide) (by decide) rfl w1 w2 (fun _ hq => List.mem_cons_of_mem _ (List.mem_append_right _ hq)) (by decide +kernel) (by decide +kernel) dX4_dealsIf_48 dX4_dealsIf_51 dX4_dealsIf_52 dX4_dealsIf_54 dX4_dealsIf_57 (Nat.le_of_ble_eq_true rfl) (Nat.le_of_ble_eq_true rfl) (Nat.le_of_ble_eq_true rfl) (Nat.le_of_ble_eq_true rfl) (Nat.le_of_ble_eq_true rfl) (Nat.le_of_ble_eq_true rfl) (Nat.le_of_ble_eq_true rfl)
    · exact J_throw (cls := "java/lang/IllegalArgumentException") (text := "cards is out of range") (ik := 44) (is := 90) (ic := 48) C hXS hl0 hx0 (by decide +kernel) (by decide) (by decide) rfl w1 w2 (fun _ hq => List.mem_cons_of_mem _ (List.mem_append_right _ hq)) (by decide +kernel) (by decide +kernel) dX4_dealsIf_28 dX4_dealsIf_31 dX4_dealsIf_32 dX4_dealsIf_34 dX4_dealsIf_37 (Nat.le_of_ble_eq_true rfl) (Nat.le_of_ble_eq_true rfl) (Nat.le_of_ble_eq_true rfl) (Nat.le_of_ble_eq_true rfl) (Nat.le_of_ble_eq_true rfl) (Nat.le_of_ble_eq_true rfl) (Nat.le_of_ble_eq_true rfl)
  · exact absurd cq8 (by omega)

set_option maxHeartbeats 4000000 in
set_option maxRecDepth 100000 in
theorem kX4_worst_x1 (ll : Launch) (Y : GY) (hl0 : ll.stackTraces = false) (h : Nat → Nat) (sc : Nat) (a : Nat → Nat) (x : Nat → Nat) (g : Int32) (c : Int32) (hx1 : x 1 ≤ 4) (hg : g.toInt < 0 ∨ (x 1 : Int) ≤ g.toInt) : CX ll yX4_worst wsX4_worst { frames := 6, cells := 1, slots := 6, locals := 90 } Y [.ref (h 0), .int g, .int c] [oB (h 0) 4 [.ref (a 0), .ref (h 1), .int (nI sc), .ref (h 3), .ref (h 4), .ref (h 5), .ref (h 6)], oB (a 0) 1 [.int (nI (x 0)), .int (nI (x 1)), .int (nI (x 2)), .int (nI (x 3)), .int (nI (x 4)), .int (nI (x 5)), .int (nI (x 6)), .int (nI (x 7)), .int (nI (x 8)), .ref (a 1), .int (nI (x 10)), .ref (a 2), .int (nI (x 12)), .ref (a 3), .ref (a 4), .ref (a 5), .ref (a 6)]] "java/lang/IndexOutOfBoundsException" 1 6 := by
  refine CX_of (cc := cX4_worst) (maxL := 3) (ret := (some .int)) (by decide) rfl (Nat.le_of_ble_eq_true rfl) ?_
  intro pp ee ss mm bl mt cc AA C hXS hx0
  have w0 := C.t _ (List.mem_of_getElem? (i := 5) (show wsX4_worst[5]? = some (Cond.fieldLink RX4 10 "SecretDinner" "now" "LSecretDinner$Dinner;") from rfl))
  have w1 := C.t _ (List.mem_of_getElem? (i := 1) (show wsX4_worst[1]? = some (Cond.classLink RX4 82 "java/lang/IndexOutOfBoundsException") from rfl))
  have w2 := C.t _ (List.mem_of_getElem? (i := 2) (show wsX4_worst[2]? = some (Cond.initialized "java/lang/IndexOutOfBoundsException") from rfl))
  have i4 : ∀ w ∈ wsX40, w ∈ wsX4_worst := inPlaces [55, 56, 57, 58, 59, 60, 61] (by decide +kernel)
  refine J_eq (lv' := [(0, .ref (h 0)), (1, .int g), (2, .int c)]) (ws' := [oB (h 0) 4 [.ref (a 0), .ref (h 1), .int (nI sc), .ref (h 3), .ref (h 4), .ref (h 5), .ref (h 6)], oB (a 0) 1 [.int (nI (x 0)), .int (nI (x 1)), .int (nI (x 2)), .int (nI (x 3)), .int (nI (x 4)), .int (nI (x 5)), .int (nI (x 6)), .int (nI (x 7)), .int (nI (x 8)), .ref (a 1), .int (nI (x 10)), .ref (a 2), .int (nI (x 12)), .ref (a 3), .ref (a 4), .ref (a 5), .ref (a 6)]]) rfl rfl rfl rfl ?_
  refine J_aload_n C dX4_worst_0 rfl 0 rfl ?_
  refine J_get (ci := 4) C i4 rfl 0 (by decide) w0 rfl 0 rfl rfl dX4_worst_1 ?_
  refine J_iload_n C dX4_worst_4 rfl 1 rfl ?_
  refine J_callI (wr := [oB (h 0) 4 [.ref (a 0), .ref (h 1), .int (nI sc), .ref (h 3), .ref (h 4), .ref (h 5), .ref (h 6)]]) C (R_V (st := []) (wc := [oB (a 0) 1 [.int (nI (x 0)), .int (nI (x 1)), .int (nI (x 2)), .int (nI (x 3)), .int (nI (x 4)), .int (nI (x 5)), .int (nI (x 6)), .int (nI (x 7)), .int (nI (x 8)), .ref (a 1), .int (nI (x 10)), .ref (a 2), .int (nI (x 12)), .ref (a 3), .ref (a 4), .ref (a 5), .ref (a 6)]]) C (kX1_hasGuest ll Y a x g (by first | assumption | omega)) (cwV 1 C.t gX4_worst_X1_hasGuest rfl rfl rfl (by decide +kernel) ⟨by decide, by decide⟩) rfl [1] rfl (by decide) ⟨0, 1, _, _, rfl, rfl, rfl⟩ rfl (Nat.le_of_ble_eq_true rfl) dX4_worst_5 ⟨Nat.le_of_ble_eq_true rfl, Nat.le_of_ble_eq_true rfl⟩) [1] [0] rfl rfl (by decide) (by decide) (fun r5 u5 hw5 => ?_)
  subst hw5
  refine J_eq (pc' := 8) (lv' := [(0, .ref (h 0)), (1, .int g), (2, .int c)]) (st' := [.int (p2i (0 ≤ g.toInt ∧ g.toInt < (x 1 : Int)))]) (ws' := [oB (h 0) 4 [.ref (a 0), .ref (h 1), .int (nI sc), .ref (h 3), .ref (h 4), .ref (h 5), .ref (h 6)], oB (a 0) 1 [.int (nI (x 0)), .int (nI (x 1)), .int (nI (x 2)), .int (nI (x 3)), .int (nI (x 4)), .int (nI (x 5)), .int (nI (x 6)), .int (nI (x 7)), .int (nI (x 8)), .ref (a 1), .int (nI (x 10)), .ref (a 2), .int (nI (x 12)), .ref (a 3), .ref (a 4), .ref (a 5), .ref (a 6)]]) rfl rfl rfl rfl ?_
  refine J_if_neP (tgt := 21) C dX4_worst_8 (by decide) (fun cq8 => ?_) (fun cq8 => ?_)
  · exact absurd cq8 (by omega)
  · exact J_throw (cls := "java/lang/IndexOutOfBoundsException") (text := "no such guest") (ik := 82) (is := 84) (ic := 86) C hXS hl0 hx0 (by decide +kernel) (by decide) (by decide) rfl w1 w2 (fun _ hq => List.mem_cons_of_mem _ (List.mem_append_left _ (List.mem_append_right _ hq))) (by decide +kernel) (by decide +kernel) dX4_worst_11 dX4_worst_14 dX4_worst_15 dX4_worst_17 dX4_worst_20 (Nat.le_of_ble_eq_true rfl) (Nat.le_of_ble_eq_true rfl) (Nat.le_of_ble_eq_true rfl) (Nat.le_of_ble_eq_true rfl) (Nat.le_of_ble_eq_true rfl) (Nat.le_of_ble_eq_true rfl) (Nat.le_of_ble_eq_true rfl)

set_option maxHeartbeats 4000000 in
set_option maxRecDepth 100000 in
theorem kX4_worst_x2 (ll : Launch) (Y : GY) (hl0 : ll.stackTraces = false) (h : Nat → Nat) (sc : Nat) (a : Nat → Nat) (x : Nat → Nat) (g : Nat) (c : Int32) (hx1 : x 1 ≤ 4) (hg : g < x 1) (hc : c.toInt < 1 ∨ 255 < c.toInt) : CX ll yX4_worst wsX4_worst { frames := 6, cells := 1, slots := 6, locals := 90 } Y [.ref (h 0), .int (nI g), .int c] [oB (h 0) 4 [.ref (a 0), .ref (h 1), .int (nI sc), .ref (h 3), .ref (h 4), .ref (h 5), .ref (h 6)], oB (a 0) 1 [.int (nI (x 0)), .int (nI (x 1)), .int (nI (x 2)), .int (nI (x 3)), .int (nI (x 4)), .int (nI (x 5)), .int (nI (x 6)), .int (nI (x 7)), .int (nI (x 8)), .ref (a 1), .int (nI (x 10)), .ref (a 2), .int (nI (x 12)), .ref (a 3), .ref (a 4), .ref (a 5), .ref (a 6)]] "java/lang/IllegalArgumentException" 1 6 := by
  refine CX_of (cc := cX4_worst) (maxL := 3) (ret := (some .int)) (by decide) rfl (Nat.le_of_ble_eq_true rfl) ?_
  intro pp ee ss mm bl mt cc AA C hXS hx0
  have w0 := C.t _ (List.mem_of_getElem? (i := 5) (show wsX4_worst[5]? = some (Cond.fieldLink RX4 10 "SecretDinner" "now" "LSecretDinner$Dinner;") from rfl))
  have w1 := C.t _ (List.mem_of_getElem? (i := 3) (show wsX4_worst[3]? = some (Cond.classLink RX4 44 "java/lang/IllegalArgumentException") from rfl))
  have w2 := C.t _ (List.mem_of_getElem? (i := 4) (show wsX4_worst[4]? = some (Cond.initialized "java/lang/IllegalArgumentException") from rfl))
  have i4 : ∀ w ∈ wsX40, w ∈ wsX4_worst := inPlaces [55, 56, 57, 58, 59, 60, 61] (by decide +kernel)
  refine J_eq (lv' := [(0, .ref (h 0)), (1, .int (nI g)), (2, .int c)]) (ws' := [oB (h 0) 4 [.ref (a 0), .ref (h 1), .int (nI sc), .ref (h 3), .ref (h 4), .ref (h 5), .ref (h 6)], oB (a 0) 1 [.int (nI (x 0)), .int (nI (x 1)), .int (nI (x 2)), .int (nI (x 3)), .int (nI (x 4)), .int (nI (x 5)), .int (nI (x 6)), .int (nI (x 7)), .int (nI (x 8)), .ref (a 1), .int (nI (x 10)), .ref (a 2), .int (nI (x 12)), .ref (a 3), .ref (a 4), .ref (a 5), .ref (a 6)]]) rfl rfl rfl rfl ?_
  refine J_aload_n C dX4_worst_0 rfl 0 rfl ?_
  refine J_get (ci := 4) C i4 rfl 0 (by decide) w0 rfl 0 rfl rfl dX4_worst_1 ?_
  refine J_iload_n C dX4_worst_4 rfl 1 rfl ?_
  refine J_callI (wr := [oB (h 0) 4 [.ref (a 0), .ref (h 1), .int (nI sc), .ref (h 3), .ref (h 4), .ref (h 5), .ref (h 6)]]) C (R_V (st := []) (wc := [oB (a 0) 1 [.int (nI (x 0)), .int (nI (x 1)), .int (nI (x 2)), .int (nI (x 3)), .int (nI (x 4)), .int (nI (x 5)), .int (nI (x 6)), .int (nI (x 7)), .int (nI (x 8)), .ref (a 1), .int (nI (x 10)), .ref (a 2), .int (nI (x 12)), .ref (a 3), .ref (a 4), .ref (a 5), .ref (a 6)]]) C (kX1_hasGuest_n ll Y a x g (by first | assumption | omega) (by first | assumption | omega)) (cwV 1 C.t gX4_worst_X1_hasGuest rfl rfl rfl (by decide +kernel) ⟨by decide, by decide⟩) rfl [1] rfl (by decide) ⟨0, 1, _, _, rfl, rfl, rfl⟩ rfl (Nat.le_of_ble_eq_true rfl) dX4_worst_5 ⟨Nat.le_of_ble_eq_true rfl, Nat.le_of_ble_eq_true rfl⟩) [1] [0] rfl rfl (by decide) (by decide) (fun r5 u5 hw5 => ?_)
  subst hw5
  refine J_eq (pc' := 8) (lv' := [(0, .ref (h 0)), (1, .int (nI g)), (2, .int c)]) (st' := [.int (p2i (g < x 1))]) (ws' := [oB (h 0) 4 [.ref (a 0), .ref (h 1), .int (nI sc), .ref (h 3), .ref (h 4), .ref (h 5), .ref (h 6)], oB (a 0) 1 [.int (nI (x 0)), .int (nI (x 1)), .int (nI (x 2)), .int (nI (x 3)), .int (nI (x 4)), .int (nI (x 5)), .int (nI (x 6)), .int (nI (x 7)), .int (nI (x 8)), .ref (a 1), .int (nI (x 10)), .ref (a 2), .int (nI (x 12)), .ref (a 3), .ref (a 4), .ref (a 5), .ref (a 6)]]) rfl rfl rfl rfl ?_
  refine J_if_neP (tgt := 21) C dX4_worst_8 (by decide) (fun cq8 => ?_) (fun cq8 => ?_)
  · refine J_iload_n C dX4_worst_21 rfl 2 rfl ?_
    refine J_callI (wr := [oB (h 0) 4 [.ref (a 0), .ref (h 1), .int (nI sc), .ref (h 3), .ref (h 4), .ref (h 5), .ref (h 6)], oB (a 0) 1 [.int (nI (x 0)), .int (nI (x 1)), .int (nI (x 2)), .int (nI (x 3)), .int (nI (x 4)), .int (nI (x 5)), .int (nI (x 6)), .int (nI (x 7)), .int (nI (x 8)), .ref (a 1), .int (nI (x 10)), .ref (a 2), .int (nI (x 12)), .ref (a 3), .ref (a 4), .ref (a 5), .ref (a 6)]]) C (R_S (st := []) (wc := []) C (kX4_isQuestion ll Y c) (va_cwS 1 C.t gX4_worst_X4_isQuestion rfl rfl rfl (by decide +kernel) ⟨by decide, by decide⟩) rfl [] rfl (by decide) rfl (Nat.le_of_ble_eq_true rfl) dX4_worst_22 ⟨Nat.le_of_ble_eq_true rfl, Nat.le_of_ble_eq_true rfl⟩) [] [0, 1] rfl rfl (by decide) (by decide) (fun r22 u22 hw22 => ?_)
    subst hw22
    refine J_eq (pc' := 25) (lv' := [(0, .ref (h 0)), (1, .int (nI g)), (2, .int c)]) (st' := [.int (p2i (1 ≤ c.toInt ∧ c.toInt ≤ 255))]) (ws' := [oB (h 0) 4 [.ref (a 0), .ref (h 1), .int (nI sc), .ref (h 3), .ref (h 4), .ref (h 5), .ref (h 6)], oB (a 0) 1 [.int (nI (x 0)), .int (nI (x 1)), .int (nI (x 2)), .int (nI (x 3)), .int (nI (x 4)), .int (nI (x 5)), .int (nI (x 6)), .int (nI (x 7)), .int (nI (x 8)), .ref (a 1), .int (nI (x 10)), .ref (a 2), .int (nI (x 12)), .ref (a 3), .ref (a 4), .ref (a 5), .ref (a 6)]]) rfl rfl rfl rfl ?_
    refine J_if_neP (tgt := 38) C dX4_worst_25 (by decide) (fun cq25 => ?_) (fun cq25 => ?_)
    · exact absurd cq25 (by omega)
    · exact J_throw (cls := "java/lang/IllegalArgumentException") (text := "cards is out of range") (ik := 44) (is := 90) (ic := 48) C hXS hl0 hx0 (by decide +kernel) (by decide) (by decide) rfl w1 w2 (fun _ hq => List.mem_cons_of_mem _ (List.mem_append_right _ hq)) (by decide +kernel) (by decide +kernel) dX4_worst_28 dX4_worst_31 dX4_worst_32 dX4_worst_34 dX4_worst_37 (Nat.le_of_ble_eq_true rfl) (Nat.le_of_ble_eq_true rfl) (Nat.le_of_ble_eq_true rfl) (Nat.le_of_ble_eq_true rfl) (Nat.le_of_ble_eq_true rfl) (Nat.le_of_ble_eq_true rfl) (Nat.le_of_ble_eq_true rfl)
  · exact absurd cq8 (by omega)

set_option maxHeartbeats 4000000 in
set_option maxRecDepth 100000 in
theorem kX4_bestCards_x1 (ll : Launch) (Y : GY) (hl0 : ll.stackTraces = false) (h : Nat → Nat) (sc : Nat) (a : Nat → Nat) (x : Nat → Nat) (g : Int32) (hx1 : x 1 ≤ 4) (hg : g.toInt < 0 ∨ (x 1 : Int) ≤ g.toInt) : CX ll yX4_bestCards wsX4_bestCards { frames := 6, cells := 1, slots := 6, locals := 90 } Y [.ref (h 0), .int g] [oB (h 0) 4 [.ref (a 0), .ref (h 1), .int (nI sc), .ref (h 3), .ref (h 4), .ref (h 5), .ref (h 6)], oB (a 0) 1 [.int (nI (x 0)), .int (nI (x 1)), .int (nI (x 2)), .int (nI (x 3)), .int (nI (x 4)), .int (nI (x 5)), .int (nI (x 6)), .int (nI (x 7)), .int (nI (x 8)), .ref (a 1), .int (nI (x 10)), .ref (a 2), .int (nI (x 12)), .ref (a 3), .ref (a 4), .ref (a 5), .ref (a 6)]] "java/lang/IndexOutOfBoundsException" 1 6 := by
  refine CX_of (cc := cX4_bestCards) (maxL := 2) (ret := (some .int)) (by decide) rfl (Nat.le_of_ble_eq_true rfl) ?_
  intro pp ee ss mm bl mt cc AA C hXS hx0
  have w0 := C.t _ (List.mem_of_getElem? (i := 3) (show wsX4_bestCards[3]? = some (Cond.fieldLink RX4 10 "SecretDinner" "now" "LSecretDinner$Dinner;") from rfl))
  have w1 := C.t _ (List.mem_of_getElem? (i := 1) (show wsX4_bestCards[1]? = some (Cond.classLink RX4 82 "java/lang/IndexOutOfBoundsException") from rfl))
  have w2 := C.t _ (List.mem_of_getElem? (i := 2) (show wsX4_bestCards[2]? = some (Cond.initialized "java/lang/IndexOutOfBoundsException") from rfl))
  have i4 : ∀ w ∈ wsX40, w ∈ wsX4_bestCards := inPlaces [53, 54, 55, 56, 57, 58, 59] (by decide +kernel)
  refine J_eq (lv' := [(0, .ref (h 0)), (1, .int g)]) (ws' := [oB (h 0) 4 [.ref (a 0), .ref (h 1), .int (nI sc), .ref (h 3), .ref (h 4), .ref (h 5), .ref (h 6)], oB (a 0) 1 [.int (nI (x 0)), .int (nI (x 1)), .int (nI (x 2)), .int (nI (x 3)), .int (nI (x 4)), .int (nI (x 5)), .int (nI (x 6)), .int (nI (x 7)), .int (nI (x 8)), .ref (a 1), .int (nI (x 10)), .ref (a 2), .int (nI (x 12)), .ref (a 3), .ref (a 4), .ref (a 5), .ref (a 6)]]) rfl rfl rfl rfl ?_
  refine J_aload_n C dX4_bestCards_0 rfl 0 rfl ?_
  refine J_get (ci := 4) C i4 rfl 0 (by decide) w0 rfl 0 rfl rfl dX4_bestCards_1 ?_
  refine J_iload_n C dX4_bestCards_4 rfl 1 rfl ?_
  refine J_callI (wr := [oB (h 0) 4 [.ref (a 0), .ref (h 1), .int (nI sc), .ref (h 3), .ref (h 4), .ref (h 5), .ref (h 6)]]) C (R_V (st := []) (wc := [oB (a 0) 1 [.int (nI (x 0)), .int (nI (x 1)), .int (nI (x 2)), .int (nI (x 3)), .int (nI (x 4)), .int (nI (x 5)), .int (nI (x 6)), .int (nI (x 7)), .int (nI (x 8)), .ref (a 1), .int (nI (x 10)), .ref (a 2), .int (nI (x 12)), .ref (a 3), .ref (a 4), .ref (a 5), .ref (a 6)]]) C (kX1_hasGuest ll Y a x g (by first | assumption | omega)) (cwV 1 C.t gX4_bestCards_X1_hasGuest rfl rfl rfl (by decide +kernel) ⟨by decide, by decide⟩) rfl [1] rfl (by decide) ⟨0, 1, _, _, rfl, rfl, rfl⟩ rfl (Nat.le_of_ble_eq_true rfl) dX4_bestCards_5 ⟨Nat.le_of_ble_eq_true rfl, Nat.le_of_ble_eq_true rfl⟩) [1] [0] rfl rfl (by decide) (by decide) (fun r5 u5 hw5 => ?_)
  subst hw5
  refine J_eq (pc' := 8) (lv' := [(0, .ref (h 0)), (1, .int g)]) (st' := [.int (p2i (0 ≤ g.toInt ∧ g.toInt < (x 1 : Int)))]) (ws' := [oB (h 0) 4 [.ref (a 0), .ref (h 1), .int (nI sc), .ref (h 3), .ref (h 4), .ref (h 5), .ref (h 6)], oB (a 0) 1 [.int (nI (x 0)), .int (nI (x 1)), .int (nI (x 2)), .int (nI (x 3)), .int (nI (x 4)), .int (nI (x 5)), .int (nI (x 6)), .int (nI (x 7)), .int (nI (x 8)), .ref (a 1), .int (nI (x 10)), .ref (a 2), .int (nI (x 12)), .ref (a 3), .ref (a 4), .ref (a 5), .ref (a 6)]]) rfl rfl rfl rfl ?_
  refine J_if_neP (tgt := 21) C dX4_bestCards_8 (by decide) (fun cq8 => ?_) (fun cq8 => ?_)
  · exact absurd cq8 (by omega)
  · exact J_throw (cls := "java/lang/IndexOutOfBoundsException") (text := "no such guest") (ik := 82) (is := 84) (ic := 86) C hXS hl0 hx0 (by decide +kernel) (by decide) (by decide) rfl w1 w2 (fun _ hq => List.mem_cons_of_mem _ (List.mem_append_right _ hq)) (by decide +kernel) (by decide +kernel) dX4_bestCards_11 dX4_bestCards_14 dX4_bestCards_15 dX4_bestCards_17 dX4_bestCards_20 (Nat.le_of_ble_eq_true rfl) (Nat.le_of_ble_eq_true rfl) (Nat.le_of_ble_eq_true rfl) (Nat.le_of_ble_eq_true rfl) (Nat.le_of_ble_eq_true rfl) (Nat.le_of_ble_eq_true rfl) (Nat.le_of_ble_eq_true rfl)

set_option maxHeartbeats 4000000 in
set_option maxRecDepth 100000 in
theorem kX4_append_x1 (ll : Launch) (Y : GY) (hl0 : ll.stackTraces = false) (h : Nat → Nat) (sc : Nat) (a : Nat → Nat) (c : Int32) (hc : c.toInt < 0 ∨ 127 < c.toInt) : CX ll yX4_append wsX4_append { frames := 6, cells := 1, slots := 6, locals := 90 } Y [.ref (h 0), .int c] [oB (h 0) 4 [.ref (a 0), .ref (h 1), .int (nI sc), .ref (h 3), .ref (h 4), .ref (h 5), .ref (h 6)]] "java/lang/IllegalArgumentException" 1 6 := by
  refine CX_of (cc := cX4_append) (maxL := 2) (ret := (some .int)) (by decide) rfl (Nat.le_of_ble_eq_true rfl) ?_
  intro pp ee ss mm bl mt cc AA C hXS hx0
  have w0 := C.t _ (List.mem_of_getElem? (i := 1) (show wsX4_append[1]? = some (Cond.classLink RX4 44 "java/lang/IllegalArgumentException") from rfl))
  have w1 := C.t _ (List.mem_of_getElem? (i := 2) (show wsX4_append[2]? = some (Cond.initialized "java/lang/IllegalArgumentException") from rfl))
  refine J_eq (lv' := [(0, .ref (h 0)), (1, .int c)]) (ws' := [oB (h 0) 4 [.ref (a 0), .ref (h 1), .int (nI sc), .ref (h 3), .ref (h 4), .ref (h 5), .ref (h 6)]]) rfl rfl rfl rfl ?_
  refine J_iload_n C dX4_append_0 rfl 1 rfl ?_
  refine J_if_ltT (tgt := 10) C dX4_append_1 (by decide) (fun cq1 => ?_) (fun cq1 => ?_)
  · exact J_throw (cls := "java/lang/IllegalArgumentException") (text := "value is no byte from 0 to 127") (ik := 44) (is := 178) (ic := 48) C hXS hl0 hx0 (by decide +kernel) (by decide) (by decide) rfl w0 w1 (fun _ hq => List.mem_cons_of_mem _ (List.mem_append_left _ (List.mem_append_right _ hq))) (by decide +kernel) (by decide +kernel) dX4_append_10 dX4_append_13 dX4_append_14 dX4_append_16 dX4_append_19 (Nat.le_of_ble_eq_true rfl) (Nat.le_of_ble_eq_true rfl) (Nat.le_of_ble_eq_true rfl) (Nat.le_of_ble_eq_true rfl) (Nat.le_of_ble_eq_true rfl) (Nat.le_of_ble_eq_true rfl) (Nat.le_of_ble_eq_true rfl)
  · refine J_iload_n C dX4_append_4 rfl 1 rfl ?_
    refine J_bipush C dX4_append_5 (v := nI 127) (by decide) ?_
    refine J_icmp_leR (tgt := 20) C dX4_append_7 (by decide) (by omega) (fun cq7 => ?_) (fun cq7 => ?_)
    · exact absurd cq7 (by omega)
    · exact J_throw (cls := "java/lang/IllegalArgumentException") (text := "value is no byte from 0 to 127") (ik := 44) (is := 178) (ic := 48) C hXS hl0 hx0 (by decide +kernel) (by decide) (by decide) rfl w0 w1 (fun _ hq => List.mem_cons_of_mem _ (List.mem_append_left _ (List.mem_append_right _ hq))) (by decide +kernel) (by decide +kernel) dX4_append_10 dX4_append_13 dX4_append_14 dX4_append_16 dX4_append_19 (Nat.le_of_ble_eq_true rfl) (Nat.le_of_ble_eq_true rfl) (Nat.le_of_ble_eq_true rfl) (Nat.le_of_ble_eq_true rfl) (Nat.le_of_ble_eq_true rfl) (Nat.le_of_ble_eq_true rfl) (Nat.le_of_ble_eq_true rfl)

set_option maxHeartbeats 4000000 in
set_option maxRecDepth 100000 in
theorem kX4_append_x2 (ll : Launch) (Y : GY) (hl0 : ll.stackTraces = false) (h : Nat → Nat) (sc : Nat) (a : Nat → Nat) (n : Nat) (at0 : Int32) (kd : Int32) (gu : Int32) (cs : Int32) (cd : Int32) (c : Nat) (hc : c ≤ 127) (hn : n = 90) : CX ll yX4_append wsX4_append { frames := 6, cells := 1, slots := 6, locals := 90 } Y [.ref (h 0), .int (nI c)] [oB (h 0) 4 [.ref (a 0), .ref (h 1), .int (nI sc), .ref (h 3), .ref (h 4), .ref (h 5), .ref (h 6)], oB (h 6) 3 [.ref (h 11), .int (nI n), .int at0, .int kd, .int gu, .int cs, .int cd]] "java/lang/IllegalStateException" 1 6 := by
  refine CX_of (cc := cX4_append) (maxL := 2) (ret := (some .int)) (by decide) rfl (Nat.le_of_ble_eq_true rfl) ?_
  intro pp ee ss mm bl mt cc AA C hXS hx0
  have w0 := C.t _ (List.mem_of_getElem? (i := 5) (show wsX4_append[5]? = some (Cond.fieldLink RX4 40 "SecretDinner" "text" "LSecretDinner$Script;") from rfl))
  have w1 := C.nf ("SecretDinner", 180, "SecretDinner$Script", "length", "I") (List.mem_of_getElem? (i := 5) (show xn_f[5]? = some ("SecretDinner", 180, "SecretDinner$Script", "length", "I") from rfl))
  have w2 := C.t _ (List.mem_of_getElem? (i := 3) (show wsX4_append[3]? = some (Cond.classLink RX4 58 "java/lang/IllegalStateException") from rfl))
  have w3 := C.t _ (List.mem_of_getElem? (i := 4) (show wsX4_append[4]? = some (Cond.initialized "java/lang/IllegalStateException") from rfl))
  have i4 : ∀ w ∈ wsX40, w ∈ wsX4_append := inPlaces [13, 14, 15, 16, 17, 18, 19] (by decide +kernel)
  have i3 : ∀ w ∈ wsX30, w ∈ wsX4_append := inPlaces [20, 21, 22, 23, 24, 25, 26] (by decide +kernel)
  refine J_eq (lv' := [(0, .ref (h 0)), (1, .int (nI c))]) (ws' := [oB (h 0) 4 [.ref (a 0), .ref (h 1), .int (nI sc), .ref (h 3), .ref (h 4), .ref (h 5), .ref (h 6)], oB (h 6) 3 [.ref (h 11), .int (nI n), .int at0, .int kd, .int gu, .int cs, .int cd]]) rfl rfl rfl rfl ?_
  refine J_iload_n C dX4_append_0 rfl 1 rfl ?_
  refine J_if_ltN (tgt := 10) C dX4_append_1 (by decide) (by omega) ?_
  refine J_iload_n C dX4_append_4 rfl 1 rfl ?_
  refine J_bipush C dX4_append_5 (v := nI 127) (by decide) ?_
  refine J_icmp_leN (tgt := 20) C dX4_append_7 (by decide) (by omega) (by omega) (fun cq7 => ?_) (fun cq7 => ?_)
  · refine J_aload_n C dX4_append_20 rfl 0 rfl ?_
    refine J_get (ci := 4) C i4 rfl 6 (by decide) w0 rfl 0 rfl rfl dX4_append_21 ?_
    refine J_getN (ci := 3) C i3 rfl 1 (by decide) w1 rfl 1 rfl rfl dX4_append_24 ?_
    refine J_bipush C dX4_append_27 (v := nI 90) (by decide) ?_
    refine J_icmp_ltN (tgt := 42) C dX4_append_29 (by decide) (by omega) (by omega) (fun cq29 => ?_) (fun cq29 => ?_)
    · exact absurd cq29 (by omega)
    · exact J_throw (cls := "java/lang/IllegalStateException") (text := "the text is full") (ik := 58) (is := 183) (ic := 62) C hXS hl0 hx0 (by decide +kernel) (by decide) (by decide) rfl w2 w3 (fun _ hq => List.mem_cons_of_mem _ (List.mem_append_right _ hq)) (by decide +kernel) (by decide +kernel) dX4_append_32 dX4_append_35 dX4_append_36 dX4_append_38 dX4_append_41 (Nat.le_of_ble_eq_true rfl) (Nat.le_of_ble_eq_true rfl) (Nat.le_of_ble_eq_true rfl) (Nat.le_of_ble_eq_true rfl) (Nat.le_of_ble_eq_true rfl) (Nat.le_of_ble_eq_true rfl) (Nat.le_of_ble_eq_true rfl)
  · exact absurd cq7 (by omega)

set_option maxHeartbeats 4000000 in
set_option maxRecDepth 100000 in
theorem kX4_undo_x1 (ll : Launch) (Y : GY) (hl0 : ll.stackTraces = false) (h : Nat → Nat) (a : Nat → Nat)  : CX ll yX4_undo wsX4_undo { frames := 6, cells := 1, slots := 6, locals := 90 } Y [.ref (h 0)] [oB (h 0) 4 [.ref (a 0), .ref (h 1), .int (nI 0), .ref (h 3), .ref (h 4), .ref (h 5), .ref (h 6)]] "java/lang/IllegalStateException" 1 6 := by
  refine CX_of (cc := cX4_undo) (maxL := 1) (ret := (some .int)) (by decide) rfl (Nat.le_of_ble_eq_true rfl) ?_
  intro pp ee ss mm bl mt cc AA C hXS hx0
  have w0 := C.t _ (List.mem_of_getElem? (i := 3) (show wsX4_undo[3]? = some (Cond.fieldLink RX4 194 "SecretDinner" "savedCount" "I") from rfl))
  have w1 := C.t _ (List.mem_of_getElem? (i := 1) (show wsX4_undo[1]? = some (Cond.classLink RX4 58 "java/lang/IllegalStateException") from rfl))
  have w2 := C.t _ (List.mem_of_getElem? (i := 2) (show wsX4_undo[2]? = some (Cond.initialized "java/lang/IllegalStateException") from rfl))
  have i4 : ∀ w ∈ wsX40, w ∈ wsX4_undo := inPlaces [62, 63, 64, 65, 66, 67, 68] (by decide +kernel)
  refine J_eq (lv' := [(0, .ref (h 0))]) (ws' := [oB (h 0) 4 [.ref (a 0), .ref (h 1), .int (nI 0), .ref (h 3), .ref (h 4), .ref (h 5), .ref (h 6)]]) rfl rfl rfl rfl ?_
  refine J_aload_n C dX4_undo_0 rfl 0 rfl ?_
  refine J_get (ci := 4) C i4 rfl 2 (by decide) w0 rfl 0 rfl rfl dX4_undo_1 ?_
  refine J_if_gtN (tgt := 17) C dX4_undo_4 (by decide) (by omega) (fun cq4 => ?_) (fun cq4 => ?_)
  · exact absurd cq4 (by omega)
  · exact J_throw (cls := "java/lang/IllegalStateException") (text := "there is no saved state") (ik := 58) (is := 197) (ic := 62) C hXS hl0 hx0 (by decide +kernel) (by decide) (by decide) rfl w1 w2 (fun _ hq => List.mem_cons_of_mem _ (List.mem_append_right _ hq)) (by decide +kernel) (by decide +kernel) dX4_undo_7 dX4_undo_10 dX4_undo_11 dX4_undo_13 dX4_undo_16 (Nat.le_of_ble_eq_true rfl) (Nat.le_of_ble_eq_true rfl) (Nat.le_of_ble_eq_true rfl) (Nat.le_of_ble_eq_true rfl) (Nat.le_of_ble_eq_true rfl) (Nat.le_of_ble_eq_true rfl) (Nat.le_of_ble_eq_true rfl)

