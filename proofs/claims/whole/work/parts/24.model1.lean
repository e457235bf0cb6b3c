set_option maxHeartbeats 4000000 in
set_option maxRecDepth 100000 in
theorem kX5_thrown (ll : Launch) (Y : GY) (m : Nat → Nat) (v : Nat → Nat)  : CT ll yX5_thrown wsX5_thrown { frames := 0, cells := 0, slots := 0, locals := 0 } Y [.ref (m 0)] [oB (m 0) 5 [.ref (m 1), .ref (m 2), .int (nI (v 2)), .int (nI (v 3)), .ref (m 3), .int (nI (v 5)), .int (nI (v 6)), .ref (m 4), .ref (m 5), .ref (m 6), .ref (m 7), .ref (m 8), .ref (m 9), .ref (m 10), .ref (m 11), .int (nI (v 15)), .int (nI (v 16)), .int (nI (v 17)), .int (nI (v 18)), .long (lN (v 19))]] (QI Y (fun (r : Int32) (_ : Unit) => r = nI (v 3)) (fun _ => [oB (m 0) 5 [.ref (m 1), .ref (m 2), .int (nI (v 2)), .int (nI (v 3)), .ref (m 3), .int (nI (v 5)), .int (nI (v 6)), .ref (m 4), .ref (m 5), .ref (m 6), .ref (m 7), .ref (m 8), .ref (m 9), .ref (m 10), .ref (m 11), .int (nI (v 15)), .int (nI (v 16)), .int (nI (v 17)), .int (nI (v 18)), .long (lN (v 19))]])) 0 0 := by
  refine CT_of (cc := cX5_thrown) (maxL := 1) (ret := (some .int)) (by decide) rfl (Nat.le_of_ble_eq_true rfl) ?_
  intro pp ee ss mm bl mt cc AA C hr hnm
  have w0 := C.t _ (List.mem_of_getElem? (i := 1) (show wsX5_thrown[1]? = some (Cond.fieldLink RX5 43 "SecretDinnerModel" "refusal" "I") from rfl))
  have i5 : ∀ w ∈ wsX50, w ∈ wsX5_thrown := inPlaces [2, 3, 4, 5, 6, 7, 8, 9, 10, 11, 12, 13, 14, 15, 16, 17, 18, 19, 20, 21] (by decide +kernel)
  refine J_eq (lv' := [(0, .ref (m 0))]) (ws' := [oB (m 0) 5 [.ref (m 1), .ref (m 2), .int (nI (v 2)), .int (nI (v 3)), .ref (m 3), .int (nI (v 5)), .int (nI (v 6)), .ref (m 4), .ref (m 5), .ref (m 6), .ref (m 7), .ref (m 8), .ref (m 9), .ref (m 10), .ref (m 11), .int (nI (v 15)), .int (nI (v 16)), .int (nI (v 17)), .int (nI (v 18)), .long (lN (v 19))]]) rfl rfl rfl rfl ?_
  refine J_aload_n C dX5_thrown_0 rfl 0 rfl ?_
  refine J_get (ci := 5) C i5 rfl 3 (by decide) w0 rfl 0 rfl rfl dX5_thrown_1 ?_
  exact J_iret C hr dX5_thrown_4 (()) (rfl) (rfl)

set_option maxHeartbeats 4000000 in
set_option maxRecDepth 100000 in
theorem kX5_refused (ll : Launch) (Y : GY) (m : Nat → Nat) (v : Nat → Nat) (w : Nat) (hw : w < 2 ^ 31) : CT ll yX5_refused wsX5_refused { frames := 0, cells := 0, slots := 0, locals := 0 } Y [.ref (m 0), .int (nI w)] [oB (m 0) 5 [.ref (m 1), .ref (m 2), .int (nI (v 2)), .int (nI (v 3)), .ref (m 3), .int (nI (v 5)), .int (nI (v 6)), .ref (m 4), .ref (m 5), .ref (m 6), .ref (m 7), .ref (m 8), .ref (m 9), .ref (m 10), .ref (m 11), .int (nI (v 15)), .int (nI (v 16)), .int (nI (v 17)), .int (nI (v 18)), .long (lN (v 19))]] (QI Y (fun (r : Int32) (_ : Unit) => r = p2i (0 < w)) (fun _ => [oB (m 0) 5 [.ref (m 1), .ref (m 2), .int (nI (((va_up v 3 w)) 2)), .int (nI (((va_up v 3 w)) 3)), .ref (m 3), .int (nI (((va_up v 3 w)) 5)), .int (nI (((va_up v 3 w)) 6)), .ref (m 4), .ref (m 5), .ref (m 6), .ref (m 7), .ref (m 8), .ref (m 9), .ref (m 10), .ref (m 11), .int (nI (((va_up v 3 w)) 15)), .int (nI (((va_up v 3 w)) 16)), .int (nI (((va_up v 3 w)) 17)), .int (nI (((va_up v 3 w)) 18)), .long (lN (((va_up v 3 w)) 19))]])) 0 0 := by
  refine CT_of (cc := cX5_refused) (maxL := 2) (ret := (some .boolean)) (by decide) rfl (Nat.le_of_ble_eq_true rfl) ?_
  intro pp ee ss mm bl mt cc AA C hr hnm
  have w0 := C.t _ (List.mem_of_getElem? (i := 1) (show wsX5_refused[1]? = some (Cond.fieldLink RX5 43 "SecretDinnerModel" "refusal" "I") from rfl))
  have i5 : ∀ w ∈ wsX50, w ∈ wsX5_refused := inPlaces [2, 3, 4, 5, 6, 7, 8, 9, 10, 11, 12, 13, 14, 15, 16, 17, 18, 19, 20, 21] (by decide +kernel)
  refine J_eq (lv' := [(0, .ref (m 0)), (1, .int (nI w))]) (ws' := [oB (m 0) 5 [.ref (m 1), .ref (m 2), .int (nI (v 2)), .int (nI (v 3)), .ref (m 3), .int (nI (v 5)), .int (nI (v 6)), .ref (m 4), .ref (m 5), .ref (m 6), .ref (m 7), .ref (m 8), .ref (m 9), .ref (m 10), .ref (m 11), .int (nI (v 15)), .int (nI (v 16)), .int (nI (v 17)), .int (nI (v 18)), .long (lN (v 19))]]) rfl rfl rfl rfl ?_
  refine J_aload_n C dX5_refused_0 rfl 0 rfl ?_
  refine J_iload_n C dX5_refused_1 rfl 1 rfl ?_
  refine J_put (ci := 5) (ty := .int) (ws' := [oB (m 0) 5 [.ref (m 1), .ref (m 2), .int (nI (v 2)), .int (nI w), .ref (m 3), .int (nI (v 5)), .int (nI (v 6)), .ref (m 4), .ref (m 5), .ref (m 6), .ref (m 7), .ref (m 8), .ref (m 9), .ref (m 10), .ref (m 11), .int (nI (v 15)), .int (nI (v 16)), .int (nI (v 17)), .int (nI (v 18)), .long (lN (v 19))]]) C i5 tyX5 tyX5_ok nmX5 rfl 3 (by decide) w0 rfl rfl (by decide +kernel) (rfl) (rfl) 0 rfl (Nat.le_of_ble_eq_true rfl) dX5_refused_2 rfl ?_
  refine J_iload_n C dX5_refused_5 rfl 1 rfl ?_
  refine J_if_leN (tgt := 13) C dX5_refused_6 (by decide) (by omega) (fun cq6 => ?_) (fun cq6 => ?_)
  · refine J_iconst C dX5_refused_13 (v := nI 0) (by decide) ?_
    exact J_zret C hr (by decide) dX5_refused_14 (()) ((p2i_f (by omega)).symm) (rfl)
  · refine J_iconst C dX5_refused_9 (v := nI 1) (by decide) ?_
    refine J_goto (tgt := 14) C dX5_refused_10 (by decide) ?_
    exact J_zret C hr (by decide) dX5_refused_14 (()) ((p2i_t (by omega)).symm) (rfl)

set_option maxHeartbeats 4000000 in
set_option maxRecDepth 100000 in
theorem kX5_in (ll : Launch) (Y : GY) (c0 : Int32) (lo : Int32) (hi : Int32)  : CT ll yX5_in wsX5_in { frames := 0, cells := 0, slots := 0, locals := 0 } Y [.int c0, .int lo, .int hi] [] (QI Y (fun (r : Int32) (_ : Unit) => r = p2i (lo.toInt ≤ c0.toInt ∧ c0.toInt ≤ hi.toInt)) (fun _ => [])) 0 0 := by
  refine CT_of (cc := cX5_in) (maxL := 3) (ret := (some .boolean)) (by decide) rfl (Nat.le_of_ble_eq_true rfl) ?_
  intro pp ee ss mm bl mt cc AA C hr hnm
  refine J_eq (lv' := [(0, .int c0), (1, .int lo), (2, .int hi)]) (ws' := []) rfl rfl rfl rfl ?_
  refine J_iload_n C dX5_in_0 rfl 0 rfl ?_
  refine J_iload_n C dX5_in_1 rfl 1 rfl ?_
  refine J_icmp_ltT (tgt := 14) C dX5_in_2 (by decide) (fun cq2 => ?_) (fun cq2 => ?_)
  · refine J_iconst C dX5_in_14 (v := nI 0) (by decide) ?_
    exact J_zret C hr (by decide) dX5_in_15 (()) ((p2i_f (by omega)).symm) (rfl)
  · refine J_iload_n C dX5_in_5 rfl 0 rfl ?_
    refine J_iload_n C dX5_in_6 rfl 2 rfl ?_
    refine J_icmp_gtT (tgt := 14) C dX5_in_7 (by decide) (fun cq7 => ?_) (fun cq7 => ?_)
    · refine J_iconst C dX5_in_14 (v := nI 0) (by decide) ?_
      exact J_zret C hr (by decide) dX5_in_15 (()) ((p2i_f (by omega)).symm) (rfl)
    · refine J_iconst C dX5_in_10 (v := nI 1) (by decide) ?_
      refine J_goto (tgt := 15) C dX5_in_11 (by decide) ?_
      exact J_zret C hr (by decide) dX5_in_15 (()) ((p2i_t (by omega)).symm) (rfl)

set_option maxHeartbeats 4000000 in
set_option maxRecDepth 100000 in
theorem kX5_in_n (ll : Launch) (Y : GY) (c0 : Nat) (lo : Nat) (hi : Nat) (h1 : c0 < 2 ^ 31) (h2 : lo < 2 ^ 31) (h3 : hi < 2 ^ 31) : CT ll yX5_in wsX5_in { frames := 0, cells := 0, slots := 0, locals := 0 } Y [.int (nI c0), .int (nI lo), .int (nI hi)] [] (QI Y (fun (r : Int32) (_ : Unit) => r = p2i (lo ≤ c0 ∧ c0 ≤ hi)) (fun _ => [])) 0 0 := by
  refine CT_of (cc := cX5_in) (maxL := 3) (ret := (some .boolean)) (by decide) rfl (Nat.le_of_ble_eq_true rfl) ?_
  intro pp ee ss mm bl mt cc AA C hr hnm
  refine J_eq (lv' := [(0, .int (nI c0)), (1, .int (nI lo)), (2, .int (nI hi))]) (ws' := []) rfl rfl rfl rfl ?_
  refine J_iload_n C dX5_in_0 rfl 0 rfl ?_
  refine J_iload_n C dX5_in_1 rfl 1 rfl ?_
  refine J_icmp_ltN (tgt := 14) C dX5_in_2 (by decide) (by omega) (by omega) (fun cq2 => ?_) (fun cq2 => ?_)
  · refine J_iconst C dX5_in_14 (v := nI 0) (by decide) ?_
    exact J_zret C hr (by decide) dX5_in_15 (()) ((p2i_f (by omega)).symm) (rfl)
  · refine J_iload_n C dX5_in_5 rfl 0 rfl ?_
    refine J_iload_n C dX5_in_6 rfl 2 rfl ?_
    refine J_icmp_gtN (tgt := 14) C dX5_in_7 (by decide) (by omega) (by omega) (fun cq7 => ?_) (fun cq7 => ?_)
    · refine J_iconst C dX5_in_14 (v := nI 0) (by decide) ?_
      exact J_zret C hr (by decide) dX5_in_15 (()) ((p2i_f (by omega)).symm) (rfl)
    · refine J_iconst C dX5_in_10 (v := nI 1) (by decide) ?_
      refine J_goto (tgt := 15) C dX5_in_11 (by decide) ?_
      exact J_zret C hr (by decide) dX5_in_15 (()) ((p2i_t (by omega)).symm) (rfl)

set_option maxHeartbeats 4000000 in
set_option maxRecDepth 100000 in
theorem kX5_many (ll : Launch) (Y : GY) (s0 : Nat) (hs : s0 < 256) : CT ll yX5_many wsX5_many { frames := 0, cells := 0, slots := 0, locals := 0 } Y [.int (nI s0)] [] (QI Y (fun (r : Int32) (_ : Unit) => r = nI (pc8 s0)) (fun _ => [])) 0 0 := by
  refine CT_of (cc := cX5_many) (maxL := 3) (ret := (some .int)) (by decide) rfl (Nat.le_of_ble_eq_true rfl) ?_
  intro pp ee ss mm bl mt cc AA C hr hnm
  refine J_eq (lv' := [(0, .int (nI s0))]) (ws' := []) rfl rfl rfl rfl ?_
  refine J_iconst C dX5_many_0 (v := nI 0) (by decide) ?_
  refine J_istore_n (lv' := [(1, .int (nI 0)), (0, .int (nI s0))]) C dX5_many_1 rfl (by decide) rfl ?_
  refine J_iload_n C dX5_many_2 rfl 1 rfl ?_
  refine J_istore_n (lv' := [(2, .int (nI s0)), (1, .int (nI 0)), (0, .int (nI s0))]) C dX5_many_3 rfl (by decide) rfl ?_
  refine J_lv (lv' := [(0, .int (nI s0)), (1, .int (nI 0)), (2, .int (nI s0))]) [2, 1, 0] rfl ?_
  refine J_loop (σ := Nat × Nat) (I := fun (n, l) => (n + pc8 l = pc8 s0 ∧ l ≤ s0)) (μ := fun (n, l) => l) (lvf := fun (n, l) => [(0, .int (nI s0)), (1, .int (nI n)), (2, .int (nI l))]) (stf := fun (n, l) => []) (wsf := fun (n, l) => []) ?_ (0, s0) (⟨Nat.zero_add _, Nat.le_refl _⟩) (rfl) rfl (rfl)
  rintro ⟨n, l⟩ he ih4
  refine J_eq (lv' := [(0, .int (nI s0)), (1, .int (nI n)), (2, .int (nI l))]) (st' := []) (ws' := []) rfl rfl rfl rfl ?_
  refine J_iload_n C dX5_many_4 rfl 2 rfl ?_
  refine J_if_leN (tgt := 21) C dX5_many_5 (by decide) (by omega) (fun cq5 => ?_) (fun cq5 => ?_)
  · refine J_iload_n C dX5_many_21 rfl 1 rfl ?_
    exact J_iret C hr dX5_many_22 (()) (by rw [show l = 0 by omega] at he; have e0 : pc8 0 = 0 := rfl; rw [show n = pc8 s0 by omega]) (rfl)
  · refine J_iload_n C dX5_many_8 rfl 1 rfl ?_
    refine J_iload_n C dX5_many_9 rfl 2 rfl ?_
    refine J_iconst C dX5_many_10 (v := nI 1) (by decide) ?_
    refine J_iandN C dX5_many_11 ?_
    refine J_iaddN C dX5_many_12 ?_
    refine J_istore_n (lv' := [(1, .int (nI (n + (l &&& 1)))), (0, .int (nI s0)), (2, .int (nI l))]) C dX5_many_13 rfl (by decide) rfl ?_
    refine J_iload_n C dX5_many_14 rfl 2 rfl ?_
    refine J_iconst C dX5_many_15 (v := nI 1) (by decide) ?_
    refine J_ishrN C dX5_many_16 (by omega) (by omega) ?_
    refine J_istore_n (lv' := [(2, .int (nI (l / 2 ^ 1))), (1, .int (nI (n + (l &&& 1)))), (0, .int (nI s0))]) C dX5_many_17 rfl (by decide) rfl ?_
    refine J_goto (tgt := 4) C dX5_many_18 (by decide) ?_
    refine J_lv (lv' := [(0, .int (nI s0)), (1, .int (nI (n + (l &&& 1)))), (2, .int (nI (l / 2 ^ 1)))]) [2, 1, 0] rfl ?_
    exact ih4 (n + (l &&& 1), l / 2 ^ 1) (⟨by have := pc8_hf l (by omega); omega, by omega⟩) (show (l / 2 ^ 1) < l from by omega)

set_option maxHeartbeats 4000000 in
set_option maxRecDepth 100000 in
theorem kX5_draw (ll : Launch) (Y : GY) (m : Nat → Nat) (v : Nat → Nat) (nw : Nat → Nat) (q : Nat) (h0 : nw 3 < 2147483648) (hq : 0 < q ∧ q < 2 ^ 31) : CT ll yX5_draw wsX5_draw { frames := 0, cells := 0, slots := 0, locals := 0 } Y [.ref (m 0), .int (nI q)] [oB (m 0) 5 [.ref (m 1), .ref (m 2), .int (nI (v 2)), .int (nI (v 3)), .ref (m 3), .int (nI (v 5)), .int (nI (v 6)), .ref (m 4), .ref (m 5), .ref (m 6), .ref (m 7), .ref (m 8), .ref (m 9), .ref (m 10), .ref (m 11), .int (nI (v 15)), .int (nI (v 16)), .int (nI (v 17)), .int (nI (v 18)), .long (lN (v 19))], aI Y (m 1) 101 (nF nw)] (QI Y (fun (r : Int32) (_ : Unit) => r = nI (drw (nw 3) q)) (fun _ => [oB (m 0) 5 [.ref (m 1), .ref (m 2), .int (nI (v 2)), .int (nI (v 3)), .ref (m 3), .int (nI (v 5)), .int (nI (v 6)), .ref (m 4), .ref (m 5), .ref (m 6), .ref (m 7), .ref (m 8), .ref (m 9), .ref (m 10), .ref (m 11), .int (nI (v 15)), .int (nI (v 16)), .int (nI (v 17)), .int (nI (v 18)), .long (lN (v 19))], aI Y (m 1) 101 (nF ((va_up nw 3 (lcg (nw 3)))))])) 0 0 := by
  refine CT_of (cc := cX5_draw) (maxL := 2) (ret := (some .int)) (by decide) rfl (Nat.le_of_ble_eq_true rfl) ?_
  intro pp ee ss mm bl mt cc AA C hr hnm
  have w0 := C.t _ (List.mem_of_getElem? (i := 1) (show wsX5_draw[1]? = some (Cond.fieldLink RX5 7 "SecretDinnerModel" "now" "[I") from rfl))
  have w1 := C.t _ (List.mem_of_getElem? (i := 2) (show wsX5_draw[2]? = some (Cond.constantLong RX5 54 (1103515245)) from rfl))
  have w2 := C.t _ (List.mem_of_getElem? (i := 3) (show wsX5_draw[3]? = some (Cond.constantLong RX5 56 (12345)) from rfl))
  have w3 := C.t _ (List.mem_of_getElem? (i := 4) (show wsX5_draw[4]? = some (Cond.constantLong RX5 58 (2147483648)) from rfl))
  have w4 := C.t _ (List.mem_of_getElem? (i := 5) (show wsX5_draw[5]? = some (Cond.constant RX5 60 (65536)) from rfl))
  have i5 : ∀ w ∈ wsX50, w ∈ wsX5_draw := inPlaces [6, 7, 8, 9, 10, 11, 12, 13, 14, 15, 16, 17, 18, 19, 20, 21, 22, 23, 24, 25] (by decide +kernel)
  refine J_eq (lv' := [(0, .ref (m 0)), (1, .int (nI q))]) (ws' := [oB (m 0) 5 [.ref (m 1), .ref (m 2), .int (nI (v 2)), .int (nI (v 3)), .ref (m 3), .int (nI (v 5)), .int (nI (v 6)), .ref (m 4), .ref (m 5), .ref (m 6), .ref (m 7), .ref (m 8), .ref (m 9), .ref (m 10), .ref (m 11), .int (nI (v 15)), .int (nI (v 16)), .int (nI (v 17)), .int (nI (v 18)), .long (lN (v 19))], aI Y (m 1) 101 (nF nw)]) rfl rfl rfl rfl ?_
  refine J_aload_n C dX5_draw_0 rfl 0 rfl ?_
  refine J_get (ci := 5) C i5 rfl 0 (by decide) w0 rfl 0 rfl rfl dX5_draw_1 ?_
  refine J_iconst C dX5_draw_4 (v := nI 3) (by decide) ?_
  refine J_ldc2 C dX5_draw_5 (v := lN 1103515245) w1 ?_
  refine J_aload_n C dX5_draw_8 rfl 0 rfl ?_
  refine J_get (ci := 5) C i5 rfl 0 (by decide) w0 rfl 0 rfl rfl dX5_draw_9 ?_
  refine J_iconst C dX5_draw_12 (v := nI 3) (by decide) ?_
  refine J_ialdF C 1 rfl (by omega) (by omega) dX5_draw_13 ?_
  refine J_i2lN C dX5_draw_14 (by omega) ?_
  refine J_lmulN C dX5_draw_15 ?_
  refine J_ldc2 C dX5_draw_16 (v := lN 12345) w2 ?_
  refine J_laddN C dX5_draw_19 ?_
  refine J_ldc2 C dX5_draw_20 (v := lN 2147483648) w3 ?_
  refine J_lremN C dX5_draw_23 (by omega) (by decide) (by decide) ?_
  refine J_l2iN C dX5_draw_24 ?_
  refine J_top (y := .int (nI (lcg (nw 3)))) (rfl) ?_
  refine J_iastF (ws' := [oB (m 0) 5 [.ref (m 1), .ref (m 2), .int (nI (v 2)), .int (nI (v 3)), .ref (m 3), .int (nI (v 5)), .int (nI (v 6)), .ref (m 4), .ref (m 5), .ref (m 6), .ref (m 7), .ref (m 8), .ref (m 9), .ref (m 10), .ref (m 11), .int (nI (v 15)), .int (nI (v 16)), .int (nI (v 17)), .int (nI (v 18)), .long (lN (v 19))], aI Y (m 1) 101 (nF (va_up nw 3 (lcg (nw 3))))]) C 1 rfl (by omega) (by omega) dX5_draw_25 rfl ?_
  refine J_aload_n C dX5_draw_26 rfl 0 rfl ?_
  refine J_get (ci := 5) C i5 rfl 0 (by decide) w0 rfl 0 rfl rfl dX5_draw_27 ?_
  refine J_iconst C dX5_draw_30 (v := nI 3) (by decide) ?_
  refine J_ialdF C 1 rfl (by omega) (by omega) dX5_draw_31 ?_
  refine J_top (y := .int (nI (lcg (nw 3)))) (rfl) ?_
  refine J_ldc C dX5_draw_32 (v := nI 65536) w4 ?_
  refine J_idivN C dX5_draw_34 (Nat.lt_of_lt_of_le (lcg_lt _) (by decide)) (by decide) (by decide) ?_
  refine J_iload_n C dX5_draw_35 rfl 1 rfl ?_
  refine J_iremN C dX5_draw_36 (Nat.lt_of_le_of_lt (Nat.div_le_self _ _) (lcg_lt _)) (hq.1) (hq.2) ?_
  exact J_iret C hr dX5_draw_37 (()) (rfl) (rfl)

set_option maxHeartbeats 4000000 in
set_option maxRecDepth 100000 in
theorem kX5_isGuest (ll : Launch) (Y : GY) (m : Nat → Nat) (v : Nat → Nat) (nw : Nat → Nat) (g : Int32) (hn : nw 0 ≤ 4) : CT ll yX5_isGuest wsX5_isGuest { frames := 1, cells := 0, slots := 0, locals := 22 } Y [.ref (m 0), .int g] [oB (m 0) 5 [.ref (m 1), .ref (m 2), .int (nI (v 2)), .int (nI (v 3)), .ref (m 3), .int (nI (v 5)), .int (nI (v 6)), .ref (m 4), .ref (m 5), .ref (m 6), .ref (m 7), .ref (m 8), .ref (m 9), .ref (m 10), .ref (m 11), .int (nI (v 15)), .int (nI (v 16)), .int (nI (v 17)), .int (nI (v 18)), .long (lN (v 19))], aI Y (m 1) 101 (nF nw)] (QI Y (fun (r : Int32) (_ : Unit) => r = p2i (0 ≤ g.toInt ∧ g.toInt < (nw 0 : Int))) (fun _ => [oB (m 0) 5 [.ref (m 1), .ref (m 2), .int (nI (v 2)), .int (nI (v 3)), .ref (m 3), .int (nI (v 5)), .int (nI (v 6)), .ref (m 4), .ref (m 5), .ref (m 6), .ref (m 7), .ref (m 8), .ref (m 9), .ref (m 10), .ref (m 11), .int (nI (v 15)), .int (nI (v 16)), .int (nI (v 17)), .int (nI (v 18)), .long (lN (v 19))], aI Y (m 1) 101 (nF nw)])) 0 0 := by
  refine CT_of (cc := cX5_isGuest) (maxL := 2) (ret := (some .boolean)) (by decide) rfl (Nat.le_of_ble_eq_true rfl) ?_
  intro pp ee ss mm bl mt cc AA C hr hnm
  have w0 := C.t _ (List.mem_of_getElem? (i := 1) (show wsX5_isGuest[1]? = some (Cond.fieldLink RX5 7 "SecretDinnerModel" "now" "[I") from rfl))
  have i5 : ∀ w ∈ wsX50, w ∈ wsX5_isGuest := inPlaces [6, 7, 8, 9, 10, 11, 12, 13, 14, 15, 16, 17, 18, 19, 20, 21, 22, 23, 24, 25] (by decide +kernel)
  refine J_eq (lv' := [(0, .ref (m 0)), (1, .int g)]) (ws' := [oB (m 0) 5 [.ref (m 1), .ref (m 2), .int (nI (v 2)), .int (nI (v 3)), .ref (m 3), .int (nI (v 5)), .int (nI (v 6)), .ref (m 4), .ref (m 5), .ref (m 6), .ref (m 7), .ref (m 8), .ref (m 9), .ref (m 10), .ref (m 11), .int (nI (v 15)), .int (nI (v 16)), .int (nI (v 17)), .int (nI (v 18)), .long (lN (v 19))], aI Y (m 1) 101 (nF nw)]) rfl rfl rfl rfl ?_
  refine J_iload_n C dX5_isGuest_0 rfl 1 rfl ?_
  refine J_iconst C dX5_isGuest_1 (v := nI 0) (by decide) ?_
  refine J_aload_n C dX5_isGuest_2 rfl 0 rfl ?_
  refine J_get (ci := 5) C i5 rfl 0 (by decide) w0 rfl 0 rfl rfl dX5_isGuest_3 ?_
  refine J_iconst C dX5_isGuest_6 (v := nI 0) (by decide) ?_
  refine J_ialdF C 1 rfl (by omega) (by omega) dX5_isGuest_7 ?_
  refine J_iconst C dX5_isGuest_8 (v := nI 1) (by decide) ?_
  refine J_isubD C dX5_isGuest_9 ?_
  refine J_callI (wr := [oB (m 0) 5 [.ref (m 1), .ref (m 2), .int (nI (v 2)), .int (nI (v 3)), .ref (m 3), .int (nI (v 5)), .int (nI (v 6)), .ref (m 4), .ref (m 5), .ref (m 6), .ref (m 7), .ref (m 8), .ref (m 9), .ref (m 10), .ref (m 11), .int (nI (v 15)), .int (nI (v 16)), .int (nI (v 17)), .int (nI (v 18)), .long (lN (v 19))], aI Y (m 1) 101 (nF nw)]) C (R_S (st := []) (wc := []) C (kX5_in ll Y g (nI 0) (iZ ((nw 0 : Int) - (1 : Int)))) (va_cwS 3 C.t gX5_isGuest_X5_in rfl rfl rfl (by decide +kernel) ⟨by decide, by decide⟩) rfl [] rfl (by decide) rfl (Nat.le_of_ble_eq_true rfl) dX5_isGuest_10 ⟨Nat.le_of_ble_eq_true rfl, Nat.le_of_ble_eq_true rfl⟩) [] [0, 1] rfl rfl (by decide) (by decide) (fun r10 u10 hw10 => ?_)
  subst hw10
  refine J_eq (pc' := 13) (lv' := [(0, .ref (m 0)), (1, .int g)]) (st' := [.int (p2i ((nI 0).toInt ≤ g.toInt ∧ g.toInt ≤ (iZ ((nw 0 : Int) - (1 : Int))).toInt))]) (ws' := [oB (m 0) 5 [.ref (m 1), .ref (m 2), .int (nI (v 2)), .int (nI (v 3)), .ref (m 3), .int (nI (v 5)), .int (nI (v 6)), .ref (m 4), .ref (m 5), .ref (m 6), .ref (m 7), .ref (m 8), .ref (m 9), .ref (m 10), .ref (m 11), .int (nI (v 15)), .int (nI (v 16)), .int (nI (v 17)), .int (nI (v 18)), .long (lN (v 19))], aI Y (m 1) 101 (nF nw)]) rfl rfl rfl rfl ?_
  refine J_top (y := .int (p2i (0 ≤ g.toInt ∧ g.toInt < (nw 0 : Int)))) (congrArg Value.int (p2i_if (in_G hn))) ?_
  exact J_zret C hr p2i_nar dX5_isGuest_13 (()) (rfl) (rfl)

set_option maxHeartbeats 4000000 in
set_option maxRecDepth 100000 in
theorem kX5_isGuest_n (ll : Launch) (Y : GY) (m : Nat → Nat) (v : Nat → Nat) (nw : Nat → Nat) (g : Nat) (hn : nw 0 ≤ 4) (hg : g < 2 ^ 31) : CT ll yX5_isGuest wsX5_isGuest { frames := 1, cells := 0, slots := 0, locals := 22 } Y [.ref (m 0), .int (nI g)] [oB (m 0) 5 [.ref (m 1), .ref (m 2), .int (nI (v 2)), .int (nI (v 3)), .ref (m 3), .int (nI (v 5)), .int (nI (v 6)), .ref (m 4), .ref (m 5), .ref (m 6), .ref (m 7), .ref (m 8), .ref (m 9), .ref (m 10), .ref (m 11), .int (nI (v 15)), .int (nI (v 16)), .int (nI (v 17)), .int (nI (v 18)), .long (lN (v 19))], aI Y (m 1) 101 (nF nw)] (QI Y (fun (r : Int32) (_ : Unit) => r = p2i (g < nw 0)) (fun _ => [oB (m 0) 5 [.ref (m 1), .ref (m 2), .int (nI (v 2)), .int (nI (v 3)), .ref (m 3), .int (nI (v 5)), .int (nI (v 6)), .ref (m 4), .ref (m 5), .ref (m 6), .ref (m 7), .ref (m 8), .ref (m 9), .ref (m 10), .ref (m 11), .int (nI (v 15)), .int (nI (v 16)), .int (nI (v 17)), .int (nI (v 18)), .long (lN (v 19))], aI Y (m 1) 101 (nF nw)])) 0 0 := by
  refine CT_of (cc := cX5_isGuest) (maxL := 2) (ret := (some .boolean)) (by decide) rfl (Nat.le_of_ble_eq_true rfl) ?_
  intro pp ee ss mm bl mt cc AA C hr hnm
  have w0 := C.t _ (List.mem_of_getElem? (i := 1) (show wsX5_isGuest[1]? = some (Cond.fieldLink RX5 7 "SecretDinnerModel" "now" "[I") from rfl))
  have i5 : ∀ w ∈ wsX50, w ∈ wsX5_isGuest := inPlaces [6, 7, 8, 9, 10, 11, 12, 13, 14, 15, 16, 17, 18, 19, 20, 21, 22, 23, 24, 25] (by decide +kernel)
  refine J_eq (lv' := [(0, .ref (m 0)), (1, .int (nI g))]) (ws' := [oB (m 0) 5 [.ref (m 1), .ref (m 2), .int (nI (v 2)), .int (nI (v 3)), .ref (m 3), .int (nI (v 5)), .int (nI (v 6)), .ref (m 4), .ref (m 5), .ref (m 6), .ref (m 7), .ref (m 8), .ref (m 9), .ref (m 10), .ref (m 11), .int (nI (v 15)), .int (nI (v 16)), .int (nI (v 17)), .int (nI (v 18)), .long (lN (v 19))], aI Y (m 1) 101 (nF nw)]) rfl rfl rfl rfl ?_
  refine J_iload_n C dX5_isGuest_0 rfl 1 rfl ?_
  refine J_iconst C dX5_isGuest_1 (v := nI 0) (by decide) ?_
  refine J_aload_n C dX5_isGuest_2 rfl 0 rfl ?_
  refine J_get (ci := 5) C i5 rfl 0 (by decide) w0 rfl 0 rfl rfl dX5_isGuest_3 ?_
  refine J_iconst C dX5_isGuest_6 (v := nI 0) (by decide) ?_
  refine J_ialdF C 1 rfl (by omega) (by omega) dX5_isGuest_7 ?_
  refine J_iconst C dX5_isGuest_8 (v := nI 1) (by decide) ?_
  refine J_isubD C dX5_isGuest_9 ?_
  refine J_callI (wr := [oB (m 0) 5 [.ref (m 1), .ref (m 2), .int (nI (v 2)), .int (nI (v 3)), .ref (m 3), .int (nI (v 5)), .int (nI (v 6)), .ref (m 4), .ref (m 5), .ref (m 6), .ref (m 7), .ref (m 8), .ref (m 9), .ref (m 10), .ref (m 11), .int (nI (v 15)), .int (nI (v 16)), .int (nI (v 17)), .int (nI (v 18)), .long (lN (v 19))], aI Y (m 1) 101 (nF nw)]) C (R_S (st := []) (wc := []) C (kX5_in ll Y (nI g) (nI 0) (iZ ((nw 0 : Int) - (1 : Int)))) (va_cwS 3 C.t gX5_isGuest_X5_in rfl rfl rfl (by decide +kernel) ⟨by decide, by decide⟩) rfl [] rfl (by decide) rfl (Nat.le_of_ble_eq_true rfl) dX5_isGuest_10 ⟨Nat.le_of_ble_eq_true rfl, Nat.le_of_ble_eq_true rfl⟩) [] [0, 1] rfl rfl (by decide) (by decide) (fun r10 u10 hw10 => ?_)
  subst hw10
  refine J_eq (pc' := 13) (lv' := [(0, .ref (m 0)), (1, .int (nI g))]) (st' := [.int (p2i ((nI 0).toInt ≤ (nI g).toInt ∧ (nI g).toInt ≤ (iZ ((nw 0 : Int) - (1 : Int))).toInt))]) (ws' := [oB (m 0) 5 [.ref (m 1), .ref (m 2), .int (nI (v 2)), .int (nI (v 3)), .ref (m 3), .int (nI (v 5)), .int (nI (v 6)), .ref (m 4), .ref (m 5), .ref (m 6), .ref (m 7), .ref (m 8), .ref (m 9), .ref (m 10), .ref (m 11), .int (nI (v 15)), .int (nI (v 16)), .int (nI (v 17)), .int (nI (v 18)), .long (lN (v 19))], aI Y (m 1) 101 (nF nw)]) rfl rfl rfl rfl ?_
  refine J_top (y := .int (p2i (g < nw 0))) (congrArg Value.int (p2i_if ((in_G hn).trans (hg_nat hg)))) ?_
  exact J_zret C hr p2i_nar dX5_isGuest_13 (()) (rfl) (rfl)

set_option maxHeartbeats 4000000 in
set_option maxRecDepth 100000 in
theorem kX5_isCard (ll : Launch) (Y : GY) (c0 : Int32)  : CT ll yX5_isCard wsX5_isCard { frames := 1, cells := 0, slots := 0, locals := 22 } Y [.int c0] [] (QI Y (fun (r : Int32) (_ : Unit) => r = p2i (0 ≤ c0.toInt ∧ c0.toInt < 8)) (fun _ => [])) 0 0 := by
  refine CT_of (cc := cX5_isCard) (maxL := 1) (ret := (some .boolean)) (by decide) rfl (Nat.le_of_ble_eq_true rfl) ?_
  intro pp ee ss mm bl mt cc AA C hr hnm
  refine J_eq (lv' := [(0, .int c0)]) (ws' := []) rfl rfl rfl rfl ?_
  refine J_iload_n C dX5_isCard_0 rfl 0 rfl ?_
  refine J_iconst C dX5_isCard_1 (v := nI 0) (by decide) ?_
  refine J_bipush C dX5_isCard_2 (v := nI 7) (by decide) ?_
  refine J_callI (wr := []) C (R_S (st := []) (wc := []) C (kX5_in ll Y c0 (nI 0) (nI 7)) (va_cwS 3 C.t gX5_isCard_X5_in rfl rfl rfl (by decide +kernel) ⟨by decide, by decide⟩) rfl [] rfl (by decide) rfl (Nat.le_of_ble_eq_true rfl) dX5_isCard_4 ⟨Nat.le_of_ble_eq_true rfl, Nat.le_of_ble_eq_true rfl⟩) [] [] rfl rfl (by decide) (by decide) (fun r4 u4 hw4 => ?_)
  subst hw4
  refine J_eq (pc' := 7) (lv' := [(0, .int c0)]) (st' := [.int (p2i ((nI 0).toInt ≤ c0.toInt ∧ c0.toInt ≤ (nI 7).toInt))]) (ws' := []) rfl rfl rfl rfl ?_
  refine J_top (y := .int (p2i (0 ≤ c0.toInt ∧ c0.toInt < 8))) (congrArg Value.int (p2i_if in_8)) ?_
  exact J_zret C hr p2i_nar dX5_isCard_7 (()) (rfl) (rfl)

set_option maxHeartbeats 4000000 in
set_option maxRecDepth 100000 in
theorem kX5_isSet (ll : Launch) (Y : GY) (c0 : Int32)  : CT ll yX5_isSet wsX5_isSet { frames := 1, cells := 0, slots := 0, locals := 22 } Y [.int c0] [] (QI Y (fun (r : Int32) (_ : Unit) => r = p2i (1 ≤ c0.toInt ∧ c0.toInt ≤ 255)) (fun _ => [])) 0 0 := by
  refine CT_of (cc := cX5_isSet) (maxL := 1) (ret := (some .boolean)) (by decide) rfl (Nat.le_of_ble_eq_true rfl) ?_
  intro pp ee ss mm bl mt cc AA C hr hnm
  refine J_eq (lv' := [(0, .int c0)]) (ws' := []) rfl rfl rfl rfl ?_
  refine J_iload_n C dX5_isSet_0 rfl 0 rfl ?_
  refine J_iconst C dX5_isSet_1 (v := nI 1) (by decide) ?_
  refine J_sipush C dX5_isSet_2 (v := nI 255) (by decide) ?_
  refine J_callI (wr := []) C (R_S (st := []) (wc := []) C (kX5_in ll Y c0 (nI 1) (nI 255)) (va_cwS 3 C.t gX5_isSet_X5_in rfl rfl rfl (by decide +kernel) ⟨by decide, by decide⟩) rfl [] rfl (by decide) rfl (Nat.le_of_ble_eq_true rfl) dX5_isSet_5 ⟨Nat.le_of_ble_eq_true rfl, Nat.le_of_ble_eq_true rfl⟩) [] [] rfl rfl (by decide) (by decide) (fun r5 u5 hw5 => ?_)
  subst hw5
  refine J_eq (pc' := 8) (lv' := [(0, .int c0)]) (st' := [.int (p2i ((nI 1).toInt ≤ c0.toInt ∧ c0.toInt ≤ (nI 255).toInt))]) (ws' := []) rfl rfl rfl rfl ?_
  refine J_top (y := .int (p2i (1 ≤ c0.toInt ∧ c0.toInt ≤ 255))) (congrArg Value.int (p2i_if (in_I (by decide) (by decide)))) ?_
  exact J_zret C hr p2i_nar dX5_isSet_8 (()) (rfl) (rfl)

set_option maxHeartbeats 4000000 in
set_option maxRecDepth 100000 in
theorem kX5_sizeOf (ll : Launch) (Y : GY) (n : Nat) (g : Nat) (h1 : n = 3 ∨ n = 4) (hg : g < n) : CT ll yX5_sizeOf wsX5_sizeOf { frames := 0, cells := 0, slots := 0, locals := 0 } Y [.int (nI n), .int (nI g)] [] (QI Y (fun (r : Int32) (_ : Unit) => r = nI (szH n g)) (fun _ => [])) 0 0 := by
  refine CT_of (cc := cX5_sizeOf) (maxL := 2) (ret := (some .int)) (by decide) rfl (Nat.le_of_ble_eq_true rfl) ?_
  intro pp ee ss mm bl mt cc AA C hr hnm
  refine J_eq (lv' := [(0, .int (nI n)), (1, .int (nI g))]) (ws' := []) rfl rfl rfl rfl ?_
  refine J_iload_n C dX5_sizeOf_0 rfl 1 rfl ?_
  refine J_iload_n C dX5_sizeOf_1 rfl 0 rfl ?_
  refine J_icmp_ltN (tgt := 9) C dX5_sizeOf_2 (by decide) (by omega) (by omega) (fun cq2 => ?_) (fun cq2 => ?_)
  · refine J_iload_n C dX5_sizeOf_9 rfl 0 rfl ?_
    refine J_iconst C dX5_sizeOf_10 (v := nI 3) (by decide) ?_
    refine J_icmp_neN (tgt := 26) C dX5_sizeOf_11 (by decide) (by omega) (by omega) (fun cq11 => ?_) (fun cq11 => ?_)
    · refine J_iload_n C dX5_sizeOf_26 rfl 1 rfl ?_
      refine J_iconst C dX5_sizeOf_27 (v := nI 3) (by decide) ?_
      refine J_icmp_neN (tgt := 35) C dX5_sizeOf_28 (by decide) (by omega) (by omega) (fun cq28 => ?_) (fun cq28 => ?_)
      · refine J_iconst C dX5_sizeOf_35 (v := nI 2) (by decide) ?_
        exact J_iret C hr dX5_sizeOf_36 (()) (by rcases h1 with rfl | rfl <;> rcases (show g = 0 ∨ g = 1 ∨ g = 2 ∨ g = 3 by omega) with rfl | rfl | rfl | rfl <;> first | rfl | omega) (rfl)
      · refine J_iconst C dX5_sizeOf_31 (v := nI 1) (by decide) ?_
        refine J_goto (tgt := 36) C dX5_sizeOf_32 (by decide) ?_
        exact J_iret C hr dX5_sizeOf_36 (()) (by rcases h1 with rfl | rfl <;> rcases (show g = 0 ∨ g = 1 ∨ g = 2 ∨ g = 3 by omega) with rfl | rfl | rfl | rfl <;> first | rfl | omega) (rfl)
    · refine J_iload_n C dX5_sizeOf_14 rfl 1 rfl ?_
      refine J_if_neN (tgt := 22) C dX5_sizeOf_15 (by decide) (by omega) (fun cq15 => ?_) (fun cq15 => ?_)
      · refine J_iconst C dX5_sizeOf_22 (v := nI 2) (by decide) ?_
        refine J_goto (tgt := 36) C dX5_sizeOf_23 (by decide) ?_
        exact J_iret C hr dX5_sizeOf_36 (()) (by rcases h1 with rfl | rfl <;> rcases (show g = 0 ∨ g = 1 ∨ g = 2 ∨ g = 3 by omega) with rfl | rfl | rfl | rfl <;> first | rfl | omega) (rfl)
      · refine J_iconst C dX5_sizeOf_18 (v := nI 3) (by decide) ?_
        refine J_goto (tgt := 36) C dX5_sizeOf_19 (by decide) ?_
        exact J_iret C hr dX5_sizeOf_36 (()) (by rcases h1 with rfl | rfl <;> rcases (show g = 0 ∨ g = 1 ∨ g = 2 ∨ g = 3 by omega) with rfl | rfl | rfl | rfl <;> first | rfl | omega) (rfl)
  · exact absurd cq2 (by omega)

set_option maxHeartbeats 4000000 in
set_option maxRecDepth 100000 in
theorem kX5_canAsk (ll : Launch) (Y : GY) (m : Nat → Nat) (v : Nat → Nat) (nw : Nat → Nat) (g : Nat) (Lp : Prop) [Decidable Lp] (hM : ∀ k, k = 1 ∨ k = 7 ∨ 17 ≤ k ∧ k ≤ 24 → nw k < 2147483648) (hg : g ≤ 3) : CT ll yX5_canAsk wsX5_canAsk { frames := 0, cells := 0, slots := 0, locals := 0 } Y [.ref (m 0), .int (nI g), .int (p2i (Lp))] [oB (m 0) 5 [.ref (m 1), .ref (m 2), .int (nI (v 2)), .int (nI (v 3)), .ref (m 3), .int (nI (v 5)), .int (nI (v 6)), .ref (m 4), .ref (m 5), .ref (m 6), .ref (m 7), .ref (m 8), .ref (m 9), .ref (m 10), .ref (m 11), .int (nI (v 15)), .int (nI (v 16)), .int (nI (v 17)), .int (nI (v 18)), .long (lN (v 19))], aI Y (m 1) 101 (nF nw)] (QI Y (fun (r : Int32) (_ : Unit) => r = p2i (nw 1 = 1 ∧ nw (17 + g) = 1 ∧ nw 7 < 20 ∧ ¬ (Lp ∧ nw (21 + g) = 1))) (fun _ => [oB (m 0) 5 [.ref (m 1), .ref (m 2), .int (nI (v 2)), .int (nI (v 3)), .ref (m 3), .int (nI (v 5)), .int (nI (v 6)), .ref (m 4), .ref (m 5), .ref (m 6), .ref (m 7), .ref (m 8), .ref (m 9), .ref (m 10), .ref (m 11), .int (nI (v 15)), .int (nI (v 16)), .int (nI (v 17)), .int (nI (v 18)), .long (lN (v 19))], aI Y (m 1) 101 (nF nw)])) 0 0 := by
  refine CT_of (cc := cX5_canAsk) (maxL := 3) (ret := (some .boolean)) (by decide) rfl (Nat.le_of_ble_eq_true rfl) ?_
  intro pp ee ss mm bl mt cc AA C hr hnm
  have w0 := C.t _ (List.mem_of_getElem? (i := 1) (show wsX5_canAsk[1]? = some (Cond.fieldLink RX5 7 "SecretDinnerModel" "now" "[I") from rfl))
  have i5 : ∀ w ∈ wsX50, w ∈ wsX5_canAsk := inPlaces [2, 3, 4, 5, 6, 7, 8, 9, 10, 11, 12, 13, 14, 15, 16, 17, 18, 19, 20, 21] (by decide +kernel)
  refine J_eq (lv' := [(0, .ref (m 0)), (1, .int (nI g)), (2, .int (p2i (Lp)))]) (ws' := [oB (m 0) 5 [.ref (m 1), .ref (m 2), .int (nI (v 2)), .int (nI (v 3)), .ref (m 3), .int (nI (v 5)), .int (nI (v 6)), .ref (m 4), .ref (m 5), .ref (m 6), .ref (m 7), .ref (m 8), .ref (m 9), .ref (m 10), .ref (m 11), .int (nI (v 15)), .int (nI (v 16)), .int (nI (v 17)), .int (nI (v 18)), .long (lN (v 19))], aI Y (m 1) 101 (nF nw)]) rfl rfl rfl rfl ?_
  refine J_aload_n C dX5_canAsk_0 rfl 0 rfl ?_
  refine J_get (ci := 5) C i5 rfl 0 (by decide) w0 rfl 0 rfl rfl dX5_canAsk_1 ?_
  refine J_iconst C dX5_canAsk_4 (v := nI 1) (by decide) ?_
  refine J_ialdF C 1 rfl (by omega) (by omega) dX5_canAsk_5 ?_
  refine J_iconst C dX5_canAsk_6 (v := nI 1) (by decide) ?_
  refine J_icmp_neN (tgt := 56) C dX5_canAsk_7 (by decide) (hM (1) (by omega)) (by decide) (fun cq7 => ?_) (fun cq7 => ?_)
  · refine J_iconst C dX5_canAsk_56 (v := nI 0) (by decide) ?_
    exact J_zret C hr (by decide) dX5_canAsk_57 (()) ((p2i_f (fun z => cq7 z.1)).symm) (rfl)
  · refine J_aload_n C dX5_canAsk_10 rfl 0 rfl ?_
    refine J_get (ci := 5) C i5 rfl 0 (by decide) w0 rfl 0 rfl rfl dX5_canAsk_11 ?_
    refine J_bipush C dX5_canAsk_14 (v := nI 17) (by decide) ?_
    refine J_iload_n C dX5_canAsk_16 rfl 1 rfl ?_
    refine J_iaddN C dX5_canAsk_17 ?_
    refine J_ialdF C 1 rfl (by omega) (by omega) dX5_canAsk_18 ?_
    refine J_iconst C dX5_canAsk_19 (v := nI 1) (by decide) ?_
    refine J_icmp_neN (tgt := 56) C dX5_canAsk_20 (by decide) (hM (17 + g) (by omega)) (by decide) (fun cq20 => ?_) (fun cq20 => ?_)
    · refine J_iconst C dX5_canAsk_56 (v := nI 0) (by decide) ?_
      exact J_zret C hr (by decide) dX5_canAsk_57 (()) ((p2i_f (fun z => cq20 z.2.1)).symm) (rfl)
    · refine J_aload_n C dX5_canAsk_23 rfl 0 rfl ?_
      refine J_get (ci := 5) C i5 rfl 0 (by decide) w0 rfl 0 rfl rfl dX5_canAsk_24 ?_
      refine J_bipush C dX5_canAsk_27 (v := nI 7) (by decide) ?_
      refine J_ialdF C 1 rfl (by omega) (by omega) dX5_canAsk_29 ?_
      refine J_bipush C dX5_canAsk_30 (v := nI 20) (by decide) ?_
      refine J_icmp_geN (tgt := 56) C dX5_canAsk_32 (by decide) (hM (7) (by omega)) (by decide) (fun cq32 => ?_) (fun cq32 => ?_)
      · refine J_iconst C dX5_canAsk_56 (v := nI 0) (by decide) ?_
        exact J_zret C hr (by decide) dX5_canAsk_57 (()) ((p2i_f (fun z => absurd z.2.2.1 (by omega))).symm) (rfl)
      · refine J_iload_n C dX5_canAsk_35 rfl 2 rfl ?_
        refine J_if_eqP (tgt := 52) C dX5_canAsk_36 (by decide) (fun cq36 => ?_) (fun cq36 => ?_)
        · refine J_iconst C dX5_canAsk_52 (v := nI 1) (by decide) ?_
          refine J_goto (tgt := 57) C dX5_canAsk_53 (by decide) ?_
          exact J_zret C hr (by decide) dX5_canAsk_57 (()) ((p2i_t (⟨cq7, cq20, cq32, fun z => cq36 z.1⟩)).symm) (rfl)
        · refine J_aload_n C dX5_canAsk_39 rfl 0 rfl ?_
          refine J_get (ci := 5) C i5 rfl 0 (by decide) w0 rfl 0 rfl rfl dX5_canAsk_40 ?_
          refine J_bipush C dX5_canAsk_43 (v := nI 21) (by decide) ?_
          refine J_iload_n C dX5_canAsk_45 rfl 1 rfl ?_
          refine J_iaddN C dX5_canAsk_46 ?_
          refine J_ialdF C 1 rfl (by omega) (by omega) dX5_canAsk_47 ?_
          refine J_iconst C dX5_canAsk_48 (v := nI 1) (by decide) ?_
          refine J_icmp_eqN (tgt := 56) C dX5_canAsk_49 (by decide) (hM (21 + g) (by omega)) (by decide) (fun cq49 => ?_) (fun cq49 => ?_)
          · refine J_iconst C dX5_canAsk_56 (v := nI 0) (by decide) ?_
            exact J_zret C hr (by decide) dX5_canAsk_57 (()) ((p2i_f (fun z => z.2.2.2 ⟨cq36, cq49⟩)).symm) (rfl)
          · refine J_iconst C dX5_canAsk_52 (v := nI 1) (by decide) ?_
            refine J_goto (tgt := 57) C dX5_canAsk_53 (by decide) ?_
            exact J_zret C hr (by decide) dX5_canAsk_57 (()) ((p2i_t (⟨cq7, cq20, cq32, fun z => cq49 z.2⟩)).symm) (rfl)

set_option maxHeartbeats 4000000 in
set_option maxRecDepth 100000 in
theorem kX5_isHere (ll : Launch) (Y : GY) (m : Nat → Nat) (v : Nat → Nat) (nw : Nat → Nat) (g : Nat) (hM : ∀ k, k = 1 ∨ k = 7 ∨ 17 ≤ k ∧ k ≤ 24 → nw k < 2147483648) (hg : g ≤ 3) : CT ll yX5_isHere wsX5_isHere { frames := 0, cells := 0, slots := 0, locals := 0 } Y [.ref (m 0), .int (nI g)] [oB (m 0) 5 [.ref (m 1), .ref (m 2), .int (nI (v 2)), .int (nI (v 3)), .ref (m 3), .int (nI (v 5)), .int (nI (v 6)), .ref (m 4), .ref (m 5), .ref (m 6), .ref (m 7), .ref (m 8), .ref (m 9), .ref (m 10), .ref (m 11), .int (nI (v 15)), .int (nI (v 16)), .int (nI (v 17)), .int (nI (v 18)), .long (lN (v 19))], aI Y (m 1) 101 (nF nw)] (QI Y (fun (r : Int32) (_ : Unit) => r = p2i (nw 1 = 1 ∧ nw (17 + g) = 1)) (fun _ => [oB (m 0) 5 [.ref (m 1), .ref (m 2), .int (nI (v 2)), .int (nI (v 3)), .ref (m 3), .int (nI (v 5)), .int (nI (v 6)), .ref (m 4), .ref (m 5), .ref (m 6), .ref (m 7), .ref (m 8), .ref (m 9), .ref (m 10), .ref (m 11), .int (nI (v 15)), .int (nI (v 16)), .int (nI (v 17)), .int (nI (v 18)), .long (lN (v 19))], aI Y (m 1) 101 (nF nw)])) 0 0 := by
  refine CT_of (cc := cX5_isHere) (maxL := 2) (ret := (some .boolean)) (by decide) rfl (Nat.le_of_ble_eq_true rfl) ?_
  intro pp ee ss mm bl mt cc AA C hr hnm
  have w0 := C.t _ (List.mem_of_getElem? (i := 1) (show wsX5_isHere[1]? = some (Cond.fieldLink RX5 7 "SecretDinnerModel" "now" "[I") from rfl))
  have i5 : ∀ w ∈ wsX50, w ∈ wsX5_isHere := inPlaces [2, 3, 4, 5, 6, 7, 8, 9, 10, 11, 12, 13, 14, 15, 16, 17, 18, 19, 20, 21] (by decide +kernel)
  refine J_eq (lv' := [(0, .ref (m 0)), (1, .int (nI g))]) (ws' := [oB (m 0) 5 [.ref (m 1), .ref (m 2), .int (nI (v 2)), .int (nI (v 3)), .ref (m 3), .int (nI (v 5)), .int (nI (v 6)), .ref (m 4), .ref (m 5), .ref (m 6), .ref (m 7), .ref (m 8), .ref (m 9), .ref (m 10), .ref (m 11), .int (nI (v 15)), .int (nI (v 16)), .int (nI (v 17)), .int (nI (v 18)), .long (lN (v 19))], aI Y (m 1) 101 (nF nw)]) rfl rfl rfl rfl ?_
  refine J_aload_n C dX5_isHere_0 rfl 0 rfl ?_
  refine J_get (ci := 5) C i5 rfl 0 (by decide) w0 rfl 0 rfl rfl dX5_isHere_1 ?_
  refine J_iconst C dX5_isHere_4 (v := nI 1) (by decide) ?_
  refine J_ialdF C 1 rfl (by omega) (by omega) dX5_isHere_5 ?_
  refine J_iconst C dX5_isHere_6 (v := nI 1) (by decide) ?_
  refine J_icmp_neN (tgt := 27) C dX5_isHere_7 (by decide) (hM (1) (by omega)) (by decide) (fun cq7 => ?_) (fun cq7 => ?_)
  · refine J_iconst C dX5_isHere_27 (v := nI 0) (by decide) ?_
    exact J_zret C hr (by decide) dX5_isHere_28 (()) ((p2i_f (fun z => cq7 z.1)).symm) (rfl)
  · refine J_aload_n C dX5_isHere_10 rfl 0 rfl ?_
    refine J_get (ci := 5) C i5 rfl 0 (by decide) w0 rfl 0 rfl rfl dX5_isHere_11 ?_
    refine J_bipush C dX5_isHere_14 (v := nI 17) (by decide) ?_
    refine J_iload_n C dX5_isHere_16 rfl 1 rfl ?_
    refine J_iaddN C dX5_isHere_17 ?_
    refine J_ialdF C 1 rfl (by omega) (by omega) dX5_isHere_18 ?_
    refine J_iconst C dX5_isHere_19 (v := nI 1) (by decide) ?_
    refine J_icmp_neN (tgt := 27) C dX5_isHere_20 (by decide) (hM (17 + g) (by omega)) (by decide) (fun cq20 => ?_) (fun cq20 => ?_)
    · refine J_iconst C dX5_isHere_27 (v := nI 0) (by decide) ?_
      exact J_zret C hr (by decide) dX5_isHere_28 (()) ((p2i_f (fun z => cq20 z.2)).symm) (rfl)
    · refine J_iconst C dX5_isHere_23 (v := nI 1) (by decide) ?_
      refine J_goto (tgt := 28) C dX5_isHere_24 (by decide) ?_
      exact J_zret C hr (by decide) dX5_isHere_28 (()) ((p2i_t (⟨cq7, cq20⟩)).symm) (rfl)

set_option maxHeartbeats 4000000 in
set_option maxRecDepth 100000 in
theorem kX5_present (ll : Launch) (Y : GY) (m : Nat → Nat) (v : Nat → Nat) (nw : Nat → Nat) (hn : nw 0 ≤ 4) : CT ll yX5_present wsX5_present { frames := 0, cells := 0, slots := 0, locals := 0 } Y [.ref (m 0)] [oB (m 0) 5 [.ref (m 1), .ref (m 2), .int (nI (v 2)), .int (nI (v 3)), .ref (m 3), .int (nI (v 5)), .int (nI (v 6)), .ref (m 4), .ref (m 5), .ref (m 6), .ref (m 7), .ref (m 8), .ref (m 9), .ref (m 10), .ref (m 11), .int (nI (v 15)), .int (nI (v 16)), .int (nI (v 17)), .int (nI (v 18)), .long (lN (v 19))], aI Y (m 1) 101 (nF nw)] (QI Y (fun (r : Int32) (_ : Unit) => r = nI (prN nw (nw 0))) (fun _ => [oB (m 0) 5 [.ref (m 1), .ref (m 2), .int (nI (v 2)), .int (nI (v 3)), .ref (m 3), .int (nI (v 5)), .int (nI (v 6)), .ref (m 4), .ref (m 5), .ref (m 6), .ref (m 7), .ref (m 8), .ref (m 9), .ref (m 10), .ref (m 11), .int (nI (v 15)), .int (nI (v 16)), .int (nI (v 17)), .int (nI (v 18)), .long (lN (v 19))], aI Y (m 1) 101 (nF nw)])) 0 0 := by
  refine CT_of (cc := cX5_present) (maxL := 3) (ret := (some .int)) (by decide) rfl (Nat.le_of_ble_eq_true rfl) ?_
  intro pp ee ss mm bl mt cc AA C hr hnm
  have w0 := C.t _ (List.mem_of_getElem? (i := 1) (show wsX5_present[1]? = some (Cond.fieldLink RX5 7 "SecretDinnerModel" "now" "[I") from rfl))
  have i5 : ∀ w ∈ wsX50, w ∈ wsX5_present := inPlaces [2, 3, 4, 5, 6, 7, 8, 9, 10, 11, 12, 13, 14, 15, 16, 17, 18, 19, 20, 21] (by decide +kernel)
  refine J_eq (lv' := [(0, .ref (m 0))]) (ws' := [oB (m 0) 5 [.ref (m 1), .ref (m 2), .int (nI (v 2)), .int (nI (v 3)), .ref (m 3), .int (nI (v 5)), .int (nI (v 6)), .ref (m 4), .ref (m 5), .ref (m 6), .ref (m 7), .ref (m 8), .ref (m 9), .ref (m 10), .ref (m 11), .int (nI (v 15)), .int (nI (v 16)), .int (nI (v 17)), .int (nI (v 18)), .long (lN (v 19))], aI Y (m 1) 101 (nF nw)]) rfl rfl rfl rfl ?_
  refine J_iconst C dX5_present_0 (v := nI 0) (by decide) ?_
  refine J_istore_n (lv' := [(1, .int (nI 0)), (0, .ref (m 0))]) C dX5_present_1 rfl (by decide) rfl ?_
  refine J_iconst C dX5_present_2 (v := nI 0) (by decide) ?_
  refine J_istore_n (lv' := [(2, .int (nI 0)), (1, .int (nI 0)), (0, .ref (m 0))]) C dX5_present_3 rfl (by decide) rfl ?_
  refine J_lv (lv' := [(0, .ref (m 0)), (1, .int (nI 0)), (2, .int (nI 0))]) [2, 1, 0] rfl ?_
  refine J_loop (σ := Nat) (I := fun (g : Nat) => (g ≤ nw 0)) (μ := fun (g : Nat) => nw 0 - g) (lvf := fun (g : Nat) => [(0, .ref (m 0)), (1, .int (nI (prN nw g))), (2, .int (nI g))]) (stf := fun (g : Nat) => []) (wsf := fun (g : Nat) => [oB (m 0) 5 [.ref (m 1), .ref (m 2), .int (nI (v 2)), .int (nI (v 3)), .ref (m 3), .int (nI (v 5)), .int (nI (v 6)), .ref (m 4), .ref (m 5), .ref (m 6), .ref (m 7), .ref (m 8), .ref (m 9), .ref (m 10), .ref (m 11), .int (nI (v 15)), .int (nI (v 16)), .int (nI (v 17)), .int (nI (v 18)), .long (lN (v 19))], aI Y (m 1) 101 (nF nw)]) ?_ (0) (by omega) (rfl) rfl (rfl)
  rintro g hg ih4
  refine J_eq (lv' := [(0, .ref (m 0)), (1, .int (nI (prN nw g))), (2, .int (nI g))]) (st' := []) (ws' := [oB (m 0) 5 [.ref (m 1), .ref (m 2), .int (nI (v 2)), .int (nI (v 3)), .ref (m 3), .int (nI (v 5)), .int (nI (v 6)), .ref (m 4), .ref (m 5), .ref (m 6), .ref (m 7), .ref (m 8), .ref (m 9), .ref (m 10), .ref (m 11), .int (nI (v 15)), .int (nI (v 16)), .int (nI (v 17)), .int (nI (v 18)), .long (lN (v 19))], aI Y (m 1) 101 (nF nw)]) rfl rfl rfl rfl ?_
  refine J_iload_n C dX5_present_4 rfl 2 rfl ?_
  refine J_aload_n C dX5_present_5 rfl 0 rfl ?_
  refine J_get (ci := 5) C i5 rfl 0 (by decide) w0 rfl 0 rfl rfl dX5_present_6 ?_
  refine J_iconst C dX5_present_9 (v := nI 0) (by decide) ?_
  refine J_ialdF C 1 rfl (by omega) (by omega) dX5_present_10 ?_
  refine J_icmp_geN (tgt := 32) C dX5_present_11 (by decide) (by omega) (by omega) (fun cq11 => ?_) (fun cq11 => ?_)
  · refine J_iload_n C dX5_present_32 rfl 1 rfl ?_
    exact J_iret C hr dX5_present_33 (()) (by rw [show g = nw 0 from by omega]) (rfl)
  · refine J_iload_n C dX5_present_14 rfl 1 rfl ?_
    refine J_aload_n C dX5_present_15 rfl 0 rfl ?_
    refine J_get (ci := 5) C i5 rfl 0 (by decide) w0 rfl 0 rfl rfl dX5_present_16 ?_
    refine J_bipush C dX5_present_19 (v := nI 17) (by decide) ?_
    refine J_iload_n C dX5_present_21 rfl 2 rfl ?_
    refine J_iaddN C dX5_present_22 ?_
    refine J_ialdF C 1 rfl (by omega) (by omega) dX5_present_23 ?_
    refine J_iaddN C dX5_present_24 ?_
    refine J_istore_n (lv' := [(1, .int (nI ((prN nw g) + (nw (17 + g))))), (0, .ref (m 0)), (2, .int (nI g))]) C dX5_present_25 rfl (by decide) rfl ?_
    refine J_iinc (j := 2) (v := nI (g + 1)) (lv' := [(2, .int (nI (g + 1))), (1, .int (nI ((prN nw g) + (nw (17 + g))))), (0, .ref (m 0))]) C dX5_present_26 rfl (nI_1 _) (by decide) rfl ?_
    refine J_goto (tgt := 4) C dX5_present_29 (by decide) ?_
    refine J_lv (lv' := [(0, .ref (m 0)), (1, .int (nI ((prN nw g) + (nw (17 + g))))), (2, .int (nI (g + 1)))]) [2, 1, 0] rfl ?_
    exact ih4 (g + 1) (by omega) (show nw 0 - (g + 1) < nw 0 - g from by omega)

set_option maxHeartbeats 4000000 in
set_option maxRecDepth 100000 in
theorem kX5_deals (ll : Launch) (Y : GY) (m : Nat → Nat) (v : Nat → Nat) (nw : Nat → Nat) (n : Nat) (c0 : Nat) (pl : Nat) (hn : n ≤ 4) (hh : ∀ g, g < n → nw (13 + g) < 256) (hz : ∀ g, g < n → nw (9 + g) = szH n g) (hs : ∀ g, g < n → pc8 (nw (13 + g)) ≤ szH n g) (hpl : pl < 2 ^ 31) (hc : c0 ≤ 7) (hG : hoG n (fun g => nw (13 + g)) pl n 0 0 < n) : CT ll yX5_deals wsX5_deals { frames := 1, cells := 0, slots := 0, locals := 22 } Y [.ref (m 0), .int (nI c0), .int (nI pl)] [oB (m 0) 5 [.ref (m 1), .ref (m 2), .int (nI (v 2)), .int (nI (v 3)), .ref (m 3), .int (nI (v 5)), .int (nI (v 6)), .ref (m 4), .ref (m 5), .ref (m 6), .ref (m 7), .ref (m 8), .ref (m 9), .ref (m 10), .ref (m 11), .int (nI (v 15)), .int (nI (v 16)), .int (nI (v 17)), .int (nI (v 18)), .long (lN (v 19))], aI Y (m 1) 101 (nF nw)] (QV Y (fun (_ : Unit) => True) (fun _ => [oB (m 0) 5 [.ref (m 1), .ref (m 2), .int (nI (v 2)), .int (nI (v 3)), .ref (m 3), .int (nI (v 5)), .int (nI (v 6)), .ref (m 4), .ref (m 5), .ref (m 6), .ref (m 7), .ref (m 8), .ref (m 9), .ref (m 10), .ref (m 11), .int (nI (v 15)), .int (nI (v 16)), .int (nI (v 17)), .int (nI (v 18)), .long (lN (v 19))], aI Y (m 1) 101 (nF ((dlM nw n c0 pl)))])) 0 0 := by
  refine CT_of (cc := cX5_deals) (maxL := 5) (ret := none) (by decide) rfl (Nat.le_of_ble_eq_true rfl) ?_
  intro pp ee ss mm bl mt cc AA C hr hnm
  have w0 := C.t _ (List.mem_of_getElem? (i := 1) (show wsX5_deals[1]? = some (Cond.fieldLink RX5 7 "SecretDinnerModel" "now" "[I") from rfl))
  have i5 : ∀ w ∈ wsX50, w ∈ wsX5_deals := inPlaces [6, 7, 8, 9, 10, 11, 12, 13, 14, 15, 16, 17, 18, 19, 20, 21, 22, 23, 24, 25] (by decide +kernel)
  refine J_eq (lv' := [(0, .ref (m 0)), (1, .int (nI c0)), (2, .int (nI pl))]) (ws' := [oB (m 0) 5 [.ref (m 1), .ref (m 2), .int (nI (v 2)), .int (nI (v 3)), .ref (m 3), .int (nI (v 5)), .int (nI (v 6)), .ref (m 4), .ref (m 5), .ref (m 6), .ref (m 7), .ref (m 8), .ref (m 9), .ref (m 10), .ref (m 11), .int (nI (v 15)), .int (nI (v 16)), .int (nI (v 17)), .int (nI (v 18)), .long (lN (v 19))], aI Y (m 1) 101 (nF nw)]) rfl rfl rfl rfl ?_
  refine J_iload_n C dX5_deals_0 rfl 2 rfl ?_
  refine J_istore_n (lv' := [(3, .int (nI pl)), (0, .ref (m 0)), (1, .int (nI c0)), (2, .int (nI pl))]) C dX5_deals_1 rfl (by decide) rfl ?_
  refine J_iconst C dX5_deals_2 (v := nI 0) (by decide) ?_
  refine J_istore (lv' := [(4, .int (nI 0)), (3, .int (nI pl)), (0, .ref (m 0)), (1, .int (nI c0)), (2, .int (nI pl))]) C dX5_deals_3 (by decide) rfl ?_
  refine J_lv (lv' := [(0, .ref (m 0)), (1, .int (nI c0)), (2, .int (nI pl)), (3, .int (nI pl)), (4, .int (nI 0))]) [2, 3, 4, 1, 0] rfl ?_
  refine J_loop (σ := Nat × Nat) (I := fun (g, b) => (g < n) ∧ (b ≤ pl) ∧ (hoG n (fun g => nw (13 + g)) pl n 0 0 = hoG n (fun g => nw (13 + g)) pl (n - g) g b)) (μ := fun (g, b) => n - g) (lvf := fun (g, b) => [(0, .ref (m 0)), (1, .int (nI c0)), (2, .int (nI pl)), (3, .int (nI (pl - b))), (4, .int (nI g))]) (stf := fun (g, b) => []) (wsf := fun (g, b) => [oB (m 0) 5 [.ref (m 1), .ref (m 2), .int (nI (v 2)), .int (nI (v 3)), .ref (m 3), .int (nI (v 5)), .int (nI (v 6)), .ref (m 4), .ref (m 5), .ref (m 6), .ref (m 7), .ref (m 8), .ref (m 9), .ref (m 10), .ref (m 11), .int (nI (v 15)), .int (nI (v 16)), .int (nI (v 17)), .int (nI (v 18)), .long (lN (v 19))], aI Y (m 1) 101 (nF nw)]) ?_ (0, 0) ⟨(by omega), (Nat.zero_le _), (rfl)⟩ (rfl) rfl (rfl)
  rintro ⟨g, b⟩ ⟨hg, hb, he⟩ ih5
  refine J_eq (lv' := [(0, .ref (m 0)), (1, .int (nI c0)), (2, .int (nI pl)), (3, .int (nI (pl - b))), (4, .int (nI g))]) (st' := []) (ws' := [oB (m 0) 5 [.ref (m 1), .ref (m 2), .int (nI (v 2)), .int (nI (v 3)), .ref (m 3), .int (nI (v 5)), .int (nI (v 6)), .ref (m 4), .ref (m 5), .ref (m 6), .ref (m 7), .ref (m 8), .ref (m 9), .ref (m 10), .ref (m 11), .int (nI (v 15)), .int (nI (v 16)), .int (nI (v 17)), .int (nI (v 18)), .long (lN (v 19))], aI Y (m 1) 101 (nF nw)]) rfl rfl rfl rfl ?_
  have z1 := hz g hg
  have z2 := hs g hg
  have z3 := szH_le n g
  refine J_iload_n C dX5_deals_5 rfl 3 rfl ?_
  refine J_aload_n C dX5_deals_6 rfl 0 rfl ?_
  refine J_get (ci := 5) C i5 rfl 0 (by decide) w0 rfl 0 rfl rfl dX5_deals_7 ?_
  refine J_bipush C dX5_deals_10 (v := nI 9) (by decide) ?_
  refine J_iload C dX5_deals_12 4 rfl ?_
  refine J_iaddN C dX5_deals_14 ?_
  refine J_ialdF C 1 rfl (by omega) (by omega) dX5_deals_15 ?_
  refine J_aload_n C dX5_deals_16 rfl 0 rfl ?_
  refine J_get (ci := 5) C i5 rfl 0 (by decide) w0 rfl 0 rfl rfl dX5_deals_17 ?_
  refine J_bipush C dX5_deals_20 (v := nI 13) (by decide) ?_
  refine J_iload C dX5_deals_22 4 rfl ?_
  refine J_iaddN C dX5_deals_24 ?_
  refine J_ialdF C 1 rfl (by omega) (by omega) dX5_deals_25 ?_
  refine J_callI (wr := [oB (m 0) 5 [.ref (m 1), .ref (m 2), .int (nI (v 2)), .int (nI (v 3)), .ref (m 3), .int (nI (v 5)), .int (nI (v 6)), .ref (m 4), .ref (m 5), .ref (m 6), .ref (m 7), .ref (m 8), .ref (m 9), .ref (m 10), .ref (m 11), .int (nI (v 15)), .int (nI (v 16)), .int (nI (v 17)), .int (nI (v 18)), .long (lN (v 19))], aI Y (m 1) 101 (nF nw)]) C (R_S (st := [.int (nI (nw (9 + g))), .int (nI (pl - b))]) (wc := []) C (kX5_many ll Y (nw (13 + g)) (hh g hg)) (va_cwS 1 C.t gX5_deals_X5_many rfl rfl rfl (by decide +kernel) ⟨by decide, by decide⟩) rfl [] rfl (by decide) rfl (Nat.le_of_ble_eq_true rfl) dX5_deals_26 ⟨Nat.le_of_ble_eq_true rfl, Nat.le_of_ble_eq_true rfl⟩) [] [0, 1] rfl rfl (by decide) (by decide) (fun r26 u26 hw26 => ?_)
  subst hw26
  refine J_eq (pc' := 29) (lv' := [(0, .ref (m 0)), (1, .int (nI c0)), (2, .int (nI pl)), (3, .int (nI (pl - b))), (4, .int (nI g))]) (st' := [.int (nI (pc8 (nw (13 + g)))), .int (nI (nw (9 + g))), .int (nI (pl - b))]) (ws' := [oB (m 0) 5 [.ref (m 1), .ref (m 2), .int (nI (v 2)), .int (nI (v 3)), .ref (m 3), .int (nI (v 5)), .int (nI (v 6)), .ref (m 4), .ref (m 5), .ref (m 6), .ref (m 7), .ref (m 8), .ref (m 9), .ref (m 10), .ref (m 11), .int (nI (v 15)), .int (nI (v 16)), .int (nI (v 17)), .int (nI (v 18)), .long (lN (v 19))], aI Y (m 1) 101 (nF nw)]) rfl rfl rfl rfl ?_
  refine J_isubN C dX5_deals_29 (by omega) ?_
  refine J_icmp_ltN (tgt := 66) C dX5_deals_30 (by decide) (by omega) (by omega) (fun cq30 => ?_) (fun cq30 => ?_)
  · refine J_aload_n C dX5_deals_66 rfl 0 rfl ?_
    refine J_get (ci := 5) C i5 rfl 0 (by decide) w0 rfl 0 rfl rfl dX5_deals_67 ?_
    refine J_bipush C dX5_deals_70 (v := nI 13) (by decide) ?_
    refine J_iload C dX5_deals_72 4 rfl ?_
    refine J_iaddN C dX5_deals_74 ?_
    refine J_dup2 C dX5_deals_75 rfl rfl ?_
    refine J_ialdF C 1 rfl (by omega) (by omega) dX5_deals_76 ?_
    refine J_iconst C dX5_deals_77 (v := nI 1) (by decide) ?_
    refine J_iload_n C dX5_deals_78 rfl 1 rfl ?_
    refine J_ishlN C dX5_deals_79 (by omega) (one_shl hc) ?_
    refine J_iorN C dX5_deals_80 ?_
    refine J_iastF (ws' := [oB (m 0) 5 [.ref (m 1), .ref (m 2), .int (nI (v 2)), .int (nI (v 3)), .ref (m 3), .int (nI (v 5)), .int (nI (v 6)), .ref (m 4), .ref (m 5), .ref (m 6), .ref (m 7), .ref (m 8), .ref (m 9), .ref (m 10), .ref (m 11), .int (nI (v 15)), .int (nI (v 16)), .int (nI (v 17)), .int (nI (v 18)), .long (lN (v 19))], aI Y (m 1) 101 (nF (va_up nw (13 + g) ((nw (13 + g)) ||| (1 * 2 ^ c0))))]) C 1 rfl (by omega) (by omega) dX5_deals_81 rfl ?_
    exact J_vret C hr dX5_deals_82 (()) (trivial) (by rw [dlM_g (he.trans (hoG_t (by omega) (by show pl < b + (szH n g - pc8 (nw (13 + g))); omega)))])
  · refine J_iload_n C dX5_deals_33 rfl 3 rfl ?_
    refine J_aload_n C dX5_deals_34 rfl 0 rfl ?_
    refine J_get (ci := 5) C i5 rfl 0 (by decide) w0 rfl 0 rfl rfl dX5_deals_35 ?_
    refine J_bipush C dX5_deals_38 (v := nI 9) (by decide) ?_
    refine J_iload C dX5_deals_40 4 rfl ?_
    refine J_iaddN C dX5_deals_42 ?_
    refine J_ialdF C 1 rfl (by omega) (by omega) dX5_deals_43 ?_
    refine J_aload_n C dX5_deals_44 rfl 0 rfl ?_
    refine J_get (ci := 5) C i5 rfl 0 (by decide) w0 rfl 0 rfl rfl dX5_deals_45 ?_
    refine J_bipush C dX5_deals_48 (v := nI 13) (by decide) ?_
    refine J_iload C dX5_deals_50 4 rfl ?_
    refine J_iaddN C dX5_deals_52 ?_
    refine J_ialdF C 1 rfl (by omega) (by omega) dX5_deals_53 ?_
    refine J_callI (wr := [oB (m 0) 5 [.ref (m 1), .ref (m 2), .int (nI (v 2)), .int (nI (v 3)), .ref (m 3), .int (nI (v 5)), .int (nI (v 6)), .ref (m 4), .ref (m 5), .ref (m 6), .ref (m 7), .ref (m 8), .ref (m 9), .ref (m 10), .ref (m 11), .int (nI (v 15)), .int (nI (v 16)), .int (nI (v 17)), .int (nI (v 18)), .long (lN (v 19))], aI Y (m 1) 101 (nF nw)]) C (R_S (st := [.int (nI (nw (9 + g))), .int (nI (pl - b))]) (wc := []) C (kX5_many ll Y (nw (13 + g)) (hh g hg)) (va_cwS 1 C.t gX5_deals_X5_many rfl rfl rfl (by decide +kernel) ⟨by decide, by decide⟩) rfl [] rfl (by decide) rfl (Nat.le_of_ble_eq_true rfl) dX5_deals_54 ⟨Nat.le_of_ble_eq_true rfl, Nat.le_of_ble_eq_true rfl⟩) [] [0, 1] rfl rfl (by decide) (by decide) (fun r54 u54 hw54 => ?_)
    subst hw54
    refine J_eq (pc' := 57) (lv' := [(0, .ref (m 0)), (1, .int (nI c0)), (2, .int (nI pl)), (3, .int (nI (pl - b))), (4, .int (nI g))]) (st' := [.int (nI (pc8 (nw (13 + g)))), .int (nI (nw (9 + g))), .int (nI (pl - b))]) (ws' := [oB (m 0) 5 [.ref (m 1), .ref (m 2), .int (nI (v 2)), .int (nI (v 3)), .ref (m 3), .int (nI (v 5)), .int (nI (v 6)), .ref (m 4), .ref (m 5), .ref (m 6), .ref (m 7), .ref (m 8), .ref (m 9), .ref (m 10), .ref (m 11), .int (nI (v 15)), .int (nI (v 16)), .int (nI (v 17)), .int (nI (v 18)), .long (lN (v 19))], aI Y (m 1) 101 (nF nw)]) rfl rfl rfl rfl ?_
    refine J_isubN C dX5_deals_57 (by omega) ?_
    refine J_isubN C dX5_deals_58 (by omega) ?_
    refine J_istore_n (lv' := [(3, .int (nI ((pl - b) - ((nw (9 + g)) - (pc8 (nw (13 + g))))))), (0, .ref (m 0)), (1, .int (nI c0)), (2, .int (nI pl)), (4, .int (nI g))]) C dX5_deals_59 rfl (by decide) rfl ?_
    refine J_iinc (j := 4) (v := nI (g + 1)) (lv' := [(4, .int (nI (g + 1))), (3, .int (nI ((pl - b) - ((nw (9 + g)) - (pc8 (nw (13 + g))))))), (0, .ref (m 0)), (1, .int (nI c0)), (2, .int (nI pl))]) C dX5_deals_60 rfl (nI_1 _) (by decide) rfl ?_
    refine J_goto (tgt := 5) C dX5_deals_63 (by decide) ?_
    refine J_lv (lv' := [(0, .ref (m 0)), (1, .int (nI c0)), (2, .int (nI pl)), (3, .int (nI ((pl - b) - ((nw (9 + g)) - (pc8 (nw (13 + g))))))), (4, .int (nI (g + 1)))]) [2, 3, 4, 1, 0] rfl ?_
    refine J_eq (lv' := [(0, .ref (m 0)), (1, .int (nI c0)), (2, .int (nI pl)), (3, .int (nI (pl - (b + (nw (9 + g) - pc8 (nw (13 + g))))))), (4, .int (nI ((g + 1))))]) (ws' := [oB (m 0) 5 [.ref (m 1), .ref (m 2), .int (nI (v 2)), .int (nI (v 3)), .ref (m 3), .int (nI (v 5)), .int (nI (v 6)), .ref (m 4), .ref (m 5), .ref (m 6), .ref (m 7), .ref (m 8), .ref (m 9), .ref (m 10), .ref (m 11), .int (nI (v 15)), .int (nI (v 16)), .int (nI (v 17)), .int (nI (v 18)), .long (lN (v 19))], aI Y (m 1) 101 (nF nw)]) rfl (by rw [Nat.sub_sub]) rfl (rfl) ?_
    exact ih5 (g + 1, b + (nw (9 + g) - pc8 (nw (13 + g)))) ⟨((hoG_nx hG hg he (by show b + (szH n g - pc8 (nw (13 + g))) ≤ pl; omega)).1), (by omega), (by rw [z1]; exact (hoG_nx hG hg he (by show b + (szH n g - pc8 (nw (13 + g))) ≤ pl; omega)).2)⟩ (show n - (g + 1) < n - g from by omega)

set_option maxHeartbeats 4000000 in
set_option maxRecDepth 100000 in
theorem kX5_asks (ll : Launch) (Y : GY) (m : Nat → Nat) (v : Nat → Nat) (nw : Nat → Nat) (g : Nat) (cards : Nat) (Lp : Prop) [Decidable Lp] (hg : g ≤ 3) (hcs : cards < 256) (h7 : nw 7 < 20) (h9 : nw (9 + g) ≤ 3) : CT ll yX5_asks wsX5_asks { frames := 1, cells := 0, slots := 0, locals := 22 } Y [.ref (m 0), .int (nI g), .int (nI cards), .int (p2i (Lp))] [oB (m 0) 5 [.ref (m 1), .ref (m 2), .int (nI (v 2)), .int (nI (v 3)), .ref (m 3), .int (nI (v 5)), .int (nI (v 6)), .ref (m 4), .ref (m 5), .ref (m 6), .ref (m 7), .ref (m 8), .ref (m 9), .ref (m 10), .ref (m 11), .int (nI (v 15)), .int (nI (v 16)), .int (nI (v 17)), .int (nI (v 18)), .long (lN (v 19))], aI Y (m 1) 101 (nF nw)] (QI Y (fun (r : Int32) (_ : Unit) => r = nI (ansN (nw (13 + g)) (nw (9 + g)) cards Lp)) (fun _ => [oB (m 0) 5 [.ref (m 1), .ref (m 2), .int (nI (v 2)), .int (nI (v 3)), .ref (m 3), .int (nI (v 5)), .int (nI (v 6)), .ref (m 4), .ref (m 5), .ref (m 6), .ref (m 7), .ref (m 8), .ref (m 9), .ref (m 10), .ref (m 11), .int (nI (v 15)), .int (nI (v 16)), .int (nI (v 17)), .int (nI (v 18)), .long (lN (v 19))], aI Y (m 1) 101 (nF ((askN nw g cards (ansN (nw (13 + g)) (nw (9 + g)) cards Lp) Lp)))])) 0 0 := by
  refine CT_of (cc := cX5_asks) (maxL := 6) (ret := (some .int)) (by decide) rfl (Nat.le_of_ble_eq_true rfl) ?_
  intro pp ee ss mm bl mt cc AA C hr hnm
  have w0 := C.t _ (List.mem_of_getElem? (i := 1) (show wsX5_asks[1]? = some (Cond.fieldLink RX5 7 "SecretDinnerModel" "now" "[I") from rfl))
  have i5 : ∀ w ∈ wsX50, w ∈ wsX5_asks := inPlaces [6, 7, 8, 9, 10, 11, 12, 13, 14, 15, 16, 17, 18, 19, 20, 21, 22, 23, 24, 25] (by decide +kernel)
  refine J_eq (lv' := [(0, .ref (m 0)), (1, .int (nI g)), (2, .int (nI cards)), (3, .int (p2i (Lp)))]) (ws' := [oB (m 0) 5 [.ref (m 1), .ref (m 2), .int (nI (v 2)), .int (nI (v 3)), .ref (m 3), .int (nI (v 5)), .int (nI (v 6)), .ref (m 4), .ref (m 5), .ref (m 6), .ref (m 7), .ref (m 8), .ref (m 9), .ref (m 10), .ref (m 11), .int (nI (v 15)), .int (nI (v 16)), .int (nI (v 17)), .int (nI (v 18)), .long (lN (v 19))], aI Y (m 1) 101 (nF nw)]) rfl rfl rfl rfl ?_
  refine J_aload_n C dX5_asks_0 rfl 0 rfl ?_
  refine J_get (ci := 5) C i5 rfl 0 (by decide) w0 rfl 0 rfl rfl dX5_asks_1 ?_
  refine J_bipush C dX5_asks_4 (v := nI 13) (by decide) ?_
  refine J_iload_n C dX5_asks_6 rfl 1 rfl ?_
  refine J_iaddN C dX5_asks_7 ?_
  refine J_ialdF C 1 rfl (by omega) (by omega) dX5_asks_8 ?_
  refine J_iload_n C dX5_asks_9 rfl 2 rfl ?_
  refine J_iandN C dX5_asks_10 ?_
  refine J_callI (wr := [oB (m 0) 5 [.ref (m 1), .ref (m 2), .int (nI (v 2)), .int (nI (v 3)), .ref (m 3), .int (nI (v 5)), .int (nI (v 6)), .ref (m 4), .ref (m 5), .ref (m 6), .ref (m 7), .ref (m 8), .ref (m 9), .ref (m 10), .ref (m 11), .int (nI (v 15)), .int (nI (v 16)), .int (nI (v 17)), .int (nI (v 18)), .long (lN (v 19))], aI Y (m 1) 101 (nF nw)]) C (R_S (st := []) (wc := []) C (kX5_many ll Y ((nw (13 + g)) &&& cards) (Nat.lt_of_le_of_lt Nat.and_le_right hcs)) (va_cwS 1 C.t gX5_asks_X5_many rfl rfl rfl (by decide +kernel) ⟨by decide, by decide⟩) rfl [] rfl (by decide) rfl (Nat.le_of_ble_eq_true rfl) dX5_asks_11 ⟨Nat.le_of_ble_eq_true rfl, Nat.le_of_ble_eq_true rfl⟩) [] [0, 1] rfl rfl (by decide) (by decide) (fun r11 u11 hw11 => ?_)
  subst hw11
  refine J_eq (pc' := 14) (lv' := [(0, .ref (m 0)), (1, .int (nI g)), (2, .int (nI cards)), (3, .int (p2i (Lp)))]) (st' := [.int (nI (pc8 ((nw (13 + g)) &&& cards)))]) (ws' := [oB (m 0) 5 [.ref (m 1), .ref (m 2), .int (nI (v 2)), .int (nI (v 3)), .ref (m 3), .int (nI (v 5)), .int (nI (v 6)), .ref (m 4), .ref (m 5), .ref (m 6), .ref (m 7), .ref (m 8), .ref (m 9), .ref (m 10), .ref (m 11), .int (nI (v 15)), .int (nI (v 16)), .int (nI (v 17)), .int (nI (v 18)), .long (lN (v 19))], aI Y (m 1) 101 (nF nw)]) rfl rfl rfl rfl ?_
  refine J_istore (lv' := [(4, .int (nI (pc8 ((nw (13 + g)) &&& cards)))), (0, .ref (m 0)), (1, .int (nI g)), (2, .int (nI cards)), (3, .int (p2i (Lp)))]) C dX5_asks_14 (by decide) rfl ?_
  refine J_iload_n C dX5_asks_16 rfl 4 rfl ?_
  refine J_cut (pc' := 83) (lv' := [(4, .int (nI (ansN (nw (13 + g)) (nw (9 + g)) cards Lp))), (0, .ref (m 0)), (1, .int (nI g)), (2, .int (nI cards)), (3, .int (p2i (Lp)))]) (st' := []) (ws' := [oB (m 0) 5 [.ref (m 1), .ref (m 2), .int (nI (v 2)), .int (nI (v 3)), .ref (m 3), .int (nI (v 5)), .int (nI (v 6)), .ref (m 4), .ref (m 5), .ref (m 6), .ref (m 7), .ref (m 8), .ref (m 9), .ref (m 10), .ref (m 11), .int (nI (v 15)), .int (nI (v 16)), .int (nI (v 17)), .int (nI (v 18)), .long (lN (v 19))], aI Y (m 1) 101 (nF ((lieN nw g Lp)))]) (True) (fun _hT => ?_) (fun jn83 => ?_)
  · have h77 : lieN nw g Lp 7 = nw 7 := by unfold lieN; split; exact if_neg (by omega); rfl
    refine J_bipush C dX5_asks_83 (v := nI 41) (by decide) ?_
    refine J_iconst C dX5_asks_85 (v := nI 3) (by decide) ?_
    refine J_aload_n C dX5_asks_86 rfl 1 rfl ?_
    refine J_get (ci := 5) C i5 rfl 0 (by decide) w0 rfl 0 rfl rfl dX5_asks_87 ?_
    refine J_bipush C dX5_asks_90 (v := nI 7) (by decide) ?_
    refine J_ialdF C 1 rfl (by omega) (by omega) dX5_asks_92 ?_
    refine J_imulN C dX5_asks_93 ?_
    refine J_iaddN C dX5_asks_94 ?_
    refine J_istore (lv' := [(5, .int (nI (41 + (3 * (((lieN nw g Lp)) 7))))), (4, .int (nI (ansN (nw (13 + g)) (nw (9 + g)) cards Lp))), (0, .ref (m 0)), (1, .int (nI g)), (2, .int (nI cards)), (3, .int (p2i (Lp)))]) C dX5_asks_95 (by decide) rfl ?_
    refine J_aload_n C dX5_asks_97 rfl 2 rfl ?_
    refine J_get (ci := 5) C i5 rfl 0 (by decide) w0 rfl 0 rfl rfl dX5_asks_98 ?_
    refine J_iload C dX5_asks_101 0 rfl ?_
    refine J_iload_n C dX5_asks_103 rfl 3 rfl ?_
    refine J_iastF (ws' := [oB (m 0) 5 [.ref (m 1), .ref (m 2), .int (nI (v 2)), .int (nI (v 3)), .ref (m 3), .int (nI (v 5)), .int (nI (v 6)), .ref (m 4), .ref (m 5), .ref (m 6), .ref (m 7), .ref (m 8), .ref (m 9), .ref (m 10), .ref (m 11), .int (nI (v 15)), .int (nI (v 16)), .int (nI (v 17)), .int (nI (v 18)), .long (lN (v 19))], aI Y (m 1) 101 (nF (va_up ((lieN nw g Lp)) (41 + (3 * (((lieN nw g Lp)) 7))) g))]) C 1 rfl (by omega) (by omega) dX5_asks_104 rfl ?_
    refine J_aload_n C dX5_asks_105 rfl 2 rfl ?_
    refine J_get (ci := 5) C i5 rfl 0 (by decide) w0 rfl 0 rfl rfl dX5_asks_106 ?_
    refine J_iload C dX5_asks_109 0 rfl ?_
    refine J_iconst C dX5_asks_111 (v := nI 1) (by decide) ?_
    refine J_iaddN C dX5_asks_112 ?_
    refine J_iload_n C dX5_asks_113 rfl 4 rfl ?_
    refine J_iastF (ws' := [oB (m 0) 5 [.ref (m 1), .ref (m 2), .int (nI (v 2)), .int (nI (v 3)), .ref (m 3), .int (nI (v 5)), .int (nI (v 6)), .ref (m 4), .ref (m 5), .ref (m 6), .ref (m 7), .ref (m 8), .ref (m 9), .ref (m 10), .ref (m 11), .int (nI (v 15)), .int (nI (v 16)), .int (nI (v 17)), .int (nI (v 18)), .long (lN (v 19))], aI Y (m 1) 101 (nF (va_up (va_up ((lieN nw g Lp)) (41 + (3 * (((lieN nw g Lp)) 7))) g) ((41 + (3 * (((lieN nw g Lp)) 7))) + 1) cards))]) C 1 rfl (by omega) (by omega) dX5_asks_114 rfl ?_
    refine J_aload_n C dX5_asks_115 rfl 2 rfl ?_
    refine J_get (ci := 5) C i5 rfl 0 (by decide) w0 rfl 0 rfl rfl dX5_asks_116 ?_
    refine J_iload C dX5_asks_119 0 rfl ?_
    refine J_iconst C dX5_asks_121 (v := nI 2) (by decide) ?_
    refine J_iaddN C dX5_asks_122 ?_
    refine J_iload C dX5_asks_123 1 rfl ?_
    refine J_iastF (ws' := [oB (m 0) 5 [.ref (m 1), .ref (m 2), .int (nI (v 2)), .int (nI (v 3)), .ref (m 3), .int (nI (v 5)), .int (nI (v 6)), .ref (m 4), .ref (m 5), .ref (m 6), .ref (m 7), .ref (m 8), .ref (m 9), .ref (m 10), .ref (m 11), .int (nI (v 15)), .int (nI (v 16)), .int (nI (v 17)), .int (nI (v 18)), .long (lN (v 19))], aI Y (m 1) 101 (nF (va_up (va_up (va_up ((lieN nw g Lp)) (41 + (3 * (((lieN nw g Lp)) 7))) g) ((41 + (3 * (((lieN nw g Lp)) 7))) + 1) cards) ((41 + (3 * (((lieN nw g Lp)) 7))) + 2) (ansN (nw (13 + g)) (nw (9 + g)) cards Lp)))]) C 1 rfl (by omega) (by omega) dX5_asks_125 rfl ?_
    refine J_aload_n C dX5_asks_126 rfl 2 rfl ?_
    refine J_get (ci := 5) C i5 rfl 0 (by decide) w0 rfl 0 rfl rfl dX5_asks_127 ?_
    refine J_bipush C dX5_asks_130 (v := nI 7) (by decide) ?_
    refine J_dup2 C dX5_asks_132 rfl rfl ?_
    refine J_ialdF C 1 rfl (by omega) (by omega) dX5_asks_133 ?_
    refine J_iconst C dX5_asks_134 (v := nI 1) (by decide) ?_
    refine J_iaddN C dX5_asks_135 ?_
    refine J_iastF (ws' := [oB (m 0) 5 [.ref (m 1), .ref (m 2), .int (nI (v 2)), .int (nI (v 3)), .ref (m 3), .int (nI (v 5)), .int (nI (v 6)), .ref (m 4), .ref (m 5), .ref (m 6), .ref (m 7), .ref (m 8), .ref (m 9), .ref (m 10), .ref (m 11), .int (nI (v 15)), .int (nI (v 16)), .int (nI (v 17)), .int (nI (v 18)), .long (lN (v 19))], aI Y (m 1) 101 (nF (va_up (va_up (va_up (va_up ((lieN nw g Lp)) (41 + (3 * (((lieN nw g Lp)) 7))) g) ((41 + (3 * (((lieN nw g Lp)) 7))) + 1) cards) ((41 + (3 * (((lieN nw g Lp)) 7))) + 2) (ansN (nw (13 + g)) (nw (9 + g)) cards Lp)) 7 (((va_up (va_up (va_up ((lieN nw g Lp)) (41 + (3 * (((lieN nw g Lp)) 7))) g) ((41 + (3 * (((lieN nw g Lp)) 7))) + 1) cards) ((41 + (3 * (((lieN nw g Lp)) 7))) + 2) (ansN (nw (13 + g)) (nw (9 + g)) cards Lp)) 7) + 1)))]) C 1 rfl (by omega) (by omega) dX5_asks_136 rfl ?_
    refine J_aload_n C dX5_asks_137 rfl 2 rfl ?_
    refine J_get (ci := 5) C i5 rfl 0 (by decide) w0 rfl 0 rfl rfl dX5_asks_138 ?_
    refine J_bipush C dX5_asks_141 (v := nI 25) (by decide) ?_
    refine J_iload_n C dX5_asks_143 rfl 3 rfl ?_
    refine J_iaddN C dX5_asks_144 ?_
    refine J_dup2 C dX5_asks_145 rfl rfl ?_
    refine J_ialdF C 1 rfl (by omega) (by omega) dX5_asks_146 ?_
    refine J_iconst C dX5_asks_147 (v := nI 1) (by decide) ?_
    refine J_iaddN C dX5_asks_148 ?_
    refine J_iastF (ws' := [oB (m 0) 5 [.ref (m 1), .ref (m 2), .int (nI (v 2)), .int (nI (v 3)), .ref (m 3), .int (nI (v 5)), .int (nI (v 6)), .ref (m 4), .ref (m 5), .ref (m 6), .ref (m 7), .ref (m 8), .ref (m 9), .ref (m 10), .ref (m 11), .int (nI (v 15)), .int (nI (v 16)), .int (nI (v 17)), .int (nI (v 18)), .long (lN (v 19))], aI Y (m 1) 101 (nF (va_up (va_up (va_up (va_up (va_up ((lieN nw g Lp)) (41 + (3 * (((lieN nw g Lp)) 7))) g) ((41 + (3 * (((lieN nw g Lp)) 7))) + 1) cards) ((41 + (3 * (((lieN nw g Lp)) 7))) + 2) (ansN (nw (13 + g)) (nw (9 + g)) cards Lp)) 7 (((va_up (va_up (va_up ((lieN nw g Lp)) (41 + (3 * (((lieN nw g Lp)) 7))) g) ((41 + (3 * (((lieN nw g Lp)) 7))) + 1) cards) ((41 + (3 * (((lieN nw g Lp)) 7))) + 2) (ansN (nw (13 + g)) (nw (9 + g)) cards Lp)) 7) + 1)) (25 + g) (((va_up (va_up (va_up (va_up ((lieN nw g Lp)) (41 + (3 * (((lieN nw g Lp)) 7))) g) ((41 + (3 * (((lieN nw g Lp)) 7))) + 1) cards) ((41 + (3 * (((lieN nw g Lp)) 7))) + 2) (ansN (nw (13 + g)) (nw (9 + g)) cards Lp)) 7 (((va_up (va_up (va_up ((lieN nw g Lp)) (41 + (3 * (((lieN nw g Lp)) 7))) g) ((41 + (3 * (((lieN nw g Lp)) 7))) + 1) cards) ((41 + (3 * (((lieN nw g Lp)) 7))) + 2) (ansN (nw (13 + g)) (nw (9 + g)) cards Lp)) 7) + 1)) (25 + g)) + 1)))]) C 1 rfl (by omega) (by omega) dX5_asks_149 rfl ?_
    refine J_iload C dX5_asks_150 1 rfl ?_
    exact J_iret C hr dX5_asks_152 (()) (rfl) (rfl)
  · refine J_if_eqP (tgt := 83) C dX5_asks_17 (by decide) (fun cq17 => ?_) (fun cq17 => ?_)
    · refine J_lv (lv' := [(4, .int (nI (pc8 ((nw (13 + g)) &&& cards)))), (0, .ref (m 0)), (1, .int (nI g)), (2, .int (nI cards)), (3, .int (p2i (Lp)))]) [0, 1, 2, 3, 4] rfl ?_
      refine J_eq (lv' := [(4, .int (nI (ansN (nw (13 + g)) (nw (9 + g)) cards Lp))), (0, .ref (m 0)), (1, .int (nI g)), (2, .int (nI cards)), (3, .int (p2i (Lp)))]) (st' := []) (ws' := [oB (m 0) 5 [.ref (m 1), .ref (m 2), .int (nI (v 2)), .int (nI (v 3)), .ref (m 3), .int (nI (v 5)), .int (nI (v 6)), .ref (m 4), .ref (m 5), .ref (m 6), .ref (m 7), .ref (m 8), .ref (m 9), .ref (m 10), .ref (m 11), .int (nI (v 15)), .int (nI (v 16)), .int (nI (v 17)), .int (nI (v 18)), .long (lN (v 19))], aI Y (m 1) 101 (nF ((lieN nw g Lp)))]) rfl (by rw [ansN_n cq17]) rfl (by rw [show lieN nw g Lp = nw from if_neg cq17]) ?_
      exact jn83 (trivial)
    · refine J_aload_n C dX5_asks_20 rfl 1 rfl ?_
      refine J_get (ci := 5) C i5 rfl 0 (by decide) w0 rfl 0 rfl rfl dX5_asks_21 ?_
      refine J_bipush C dX5_asks_24 (v := nI 9) (by decide) ?_
      refine J_iload_n C dX5_asks_26 rfl 2 rfl ?_
      refine J_iaddN C dX5_asks_27 ?_
      refine J_ialdF C 1 rfl (by omega) (by omega) dX5_asks_28 ?_
      refine J_iload_n C dX5_asks_29 rfl 3 rfl ?_
      refine J_callI (wr := [oB (m 0) 5 [.ref (m 1), .ref (m 2), .int (nI (v 2)), .int (nI (v 3)), .ref (m 3), .int (nI (v 5)), .int (nI (v 6)), .ref (m 4), .ref (m 5), .ref (m 6), .ref (m 7), .ref (m 8), .ref (m 9), .ref (m 10), .ref (m 11), .int (nI (v 15)), .int (nI (v 16)), .int (nI (v 17)), .int (nI (v 18)), .long (lN (v 19))], aI Y (m 1) 101 (nF nw)]) C (R_S (st := [.int (nI (nw (9 + g)))]) (wc := []) C (kX5_many ll Y cards (hcs)) (va_cwS 1 C.t gX5_asks_X5_many rfl rfl rfl (by decide +kernel) ⟨by decide, by decide⟩) rfl [] rfl (by decide) rfl (Nat.le_of_ble_eq_true rfl) dX5_asks_30 ⟨Nat.le_of_ble_eq_true rfl, Nat.le_of_ble_eq_true rfl⟩) [] [0, 1] rfl rfl (by decide) (by decide) (fun r30 u30 hw30 => ?_)
      subst hw30
      refine J_eq (pc' := 33) (lv' := [(4, .int (nI (pc8 ((nw (13 + g)) &&& cards)))), (0, .ref (m 0)), (1, .int (nI g)), (2, .int (nI cards)), (3, .int (p2i (Lp)))]) (st' := [.int (nI (pc8 cards)), .int (nI (nw (9 + g)))]) (ws' := [oB (m 0) 5 [.ref (m 1), .ref (m 2), .int (nI (v 2)), .int (nI (v 3)), .ref (m 3), .int (nI (v 5)), .int (nI (v 6)), .ref (m 4), .ref (m 5), .ref (m 6), .ref (m 7), .ref (m 8), .ref (m 9), .ref (m 10), .ref (m 11), .int (nI (v 15)), .int (nI (v 16)), .int (nI (v 17)), .int (nI (v 18)), .long (lN (v 19))], aI Y (m 1) 101 (nF nw)]) rfl rfl rfl rfl ?_
      refine J_icmp_geN (tgt := 48) C dX5_asks_33 (by decide) (by omega) (by have := pc8_le cards; omega) (fun cq33 => ?_) (fun cq33 => ?_)
      · refine J_iload_n C dX5_asks_48 rfl 3 rfl ?_
        refine J_callI (wr := [oB (m 0) 5 [.ref (m 1), .ref (m 2), .int (nI (v 2)), .int (nI (v 3)), .ref (m 3), .int (nI (v 5)), .int (nI (v 6)), .ref (m 4), .ref (m 5), .ref (m 6), .ref (m 7), .ref (m 8), .ref (m 9), .ref (m 10), .ref (m 11), .int (nI (v 15)), .int (nI (v 16)), .int (nI (v 17)), .int (nI (v 18)), .long (lN (v 19))], aI Y (m 1) 101 (nF nw)]) C (R_S (st := []) (wc := []) C (kX5_many ll Y cards (hcs)) (va_cwS 1 C.t gX5_asks_X5_many rfl rfl rfl (by decide +kernel) ⟨by decide, by decide⟩) rfl [] rfl (by decide) rfl (Nat.le_of_ble_eq_true rfl) dX5_asks_49 ⟨Nat.le_of_ble_eq_true rfl, Nat.le_of_ble_eq_true rfl⟩) [] [0, 1] rfl rfl (by decide) (by decide) (fun r49 u49 hw49 => ?_)
        subst hw49
        refine J_eq (pc' := 52) (lv' := [(4, .int (nI (pc8 ((nw (13 + g)) &&& cards)))), (0, .ref (m 0)), (1, .int (nI g)), (2, .int (nI cards)), (3, .int (p2i (Lp)))]) (st' := [.int (nI (pc8 cards))]) (ws' := [oB (m 0) 5 [.ref (m 1), .ref (m 2), .int (nI (v 2)), .int (nI (v 3)), .ref (m 3), .int (nI (v 5)), .int (nI (v 6)), .ref (m 4), .ref (m 5), .ref (m 6), .ref (m 7), .ref (m 8), .ref (m 9), .ref (m 10), .ref (m 11), .int (nI (v 15)), .int (nI (v 16)), .int (nI (v 17)), .int (nI (v 18)), .long (lN (v 19))], aI Y (m 1) 101 (nF nw)]) rfl rfl rfl rfl ?_
        refine J_istore (lv' := [(5, .int (nI (pc8 cards))), (4, .int (nI (pc8 ((nw (13 + g)) &&& cards)))), (0, .ref (m 0)), (1, .int (nI g)), (2, .int (nI cards)), (3, .int (p2i (Lp)))]) C dX5_asks_52 (by decide) rfl ?_
        refine J_iload C dX5_asks_54 1 rfl ?_
        refine J_iconst C dX5_asks_56 (v := nI 1) (by decide) ?_
        refine J_iaddN C dX5_asks_57 ?_
        refine J_iload C dX5_asks_58 0 rfl ?_
        refine J_icmp_leN (tgt := 67) C dX5_asks_60 (by decide) (by have := pc8_le (nw (13 + g) &&& cards); omega) (by have := pc8_le cards; omega) (fun cq60 => ?_) (fun cq60 => ?_)
        · refine J_iload C dX5_asks_67 1 rfl ?_
          refine J_iconst C dX5_asks_69 (v := nI 1) (by decide) ?_
          refine J_iaddN C dX5_asks_70 ?_
          refine J_istore (lv' := [(4, .int (nI ((pc8 ((nw (13 + g)) &&& cards)) + 1))), (5, .int (nI (pc8 cards))), (0, .ref (m 0)), (1, .int (nI g)), (2, .int (nI cards)), (3, .int (p2i (Lp)))]) C dX5_asks_71 (by decide) rfl ?_
          refine J_aload_n C dX5_asks_73 rfl 2 rfl ?_
          refine J_get (ci := 5) C i5 rfl 0 (by decide) w0 rfl 0 rfl rfl dX5_asks_74 ?_
          refine J_bipush C dX5_asks_77 (v := nI 21) (by decide) ?_
          refine J_iload_n C dX5_asks_79 rfl 3 rfl ?_
          refine J_iaddN C dX5_asks_80 ?_
          refine J_iconst C dX5_asks_81 (v := nI 1) (by decide) ?_
          refine J_iastF (ws' := [oB (m 0) 5 [.ref (m 1), .ref (m 2), .int (nI (v 2)), .int (nI (v 3)), .ref (m 3), .int (nI (v 5)), .int (nI (v 6)), .ref (m 4), .ref (m 5), .ref (m 6), .ref (m 7), .ref (m 8), .ref (m 9), .ref (m 10), .ref (m 11), .int (nI (v 15)), .int (nI (v 16)), .int (nI (v 17)), .int (nI (v 18)), .long (lN (v 19))], aI Y (m 1) 101 (nF (va_up nw (21 + g) 1))]) C 1 rfl (by omega) (by omega) dX5_asks_82 rfl ?_
          refine J_lv (lv' := [(4, .int (nI ((pc8 ((nw (13 + g)) &&& cards)) + 1))), (0, .ref (m 0)), (1, .int (nI g)), (2, .int (nI cards)), (3, .int (p2i (Lp)))]) [0, 2, 3, 4, 5] rfl ?_
          refine J_eq (lv' := [(4, .int (nI (ansN (nw (13 + g)) (nw (9 + g)) cards Lp))), (0, .ref (m 0)), (1, .int (nI g)), (2, .int (nI cards)), (3, .int (p2i (Lp)))]) (st' := []) (ws' := [oB (m 0) 5 [.ref (m 1), .ref (m 2), .int (nI (v 2)), .int (nI (v 3)), .ref (m 3), .int (nI (v 5)), .int (nI (v 6)), .ref (m 4), .ref (m 5), .ref (m 6), .ref (m 7), .ref (m 8), .ref (m 9), .ref (m 10), .ref (m 11), .int (nI (v 15)), .int (nI (v 16)), .int (nI (v 17)), .int (nI (v 18)), .long (lN (v 19))], aI Y (m 1) 101 (nF ((lieN nw g Lp)))]) rfl (by rw [ansN_1 cq17 (by omega)]) rfl (by rw [show lieN nw g Lp = va_up nw (21 + g) 1 from if_pos cq17]) ?_
          exact jn83 (trivial)
        · refine J_iconst C dX5_asks_63 (v := nI 0) (by decide) ?_
          refine J_goto (tgt := 71) C dX5_asks_64 (by decide) ?_
          refine J_istore (lv' := [(4, .int (nI 0)), (5, .int (nI (pc8 cards))), (0, .ref (m 0)), (1, .int (nI g)), (2, .int (nI cards)), (3, .int (p2i (Lp)))]) C dX5_asks_71 (by decide) rfl ?_
          refine J_aload_n C dX5_asks_73 rfl 2 rfl ?_
          refine J_get (ci := 5) C i5 rfl 0 (by decide) w0 rfl 0 rfl rfl dX5_asks_74 ?_
          refine J_bipush C dX5_asks_77 (v := nI 21) (by decide) ?_
          refine J_iload_n C dX5_asks_79 rfl 3 rfl ?_
          refine J_iaddN C dX5_asks_80 ?_
          refine J_iconst C dX5_asks_81 (v := nI 1) (by decide) ?_
          refine J_iastF (ws' := [oB (m 0) 5 [.ref (m 1), .ref (m 2), .int (nI (v 2)), .int (nI (v 3)), .ref (m 3), .int (nI (v 5)), .int (nI (v 6)), .ref (m 4), .ref (m 5), .ref (m 6), .ref (m 7), .ref (m 8), .ref (m 9), .ref (m 10), .ref (m 11), .int (nI (v 15)), .int (nI (v 16)), .int (nI (v 17)), .int (nI (v 18)), .long (lN (v 19))], aI Y (m 1) 101 (nF (va_up nw (21 + g) 1))]) C 1 rfl (by omega) (by omega) dX5_asks_82 rfl ?_
          refine J_lv (lv' := [(4, .int (nI 0)), (0, .ref (m 0)), (1, .int (nI g)), (2, .int (nI cards)), (3, .int (p2i (Lp)))]) [0, 2, 3, 4, 5] rfl ?_
          refine J_eq (lv' := [(4, .int (nI (ansN (nw (13 + g)) (nw (9 + g)) cards Lp))), (0, .ref (m 0)), (1, .int (nI g)), (2, .int (nI cards)), (3, .int (p2i (Lp)))]) (st' := []) (ws' := [oB (m 0) 5 [.ref (m 1), .ref (m 2), .int (nI (v 2)), .int (nI (v 3)), .ref (m 3), .int (nI (v 5)), .int (nI (v 6)), .ref (m 4), .ref (m 5), .ref (m 6), .ref (m 7), .ref (m 8), .ref (m 9), .ref (m 10), .ref (m 11), .int (nI (v 15)), .int (nI (v 16)), .int (nI (v 17)), .int (nI (v 18)), .long (lN (v 19))], aI Y (m 1) 101 (nF ((lieN nw g Lp)))]) rfl (by rw [ansN_0 cq17 (Or.inr cq60)]) rfl (by rw [show lieN nw g Lp = va_up nw (21 + g) 1 from if_pos cq17]) ?_
          exact jn83 (trivial)
      · refine J_aload_n C dX5_asks_36 rfl 1 rfl ?_
        refine J_get (ci := 5) C i5 rfl 0 (by decide) w0 rfl 0 rfl rfl dX5_asks_37 ?_
        refine J_bipush C dX5_asks_40 (v := nI 9) (by decide) ?_
        refine J_iload_n C dX5_asks_42 rfl 2 rfl ?_
        refine J_iaddN C dX5_asks_43 ?_
        refine J_ialdF C 1 rfl (by omega) (by omega) dX5_asks_44 ?_
        refine J_goto (tgt := 52) C dX5_asks_45 (by decide) ?_
        refine J_istore (lv' := [(5, .int (nI (nw (9 + g)))), (4, .int (nI (pc8 ((nw (13 + g)) &&& cards)))), (0, .ref (m 0)), (1, .int (nI g)), (2, .int (nI cards)), (3, .int (p2i (Lp)))]) C dX5_asks_52 (by decide) rfl ?_
        refine J_iload C dX5_asks_54 1 rfl ?_
        refine J_iconst C dX5_asks_56 (v := nI 1) (by decide) ?_
        refine J_iaddN C dX5_asks_57 ?_
        refine J_iload C dX5_asks_58 0 rfl ?_
        refine J_icmp_leN (tgt := 67) C dX5_asks_60 (by decide) (by have := pc8_le (nw (13 + g) &&& cards); omega) (by have := pc8_le cards; omega) (fun cq60 => ?_) (fun cq60 => ?_)
        · refine J_iload C dX5_asks_67 1 rfl ?_
          refine J_iconst C dX5_asks_69 (v := nI 1) (by decide) ?_
          refine J_iaddN C dX5_asks_70 ?_
          refine J_istore (lv' := [(4, .int (nI ((pc8 ((nw (13 + g)) &&& cards)) + 1))), (5, .int (nI (nw (9 + g)))), (0, .ref (m 0)), (1, .int (nI g)), (2, .int (nI cards)), (3, .int (p2i (Lp)))]) C dX5_asks_71 (by decide) rfl ?_
          refine J_aload_n C dX5_asks_73 rfl 2 rfl ?_
          refine J_get (ci := 5) C i5 rfl 0 (by decide) w0 rfl 0 rfl rfl dX5_asks_74 ?_
          refine J_bipush C dX5_asks_77 (v := nI 21) (by decide) ?_
          refine J_iload_n C dX5_asks_79 rfl 3 rfl ?_
          refine J_iaddN C dX5_asks_80 ?_
          refine J_iconst C dX5_asks_81 (v := nI 1) (by decide) ?_
          refine J_iastF (ws' := [oB (m 0) 5 [.ref (m 1), .ref (m 2), .int (nI (v 2)), .int (nI (v 3)), .ref (m 3), .int (nI (v 5)), .int (nI (v 6)), .ref (m 4), .ref (m 5), .ref (m 6), .ref (m 7), .ref (m 8), .ref (m 9), .ref (m 10), .ref (m 11), .int (nI (v 15)), .int (nI (v 16)), .int (nI (v 17)), .int (nI (v 18)), .long (lN (v 19))], aI Y (m 1) 101 (nF (va_up nw (21 + g) 1))]) C 1 rfl (by omega) (by omega) dX5_asks_82 rfl ?_
          refine J_lv (lv' := [(4, .int (nI ((pc8 ((nw (13 + g)) &&& cards)) + 1))), (0, .ref (m 0)), (1, .int (nI g)), (2, .int (nI cards)), (3, .int (p2i (Lp)))]) [0, 2, 3, 4, 5] rfl ?_
          refine J_eq (lv' := [(4, .int (nI (ansN (nw (13 + g)) (nw (9 + g)) cards Lp))), (0, .ref (m 0)), (1, .int (nI g)), (2, .int (nI cards)), (3, .int (p2i (Lp)))]) (st' := []) (ws' := [oB (m 0) 5 [.ref (m 1), .ref (m 2), .int (nI (v 2)), .int (nI (v 3)), .ref (m 3), .int (nI (v 5)), .int (nI (v 6)), .ref (m 4), .ref (m 5), .ref (m 6), .ref (m 7), .ref (m 8), .ref (m 9), .ref (m 10), .ref (m 11), .int (nI (v 15)), .int (nI (v 16)), .int (nI (v 17)), .int (nI (v 18)), .long (lN (v 19))], aI Y (m 1) 101 (nF ((lieN nw g Lp)))]) rfl (by rw [ansN_1 cq17 (by omega)]) rfl (by rw [show lieN nw g Lp = va_up nw (21 + g) 1 from if_pos cq17]) ?_
          exact jn83 (trivial)
        · refine J_iconst C dX5_asks_63 (v := nI 0) (by decide) ?_
          refine J_goto (tgt := 71) C dX5_asks_64 (by decide) ?_
          refine J_istore (lv' := [(4, .int (nI 0)), (5, .int (nI (nw (9 + g)))), (0, .ref (m 0)), (1, .int (nI g)), (2, .int (nI cards)), (3, .int (p2i (Lp)))]) C dX5_asks_71 (by decide) rfl ?_
          refine J_aload_n C dX5_asks_73 rfl 2 rfl ?_
          refine J_get (ci := 5) C i5 rfl 0 (by decide) w0 rfl 0 rfl rfl dX5_asks_74 ?_
          refine J_bipush C dX5_asks_77 (v := nI 21) (by decide) ?_
          refine J_iload_n C dX5_asks_79 rfl 3 rfl ?_
          refine J_iaddN C dX5_asks_80 ?_
          refine J_iconst C dX5_asks_81 (v := nI 1) (by decide) ?_
          refine J_iastF (ws' := [oB (m 0) 5 [.ref (m 1), .ref (m 2), .int (nI (v 2)), .int (nI (v 3)), .ref (m 3), .int (nI (v 5)), .int (nI (v 6)), .ref (m 4), .ref (m 5), .ref (m 6), .ref (m 7), .ref (m 8), .ref (m 9), .ref (m 10), .ref (m 11), .int (nI (v 15)), .int (nI (v 16)), .int (nI (v 17)), .int (nI (v 18)), .long (lN (v 19))], aI Y (m 1) 101 (nF (va_up nw (21 + g) 1))]) C 1 rfl (by omega) (by omega) dX5_asks_82 rfl ?_
          refine J_lv (lv' := [(4, .int (nI 0)), (0, .ref (m 0)), (1, .int (nI g)), (2, .int (nI cards)), (3, .int (p2i (Lp)))]) [0, 2, 3, 4, 5] rfl ?_
          refine J_eq (lv' := [(4, .int (nI (ansN (nw (13 + g)) (nw (9 + g)) cards Lp))), (0, .ref (m 0)), (1, .int (nI g)), (2, .int (nI cards)), (3, .int (p2i (Lp)))]) (st' := []) (ws' := [oB (m 0) 5 [.ref (m 1), .ref (m 2), .int (nI (v 2)), .int (nI (v 3)), .ref (m 3), .int (nI (v 5)), .int (nI (v 6)), .ref (m 4), .ref (m 5), .ref (m 6), .ref (m 7), .ref (m 8), .ref (m 9), .ref (m 10), .ref (m 11), .int (nI (v 15)), .int (nI (v 16)), .int (nI (v 17)), .int (nI (v 18)), .long (lN (v 19))], aI Y (m 1) 101 (nF ((lieN nw g Lp)))]) rfl (by rw [ansN_0 cq17 (Or.inl cq60)]) rfl (by rw [show lieN nw g Lp = va_up nw (21 + g) 1 from if_pos cq17]) ?_
          exact jn83 (trivial)

set_option maxHeartbeats 4000000 in
set_option maxRecDepth 100000 in
theorem kX5_proves (ll : Launch) (Y : GY) (m : Nat → Nat) (v : Nat → Nat) (nw : Nat → Nat) (g : Nat) (c0 : Nat) (hg : g ≤ 3) (hc : c0 ≤ 7) (hh : nw (13 + g) < 256) : CT ll yX5_proves wsX5_proves { frames := 0, cells := 0, slots := 0, locals := 0 } Y [.ref (m 0), .int (nI g), .int (nI c0)] [oB (m 0) 5 [.ref (m 1), .ref (m 2), .int (nI (v 2)), .int (nI (v 3)), .ref (m 3), .int (nI (v 5)), .int (nI (v 6)), .ref (m 4), .ref (m 5), .ref (m 6), .ref (m 7), .ref (m 8), .ref (m 9), .ref (m 10), .ref (m 11), .int (nI (v 15)), .int (nI (v 16)), .int (nI (v 17)), .int (nI (v 18)), .long (lN (v 19))], aI Y (m 1) 101 (nF nw)] (QI Y (fun (r : Int32) (_ : Unit) => r = p2i (nw (13 + g) / 2 ^ c0 &&& 1 = 1)) (fun _ => [oB (m 0) 5 [.ref (m 1), .ref (m 2), .int (nI (v 2)), .int (nI (v 3)), .ref (m 3), .int (nI (v 5)), .int (nI (v 6)), .ref (m 4), .ref (m 5), .ref (m 6), .ref (m 7), .ref (m 8), .ref (m 9), .ref (m 10), .ref (m 11), .int (nI (v 15)), .int (nI (v 16)), .int (nI (v 17)), .int (nI (v 18)), .long (lN (v 19))], aI Y (m 1) 101 (nF ((prvN nw g c0)))])) 0 0 := by
  refine CT_of (cc := cX5_proves) (maxL := 4) (ret := (some .boolean)) (by decide) rfl (Nat.le_of_ble_eq_true rfl) ?_
  intro pp ee ss mm bl mt cc AA C hr hnm
  have w0 := C.t _ (List.mem_of_getElem? (i := 1) (show wsX5_proves[1]? = some (Cond.fieldLink RX5 7 "SecretDinnerModel" "now" "[I") from rfl))
  have i5 : ∀ w ∈ wsX50, w ∈ wsX5_proves := inPlaces [2, 3, 4, 5, 6, 7, 8, 9, 10, 11, 12, 13, 14, 15, 16, 17, 18, 19, 20, 21] (by decide +kernel)
  refine J_eq (lv' := [(0, .ref (m 0)), (1, .int (nI g)), (2, .int (nI c0))]) (ws' := [oB (m 0) 5 [.ref (m 1), .ref (m 2), .int (nI (v 2)), .int (nI (v 3)), .ref (m 3), .int (nI (v 5)), .int (nI (v 6)), .ref (m 4), .ref (m 5), .ref (m 6), .ref (m 7), .ref (m 8), .ref (m 9), .ref (m 10), .ref (m 11), .int (nI (v 15)), .int (nI (v 16)), .int (nI (v 17)), .int (nI (v 18)), .long (lN (v 19))], aI Y (m 1) 101 (nF nw)]) rfl rfl rfl rfl ?_
  refine J_aload_n C dX5_proves_0 rfl 0 rfl ?_
  refine J_get (ci := 5) C i5 rfl 0 (by decide) w0 rfl 0 rfl rfl dX5_proves_1 ?_
  refine J_bipush C dX5_proves_4 (v := nI 13) (by decide) ?_
  refine J_iload_n C dX5_proves_6 rfl 1 rfl ?_
  refine J_iaddN C dX5_proves_7 ?_
  refine J_ialdF C 1 rfl (by omega) (by omega) dX5_proves_8 ?_
  refine J_iload_n C dX5_proves_9 rfl 2 rfl ?_
  refine J_ishrN C dX5_proves_10 (by omega) (by omega) ?_
  refine J_iconst C dX5_proves_11 (v := nI 1) (by decide) ?_
  refine J_iandN C dX5_proves_12 ?_
  refine J_iconst C dX5_proves_13 (v := nI 1) (by decide) ?_
  refine J_icmp_neN (tgt := 21) C dX5_proves_14 (by decide) (Nat.lt_of_le_of_lt Nat.and_le_right (by decide)) (by decide) (fun cq14 => ?_) (fun cq14 => ?_)
  · refine J_iconst C dX5_proves_21 (v := nI 0) (by decide) ?_
    refine J_top (y := .int (p2i (nw (13 + g) / 2 ^ c0 &&& 1 = 1))) (by rw [p2i_f cq14]) ?_
    refine J_istore_n (lv' := [(3, .int (p2i (nw (13 + g) / 2 ^ c0 &&& 1 = 1))), (0, .ref (m 0)), (1, .int (nI g)), (2, .int (nI c0))]) C dX5_proves_22 rfl (by decide) rfl ?_
    refine J_aload_n C dX5_proves_23 rfl 1 rfl ?_
    refine J_get (ci := 5) C i5 rfl 0 (by decide) w0 rfl 0 rfl rfl dX5_proves_24 ?_
    refine J_iload_n C dX5_proves_27 rfl 0 rfl ?_
    refine J_if_eqP (tgt := 38) C dX5_proves_28 (by decide) (fun cq28 => ?_) (fun cq28 => ?_)
    · refine J_bipush C dX5_proves_38 (v := nI 37) (by decide) ?_
      refine J_iload_n C dX5_proves_40 rfl 2 rfl ?_
      refine J_iaddN C dX5_proves_41 ?_
      refine J_dup2 C dX5_proves_42 rfl rfl ?_
      refine J_ialdF C 1 rfl (by omega) (by omega) dX5_proves_43 ?_
      refine J_iconst C dX5_proves_44 (v := nI 1) (by decide) ?_
      refine J_iload_n C dX5_proves_45 rfl 3 rfl ?_
      refine J_ishlN C dX5_proves_46 (by omega) (one_shl hc) ?_
      refine J_iorN C dX5_proves_47 ?_
      refine J_iastF (ws' := [oB (m 0) 5 [.ref (m 1), .ref (m 2), .int (nI (v 2)), .int (nI (v 3)), .ref (m 3), .int (nI (v 5)), .int (nI (v 6)), .ref (m 4), .ref (m 5), .ref (m 6), .ref (m 7), .ref (m 8), .ref (m 9), .ref (m 10), .ref (m 11), .int (nI (v 15)), .int (nI (v 16)), .int (nI (v 17)), .int (nI (v 18)), .long (lN (v 19))], aI Y (m 1) 101 (nF (va_up nw (37 + g) ((nw (37 + g)) ||| (1 * 2 ^ c0))))]) C 1 rfl (by omega) (by omega) dX5_proves_48 rfl ?_
      refine J_aload_n C dX5_proves_49 rfl 1 rfl ?_
      refine J_get (ci := 5) C i5 rfl 0 (by decide) w0 rfl 0 rfl rfl dX5_proves_50 ?_
      refine J_bipush C dX5_proves_53 (v := nI 29) (by decide) ?_
      refine J_iload_n C dX5_proves_55 rfl 2 rfl ?_
      refine J_iaddN C dX5_proves_56 ?_
      refine J_dup2 C dX5_proves_57 rfl rfl ?_
      refine J_ialdF C 1 rfl (by omega) (by omega) dX5_proves_58 ?_
      refine J_iconst C dX5_proves_59 (v := nI 1) (by decide) ?_
      refine J_iaddN C dX5_proves_60 ?_
      refine J_iastF (ws' := [oB (m 0) 5 [.ref (m 1), .ref (m 2), .int (nI (v 2)), .int (nI (v 3)), .ref (m 3), .int (nI (v 5)), .int (nI (v 6)), .ref (m 4), .ref (m 5), .ref (m 6), .ref (m 7), .ref (m 8), .ref (m 9), .ref (m 10), .ref (m 11), .int (nI (v 15)), .int (nI (v 16)), .int (nI (v 17)), .int (nI (v 18)), .long (lN (v 19))], aI Y (m 1) 101 (nF (va_up (va_up nw (37 + g) ((nw (37 + g)) ||| (1 * 2 ^ c0))) (29 + g) (((va_up nw (37 + g) ((nw (37 + g)) ||| (1 * 2 ^ c0))) (29 + g)) + 1)))]) C 1 rfl (by omega) (by omega) dX5_proves_61 rfl ?_
      refine J_aload_n C dX5_proves_62 rfl 1 rfl ?_
      refine J_get (ci := 5) C i5 rfl 0 (by decide) w0 rfl 0 rfl rfl dX5_proves_63 ?_
      refine J_bipush C dX5_proves_66 (v := nI 8) (by decide) ?_
      refine J_dup2 C dX5_proves_68 rfl rfl ?_
      refine J_ialdF C 1 rfl (by omega) (by omega) dX5_proves_69 ?_
      refine J_iconst C dX5_proves_70 (v := nI 1) (by decide) ?_
      refine J_iaddN C dX5_proves_71 ?_
      refine J_iastF (ws' := [oB (m 0) 5 [.ref (m 1), .ref (m 2), .int (nI (v 2)), .int (nI (v 3)), .ref (m 3), .int (nI (v 5)), .int (nI (v 6)), .ref (m 4), .ref (m 5), .ref (m 6), .ref (m 7), .ref (m 8), .ref (m 9), .ref (m 10), .ref (m 11), .int (nI (v 15)), .int (nI (v 16)), .int (nI (v 17)), .int (nI (v 18)), .long (lN (v 19))], aI Y (m 1) 101 (nF (va_up (va_up (va_up nw (37 + g) ((nw (37 + g)) ||| (1 * 2 ^ c0))) (29 + g) (((va_up nw (37 + g) ((nw (37 + g)) ||| (1 * 2 ^ c0))) (29 + g)) + 1)) 8 (((va_up (va_up nw (37 + g) ((nw (37 + g)) ||| (1 * 2 ^ c0))) (29 + g) (((va_up nw (37 + g) ((nw (37 + g)) ||| (1 * 2 ^ c0))) (29 + g)) + 1)) 8) + 1)))]) C 1 rfl (by omega) (by omega) dX5_proves_72 rfl ?_
      refine J_iload_n C dX5_proves_73 rfl 0 rfl ?_
      exact J_zret C hr p2i_nar dX5_proves_74 (()) (rfl) (by rw [prvN_f cq28]; rfl)
    · refine J_bipush C dX5_proves_31 (v := nI 33) (by decide) ?_
      refine J_iload_n C dX5_proves_33 rfl 2 rfl ?_
      refine J_iaddN C dX5_proves_34 ?_
      refine J_goto (tgt := 42) C dX5_proves_35 (by decide) ?_
      refine J_dup2 C dX5_proves_42 rfl rfl ?_
      refine J_ialdF C 1 rfl (by omega) (by omega) dX5_proves_43 ?_
      refine J_iconst C dX5_proves_44 (v := nI 1) (by decide) ?_
      refine J_iload_n C dX5_proves_45 rfl 3 rfl ?_
      refine J_ishlN C dX5_proves_46 (by omega) (one_shl hc) ?_
      refine J_iorN C dX5_proves_47 ?_
      refine J_iastF (ws' := [oB (m 0) 5 [.ref (m 1), .ref (m 2), .int (nI (v 2)), .int (nI (v 3)), .ref (m 3), .int (nI (v 5)), .int (nI (v 6)), .ref (m 4), .ref (m 5), .ref (m 6), .ref (m 7), .ref (m 8), .ref (m 9), .ref (m 10), .ref (m 11), .int (nI (v 15)), .int (nI (v 16)), .int (nI (v 17)), .int (nI (v 18)), .long (lN (v 19))], aI Y (m 1) 101 (nF (va_up nw (33 + g) ((nw (33 + g)) ||| (1 * 2 ^ c0))))]) C 1 rfl (by omega) (by omega) dX5_proves_48 rfl ?_
      refine J_aload_n C dX5_proves_49 rfl 1 rfl ?_
      refine J_get (ci := 5) C i5 rfl 0 (by decide) w0 rfl 0 rfl rfl dX5_proves_50 ?_
      refine J_bipush C dX5_proves_53 (v := nI 29) (by decide) ?_
      refine J_iload_n C dX5_proves_55 rfl 2 rfl ?_
      refine J_iaddN C dX5_proves_56 ?_
      refine J_dup2 C dX5_proves_57 rfl rfl ?_
      refine J_ialdF C 1 rfl (by omega) (by omega) dX5_proves_58 ?_
      refine J_iconst C dX5_proves_59 (v := nI 1) (by decide) ?_
      refine J_iaddN C dX5_proves_60 ?_
      refine J_iastF (ws' := [oB (m 0) 5 [.ref (m 1), .ref (m 2), .int (nI (v 2)), .int (nI (v 3)), .ref (m 3), .int (nI (v 5)), .int (nI (v 6)), .ref (m 4), .ref (m 5), .ref (m 6), .ref (m 7), .ref (m 8), .ref (m 9), .ref (m 10), .ref (m 11), .int (nI (v 15)), .int (nI (v 16)), .int (nI (v 17)), .int (nI (v 18)), .long (lN (v 19))], aI Y (m 1) 101 (nF (va_up (va_up nw (33 + g) ((nw (33 + g)) ||| (1 * 2 ^ c0))) (29 + g) (((va_up nw (33 + g) ((nw (33 + g)) ||| (1 * 2 ^ c0))) (29 + g)) + 1)))]) C 1 rfl (by omega) (by omega) dX5_proves_61 rfl ?_
      refine J_aload_n C dX5_proves_62 rfl 1 rfl ?_
      refine J_get (ci := 5) C i5 rfl 0 (by decide) w0 rfl 0 rfl rfl dX5_proves_63 ?_
      refine J_bipush C dX5_proves_66 (v := nI 8) (by decide) ?_
      refine J_dup2 C dX5_proves_68 rfl rfl ?_
      refine J_ialdF C 1 rfl (by omega) (by omega) dX5_proves_69 ?_
      refine J_iconst C dX5_proves_70 (v := nI 1) (by decide) ?_
      refine J_iaddN C dX5_proves_71 ?_
      refine J_iastF (ws' := [oB (m 0) 5 [.ref (m 1), .ref (m 2), .int (nI (v 2)), .int (nI (v 3)), .ref (m 3), .int (nI (v 5)), .int (nI (v 6)), .ref (m 4), .ref (m 5), .ref (m 6), .ref (m 7), .ref (m 8), .ref (m 9), .ref (m 10), .ref (m 11), .int (nI (v 15)), .int (nI (v 16)), .int (nI (v 17)), .int (nI (v 18)), .long (lN (v 19))], aI Y (m 1) 101 (nF (va_up (va_up (va_up nw (33 + g) ((nw (33 + g)) ||| (1 * 2 ^ c0))) (29 + g) (((va_up nw (33 + g) ((nw (33 + g)) ||| (1 * 2 ^ c0))) (29 + g)) + 1)) 8 (((va_up (va_up nw (33 + g) ((nw (33 + g)) ||| (1 * 2 ^ c0))) (29 + g) (((va_up nw (33 + g) ((nw (33 + g)) ||| (1 * 2 ^ c0))) (29 + g)) + 1)) 8) + 1)))]) C 1 rfl (by omega) (by omega) dX5_proves_72 rfl ?_
      refine J_iload_n C dX5_proves_73 rfl 0 rfl ?_
      exact J_zret C hr p2i_nar dX5_proves_74 (()) (rfl) (by rw [prvN_t cq28]; rfl)
  · refine J_iconst C dX5_proves_17 (v := nI 1) (by decide) ?_
    refine J_goto (tgt := 22) C dX5_proves_18 (by decide) ?_
    refine J_top (y := .int (p2i (nw (13 + g) / 2 ^ c0 &&& 1 = 1))) (by rw [p2i_t cq14]) ?_
    refine J_istore_n (lv' := [(3, .int (p2i (nw (13 + g) / 2 ^ c0 &&& 1 = 1))), (0, .ref (m 0)), (1, .int (nI g)), (2, .int (nI c0))]) C dX5_proves_22 rfl (by decide) rfl ?_
    refine J_aload_n C dX5_proves_23 rfl 1 rfl ?_
    refine J_get (ci := 5) C i5 rfl 0 (by decide) w0 rfl 0 rfl rfl dX5_proves_24 ?_
    refine J_iload_n C dX5_proves_27 rfl 0 rfl ?_
    refine J_if_eqP (tgt := 38) C dX5_proves_28 (by decide) (fun cq28 => ?_) (fun cq28 => ?_)
    · refine J_bipush C dX5_proves_38 (v := nI 37) (by decide) ?_
      refine J_iload_n C dX5_proves_40 rfl 2 rfl ?_
      refine J_iaddN C dX5_proves_41 ?_
      refine J_dup2 C dX5_proves_42 rfl rfl ?_
      refine J_ialdF C 1 rfl (by omega) (by omega) dX5_proves_43 ?_
      refine J_iconst C dX5_proves_44 (v := nI 1) (by decide) ?_
      refine J_iload_n C dX5_proves_45 rfl 3 rfl ?_
      refine J_ishlN C dX5_proves_46 (by omega) (one_shl hc) ?_
      refine J_iorN C dX5_proves_47 ?_
      refine J_iastF (ws' := [oB (m 0) 5 [.ref (m 1), .ref (m 2), .int (nI (v 2)), .int (nI (v 3)), .ref (m 3), .int (nI (v 5)), .int (nI (v 6)), .ref (m 4), .ref (m 5), .ref (m 6), .ref (m 7), .ref (m 8), .ref (m 9), .ref (m 10), .ref (m 11), .int (nI (v 15)), .int (nI (v 16)), .int (nI (v 17)), .int (nI (v 18)), .long (lN (v 19))], aI Y (m 1) 101 (nF (va_up nw (37 + g) ((nw (37 + g)) ||| (1 * 2 ^ c0))))]) C 1 rfl (by omega) (by omega) dX5_proves_48 rfl ?_
      refine J_aload_n C dX5_proves_49 rfl 1 rfl ?_
      refine J_get (ci := 5) C i5 rfl 0 (by decide) w0 rfl 0 rfl rfl dX5_proves_50 ?_
      refine J_bipush C dX5_proves_53 (v := nI 29) (by decide) ?_
      refine J_iload_n C dX5_proves_55 rfl 2 rfl ?_
      refine J_iaddN C dX5_proves_56 ?_
      refine J_dup2 C dX5_proves_57 rfl rfl ?_
      refine J_ialdF C 1 rfl (by omega) (by omega) dX5_proves_58 ?_
      refine J_iconst C dX5_proves_59 (v := nI 1) (by decide) ?_
      refine J_iaddN C dX5_proves_60 ?_
      refine J_iastF (ws' := [oB (m 0) 5 [.ref (m 1), .ref (m 2), .int (nI (v 2)), .int (nI (v 3)), .ref (m 3), .int (nI (v 5)), .int (nI (v 6)), .ref (m 4), .ref (m 5), .ref (m 6), .ref (m 7), .ref (m 8), .ref (m 9), .ref (m 10), .ref (m 11), .int (nI (v 15)), .int (nI (v 16)), .int (nI (v 17)), .int (nI (v 18)), .long (lN (v 19))], aI Y (m 1) 101 (nF (va_up (va_up nw (37 + g) ((nw (37 + g)) ||| (1 * 2 ^ c0))) (29 + g) (((va_up nw (37 + g) ((nw (37 + g)) ||| (1 * 2 ^ c0))) (29 + g)) + 1)))]) C 1 rfl (by omega) (by omega) dX5_proves_61 rfl ?_
      refine J_aload_n C dX5_proves_62 rfl 1 rfl ?_
      refine J_get (ci := 5) C i5 rfl 0 (by decide) w0 rfl 0 rfl rfl dX5_proves_63 ?_
      refine J_bipush C dX5_proves_66 (v := nI 8) (by decide) ?_
      refine J_dup2 C dX5_proves_68 rfl rfl ?_
      refine J_ialdF C 1 rfl (by omega) (by omega) dX5_proves_69 ?_
      refine J_iconst C dX5_proves_70 (v := nI 1) (by decide) ?_
      refine J_iaddN C dX5_proves_71 ?_
      refine J_iastF (ws' := [oB (m 0) 5 [.ref (m 1), .ref (m 2), .int (nI (v 2)), .int (nI (v 3)), .ref (m 3), .int (nI (v 5)), .int (nI (v 6)), .ref (m 4), .ref (m 5), .ref (m 6), .ref (m 7), .ref (m 8), .ref (m 9), .ref (m 10), .ref (m 11), .int (nI (v 15)), .int (nI (v 16)), .int (nI (v 17)), .int (nI (v 18)), .long (lN (v 19))], aI Y (m 1) 101 (nF (va_up (va_up (va_up nw (37 + g) ((nw (37 + g)) ||| (1 * 2 ^ c0))) (29 + g) (((va_up nw (37 + g) ((nw (37 + g)) ||| (1 * 2 ^ c0))) (29 + g)) + 1)) 8 (((va_up (va_up nw (37 + g) ((nw (37 + g)) ||| (1 * 2 ^ c0))) (29 + g) (((va_up nw (37 + g) ((nw (37 + g)) ||| (1 * 2 ^ c0))) (29 + g)) + 1)) 8) + 1)))]) C 1 rfl (by omega) (by omega) dX5_proves_72 rfl ?_
      refine J_iload_n C dX5_proves_73 rfl 0 rfl ?_
      exact J_zret C hr p2i_nar dX5_proves_74 (()) (rfl) (by rw [prvN_f cq28]; rfl)
    · refine J_bipush C dX5_proves_31 (v := nI 33) (by decide) ?_
      refine J_iload_n C dX5_proves_33 rfl 2 rfl ?_
      refine J_iaddN C dX5_proves_34 ?_
      refine J_goto (tgt := 42) C dX5_proves_35 (by decide) ?_
      refine J_dup2 C dX5_proves_42 rfl rfl ?_
      refine J_ialdF C 1 rfl (by omega) (by omega) dX5_proves_43 ?_
      refine J_iconst C dX5_proves_44 (v := nI 1) (by decide) ?_
      refine J_iload_n C dX5_proves_45 rfl 3 rfl ?_
      refine J_ishlN C dX5_proves_46 (by omega) (one_shl hc) ?_
      refine J_iorN C dX5_proves_47 ?_
      refine J_iastF (ws' := [oB (m 0) 5 [.ref (m 1), .ref (m 2), .int (nI (v 2)), .int (nI (v 3)), .ref (m 3), .int (nI (v 5)), .int (nI (v 6)), .ref (m 4), .ref (m 5), .ref (m 6), .ref (m 7), .ref (m 8), .ref (m 9), .ref (m 10), .ref (m 11), .int (nI (v 15)), .int (nI (v 16)), .int (nI (v 17)), .int (nI (v 18)), .long (lN (v 19))], aI Y (m 1) 101 (nF (va_up nw (33 + g) ((nw (33 + g)) ||| (1 * 2 ^ c0))))]) C 1 rfl (by omega) (by omega) dX5_proves_48 rfl ?_
      refine J_aload_n C dX5_proves_49 rfl 1 rfl ?_
      refine J_get (ci := 5) C i5 rfl 0 (by decide) w0 rfl 0 rfl rfl dX5_proves_50 ?_
      refine J_bipush C dX5_proves_53 (v := nI 29) (by decide) ?_
      refine J_iload_n C dX5_proves_55 rfl 2 rfl ?_
      refine J_iaddN C dX5_proves_56 ?_
      refine J_dup2 C dX5_proves_57 rfl rfl ?_
      refine J_ialdF C 1 rfl (by omega) (by omega) dX5_proves_58 ?_
      refine J_iconst C dX5_proves_59 (v := nI 1) (by decide) ?_
      refine J_iaddN C dX5_proves_60 ?_
      refine J_iastF (ws' := [oB (m 0) 5 [.ref (m 1), .ref (m 2), .int (nI (v 2)), .int (nI (v 3)), .ref (m 3), .int (nI (v 5)), .int (nI (v 6)), .ref (m 4), .ref (m 5), .ref (m 6), .ref (m 7), .ref (m 8), .ref (m 9), .ref (m 10), .ref (m 11), .int (nI (v 15)), .int (nI (v 16)), .int (nI (v 17)), .int (nI (v 18)), .long (lN (v 19))], aI Y (m 1) 101 (nF (va_up (va_up nw (33 + g) ((nw (33 + g)) ||| (1 * 2 ^ c0))) (29 + g) (((va_up nw (33 + g) ((nw (33 + g)) ||| (1 * 2 ^ c0))) (29 + g)) + 1)))]) C 1 rfl (by omega) (by omega) dX5_proves_61 rfl ?_
      refine J_aload_n C dX5_proves_62 rfl 1 rfl ?_
      refine J_get (ci := 5) C i5 rfl 0 (by decide) w0 rfl 0 rfl rfl dX5_proves_63 ?_
      refine J_bipush C dX5_proves_66 (v := nI 8) (by decide) ?_
      refine J_dup2 C dX5_proves_68 rfl rfl ?_
      refine J_ialdF C 1 rfl (by omega) (by omega) dX5_proves_69 ?_
      refine J_iconst C dX5_proves_70 (v := nI 1) (by decide) ?_
      refine J_iaddN C dX5_proves_71 ?_
      refine J_iastF (ws' := [oB (m 0) 5 [.ref (m 1), .ref (m 2), .int (nI (v 2)), .int (nI (v 3)), .ref (m 3), .int (nI (v 5)), .int (nI (v 6)), .ref (m 4), .ref (m 5), .ref (m 6), .ref (m 7), .ref (m 8), .ref (m 9), .ref (m 10), .ref (m 11), .int (nI (v 15)), .int (nI (v 16)), .int (nI (v 17)), .int (nI (v 18)), .long (lN (v 19))], aI Y (m 1) 101 (nF (va_up (va_up (va_up nw (33 + g) ((nw (33 + g)) ||| (1 * 2 ^ c0))) (29 + g) (((va_up nw (33 + g) ((nw (33 + g)) ||| (1 * 2 ^ c0))) (29 + g)) + 1)) 8 (((va_up (va_up nw (33 + g) ((nw (33 + g)) ||| (1 * 2 ^ c0))) (29 + g) (((va_up nw (33 + g) ((nw (33 + g)) ||| (1 * 2 ^ c0))) (29 + g)) + 1)) 8) + 1)))]) C 1 rfl (by omega) (by omega) dX5_proves_72 rfl ?_
      refine J_iload_n C dX5_proves_73 rfl 0 rfl ?_
      exact J_zret C hr p2i_nar dX5_proves_74 (()) (rfl) (by rw [prvN_t cq28]; rfl)

set_option maxHeartbeats 4000000 in
set_option maxRecDepth 100000 in
theorem kX5_saves (ll : Launch) (Y : GY) (m : Nat → Nat) (v : Nat → Nat) (nw : Nat → Nat) (ps : Nat → Nat) (h2 : v 2 ≤ 4) : CT ll yX5_saves wsX5_saves { frames := 0, cells := 0, slots := 0, locals := 0 } Y [.ref (m 0)] [oB (m 0) 5 [.ref (m 1), .ref (m 2), .int (nI (v 2)), .int (nI (v 3)), .ref (m 3), .int (nI (v 5)), .int (nI (v 6)), .ref (m 4), .ref (m 5), .ref (m 6), .ref (m 7), .ref (m 8), .ref (m 9), .ref (m 10), .ref (m 11), .int (nI (v 15)), .int (nI (v 16)), .int (nI (v 17)), .int (nI (v 18)), .long (lN (v 19))], aI Y (m 1) 101 (nF nw), aI Y (m 2) 404 (nF ps)] (QV Y (fun (_ : Unit) => True) (fun _ => [oB (m 0) 5 [.ref (m 1), .ref (m 2), .int (nI (((va_up v 2 (svK (v 2) + 1))) 2)), .int (nI (((va_up v 2 (svK (v 2) + 1))) 3)), .ref (m 3), .int (nI (((va_up v 2 (svK (v 2) + 1))) 5)), .int (nI (((va_up v 2 (svK (v 2) + 1))) 6)), .ref (m 4), .ref (m 5), .ref (m 6), .ref (m 7), .ref (m 8), .ref (m 9), .ref (m 10), .ref (m 11), .int (nI (((va_up v 2 (svK (v 2) + 1))) 15)), .int (nI (((va_up v 2 (svK (v 2) + 1))) 16)), .int (nI (((va_up v 2 (svK (v 2) + 1))) 17)), .int (nI (((va_up v 2 (svK (v 2) + 1))) 18)), .long (lN (((va_up v 2 (svK (v 2) + 1))) 19))], aI Y (m 1) 101 (nF nw), aI Y (m 2) 404 (nF ((svR (v 2) nw ps)))])) 0 0 := by
  refine CT_of (cc := cX5_saves) (maxL := 2) (ret := none) (by decide) rfl (Nat.le_of_ble_eq_true rfl) ?_
  intro pp ee ss mm bl mt cc AA C hr hnm
  have w0 := C.t _ (List.mem_of_getElem? (i := 1) (show wsX5_saves[1]? = some (Cond.fieldLink RX5 47 "SecretDinnerModel" "saved" "I") from rfl))
  have w1 := C.t _ (List.mem_of_getElem? (i := 2) (show wsX5_saves[2]? = some (Cond.fieldLink RX5 13 "SecretDinnerModel" "past" "[I") from rfl))
  have w2 := C.t _ (List.mem_of_getElem? (i := 3) (show wsX5_saves[3]? = some (Cond.fieldLink RX5 7 "SecretDinnerModel" "now" "[I") from rfl))
  have i5 : ∀ w ∈ wsX50, w ∈ wsX5_saves := inPlaces [4, 5, 6, 7, 8, 9, 10, 11, 12, 13, 14, 15, 16, 17, 18, 19, 20, 21, 22, 23] (by decide +kernel)
  refine J_eq (lv' := [(0, .ref (m 0))]) (ws' := [oB (m 0) 5 [.ref (m 1), .ref (m 2), .int (nI (v 2)), .int (nI (v 3)), .ref (m 3), .int (nI (v 5)), .int (nI (v 6)), .ref (m 4), .ref (m 5), .ref (m 6), .ref (m 7), .ref (m 8), .ref (m 9), .ref (m 10), .ref (m 11), .int (nI (v 15)), .int (nI (v 16)), .int (nI (v 17)), .int (nI (v 18)), .long (lN (v 19))], aI Y (m 1) 101 (nF nw), aI Y (m 2) 404 (nF ps)]) rfl rfl rfl rfl ?_
  refine J_aload_n C dX5_saves_0 rfl 0 rfl ?_
  refine J_get (ci := 5) C i5 rfl 2 (by decide) w0 rfl 0 rfl rfl dX5_saves_1 ?_
  refine J_iconst C dX5_saves_4 (v := nI 4) (by decide) ?_
  refine J_cut (pc' := 48) (lv' := [(0, .ref (m 0))]) (st' := []) (ws' := [oB (m 0) 5 [.ref (m 1), .ref (m 2), .int (nI (svK (v 2))), .int (nI (v 3)), .ref (m 3), .int (nI (v 5)), .int (nI (v 6)), .ref (m 4), .ref (m 5), .ref (m 6), .ref (m 7), .ref (m 8), .ref (m 9), .ref (m 10), .ref (m 11), .int (nI (v 15)), .int (nI (v 16)), .int (nI (v 17)), .int (nI (v 18)), .long (lN (v 19))], aI Y (m 1) 101 (nF nw), aI Y (m 2) 404 (nF ((svQ (v 2) ps)))]) (True) (fun _hT => ?_) (fun jn48 => ?_)
  · have hk : svK (v 2) ≤ 3 := by unfold svK; split <;> omega
    refine J_iconst C dX5_saves_48 (v := nI 0) (by decide) ?_
    refine J_istore_n (lv' := [(1, .int (nI 0)), (0, .ref (m 0))]) C dX5_saves_49 rfl (by decide) rfl ?_
    refine J_lv (lv' := [(0, .ref (m 0)), (1, .int (nI 0))]) [1, 0] rfl ?_
    refine J_loop (σ := Nat) (I := fun (k0 : Nat) => (k0 ≤ 101)) (μ := fun (k0 : Nat) => 101 - k0) (lvf := fun (k0 : Nat) => [(0, .ref (m 0)), (1, .int (nI k0))]) (stf := fun (k0 : Nat) => []) (wsf := fun (k0 : Nat) => [oB (m 0) 5 [.ref (m 1), .ref (m 2), .int (nI (svK (v 2))), .int (nI (v 3)), .ref (m 3), .int (nI (v 5)), .int (nI (v 6)), .ref (m 4), .ref (m 5), .ref (m 6), .ref (m 7), .ref (m 8), .ref (m 9), .ref (m 10), .ref (m 11), .int (nI (v 15)), .int (nI (v 16)), .int (nI (v 17)), .int (nI (v 18)), .long (lN (v 19))], aI Y (m 1) 101 (nF nw), aI Y (m 2) 404 (nF ((cpP (svQ (v 2) ps) nw (101 * svK (v 2)) k0)))]) ?_ (0) (by omega) (rfl) rfl (by rw [cpP_0])
    rintro k0 hi ih50
    refine J_eq (lv' := [(0, .ref (m 0)), (1, .int (nI k0))]) (st' := []) (ws' := [oB (m 0) 5 [.ref (m 1), .ref (m 2), .int (nI (svK (v 2))), .int (nI (v 3)), .ref (m 3), .int (nI (v 5)), .int (nI (v 6)), .ref (m 4), .ref (m 5), .ref (m 6), .ref (m 7), .ref (m 8), .ref (m 9), .ref (m 10), .ref (m 11), .int (nI (v 15)), .int (nI (v 16)), .int (nI (v 17)), .int (nI (v 18)), .long (lN (v 19))], aI Y (m 1) 101 (nF nw), aI Y (m 2) 404 (nF ((cpP (svQ (v 2) ps) nw (101 * svK (v 2)) k0)))]) rfl rfl rfl rfl ?_
    refine J_iload_n C dX5_saves_50 rfl 1 rfl ?_
    refine J_bipush C dX5_saves_51 (v := nI 101) (by decide) ?_
    refine J_icmp_geN (tgt := 82) C dX5_saves_53 (by decide) (by omega) (by omega) (fun cq53 => ?_) (fun cq53 => ?_)
    · refine J_aload_n C dX5_saves_82 rfl 0 rfl ?_
      refine J_dup C dX5_saves_83 rfl ?_
      refine J_get (ci := 5) C i5 rfl 2 (by decide) w0 rfl 0 rfl rfl dX5_saves_84 ?_
      refine J_iconst C dX5_saves_87 (v := nI 1) (by decide) ?_
      refine J_iaddN C dX5_saves_88 ?_
      refine J_put (ci := 5) (ty := .int) (ws' := [oB (m 0) 5 [.ref (m 1), .ref (m 2), .int (nI ((svK (v 2)) + 1)), .int (nI (v 3)), .ref (m 3), .int (nI (v 5)), .int (nI (v 6)), .ref (m 4), .ref (m 5), .ref (m 6), .ref (m 7), .ref (m 8), .ref (m 9), .ref (m 10), .ref (m 11), .int (nI (v 15)), .int (nI (v 16)), .int (nI (v 17)), .int (nI (v 18)), .long (lN (v 19))], aI Y (m 1) 101 (nF nw), aI Y (m 2) 404 (nF ((cpP (svQ (v 2) ps) nw (101 * svK (v 2)) k0)))]) C i5 tyX5 tyX5_ok nmX5 rfl 2 (by decide) w0 rfl rfl (by decide +kernel) (rfl) (rfl) 0 rfl (Nat.le_of_ble_eq_true rfl) dX5_saves_89 rfl ?_
      exact J_vret C hr dX5_saves_92 (()) (trivial) (by rw [show k0 = 101 by omega]; rfl)
    · refine J_aload_n C dX5_saves_56 rfl 0 rfl ?_
      refine J_get (ci := 5) C i5 rfl 1 (by decide) w1 rfl 0 rfl rfl dX5_saves_57 ?_
      refine J_bipush C dX5_saves_60 (v := nI 101) (by decide) ?_
      refine J_aload_n C dX5_saves_62 rfl 0 rfl ?_
      refine J_get (ci := 5) C i5 rfl 2 (by decide) w0 rfl 0 rfl rfl dX5_saves_63 ?_
      refine J_imulN C dX5_saves_66 ?_
      refine J_iload_n C dX5_saves_67 rfl 1 rfl ?_
      refine J_iaddN C dX5_saves_68 ?_
      refine J_aload_n C dX5_saves_69 rfl 0 rfl ?_
      refine J_get (ci := 5) C i5 rfl 0 (by decide) w2 rfl 0 rfl rfl dX5_saves_70 ?_
      refine J_iload_n C dX5_saves_73 rfl 1 rfl ?_
      refine J_ialdF C 1 rfl (by omega) (by omega) dX5_saves_74 ?_
      refine J_iastF (ws' := [oB (m 0) 5 [.ref (m 1), .ref (m 2), .int (nI (svK (v 2))), .int (nI (v 3)), .ref (m 3), .int (nI (v 5)), .int (nI (v 6)), .ref (m 4), .ref (m 5), .ref (m 6), .ref (m 7), .ref (m 8), .ref (m 9), .ref (m 10), .ref (m 11), .int (nI (v 15)), .int (nI (v 16)), .int (nI (v 17)), .int (nI (v 18)), .long (lN (v 19))], aI Y (m 1) 101 (nF nw), aI Y (m 2) 404 (nF (va_up ((cpP (svQ (v 2) ps) nw (101 * svK (v 2)) k0)) ((101 * (svK (v 2))) + k0) (nw k0)))]) C 2 rfl (by omega) (by omega) dX5_saves_75 rfl ?_
      refine J_iinc (j := 1) (v := nI (k0 + 1)) (lv' := [(1, .int (nI (k0 + 1))), (0, .ref (m 0))]) C dX5_saves_76 rfl (nI_1 _) (by decide) rfl ?_
      refine J_goto (tgt := 50) C dX5_saves_79 (by decide) ?_
      refine J_lv (lv' := [(0, .ref (m 0)), (1, .int (nI (k0 + 1)))]) [1, 0] rfl ?_
      rw [cpP_s]
      exact ih50 (k0 + 1) (by omega) (show 101 - (k0 + 1) < 101 - k0 from by omega)
  · refine J_icmp_neN (tgt := 48) C dX5_saves_5 (by decide) (by omega) (by omega) (fun cq5 => ?_) (fun cq5 => ?_)
    · refine J_lv (lv' := [(0, .ref (m 0))]) [0] rfl ?_
      refine J_eq (lv' := [(0, .ref (m 0))]) (st' := []) (ws' := [oB (m 0) 5 [.ref (m 1), .ref (m 2), .int (nI (svK (v 2))), .int (nI (v 3)), .ref (m 3), .int (nI (v 5)), .int (nI (v 6)), .ref (m 4), .ref (m 5), .ref (m 6), .ref (m 7), .ref (m 8), .ref (m 9), .ref (m 10), .ref (m 11), .int (nI (v 15)), .int (nI (v 16)), .int (nI (v 17)), .int (nI (v 18)), .long (lN (v 19))], aI Y (m 1) 101 (nF nw), aI Y (m 2) 404 (nF ((svQ (v 2) ps)))]) rfl (rfl) rfl (by rw [show svK (v 2) = v 2 from if_neg cq5, show svQ (v 2) ps = ps from if_neg cq5]) ?_
      exact jn48 (trivial)
    · refine J_iconst C dX5_saves_8 (v := nI 0) (by decide) ?_
      refine J_istore_n (lv' := [(1, .int (nI 0)), (0, .ref (m 0))]) C dX5_saves_9 rfl (by decide) rfl ?_
      refine J_lv (lv' := [(0, .ref (m 0)), (1, .int (nI 0))]) [1, 0] rfl ?_
      refine J_loop (σ := Nat) (I := fun (i : Nat) => (i ≤ 303)) (μ := fun (i : Nat) => 303 - i) (lvf := fun (i : Nat) => [(0, .ref (m 0)), (1, .int (nI i))]) (stf := fun (i : Nat) => []) (wsf := fun (i : Nat) => [oB (m 0) 5 [.ref (m 1), .ref (m 2), .int (nI (v 2)), .int (nI (v 3)), .ref (m 3), .int (nI (v 5)), .int (nI (v 6)), .ref (m 4), .ref (m 5), .ref (m 6), .ref (m 7), .ref (m 8), .ref (m 9), .ref (m 10), .ref (m 11), .int (nI (v 15)), .int (nI (v 16)), .int (nI (v 17)), .int (nI (v 18)), .long (lN (v 19))], aI Y (m 1) 101 (nF nw), aI Y (m 2) 404 (nF ((shP ps i)))]) ?_ (0) (by omega) (rfl) rfl (by rw [shP_0])
      rintro i hi ih10
      refine J_eq (lv' := [(0, .ref (m 0)), (1, .int (nI i))]) (st' := []) (ws' := [oB (m 0) 5 [.ref (m 1), .ref (m 2), .int (nI (v 2)), .int (nI (v 3)), .ref (m 3), .int (nI (v 5)), .int (nI (v 6)), .ref (m 4), .ref (m 5), .ref (m 6), .ref (m 7), .ref (m 8), .ref (m 9), .ref (m 10), .ref (m 11), .int (nI (v 15)), .int (nI (v 16)), .int (nI (v 17)), .int (nI (v 18)), .long (lN (v 19))], aI Y (m 1) 101 (nF nw), aI Y (m 2) 404 (nF ((shP ps i)))]) rfl rfl rfl rfl ?_
      refine J_iload_n C dX5_saves_10 rfl 1 rfl ?_
      refine J_sipush C dX5_saves_11 (v := nI 303) (by decide) ?_
      refine J_icmp_geN (tgt := 38) C dX5_saves_14 (by decide) (by omega) (by omega) (fun cq14 => ?_) (fun cq14 => ?_)
      · refine J_aload_n C dX5_saves_38 rfl 0 rfl ?_
        refine J_dup C dX5_saves_39 rfl ?_
        refine J_get (ci := 5) C i5 rfl 2 (by decide) w0 rfl 0 rfl rfl dX5_saves_40 ?_
        refine J_iconst C dX5_saves_43 (v := nI 1) (by decide) ?_
        refine J_isubN C dX5_saves_44 (by omega) ?_
        refine J_put (ci := 5) (ty := .int) (ws' := [oB (m 0) 5 [.ref (m 1), .ref (m 2), .int (nI ((v 2) - 1)), .int (nI (v 3)), .ref (m 3), .int (nI (v 5)), .int (nI (v 6)), .ref (m 4), .ref (m 5), .ref (m 6), .ref (m 7), .ref (m 8), .ref (m 9), .ref (m 10), .ref (m 11), .int (nI (v 15)), .int (nI (v 16)), .int (nI (v 17)), .int (nI (v 18)), .long (lN (v 19))], aI Y (m 1) 101 (nF nw), aI Y (m 2) 404 (nF ((shP ps i)))]) C i5 tyX5 tyX5_ok nmX5 rfl 2 (by decide) w0 rfl rfl (by decide +kernel) (rfl) (rfl) 0 rfl (Nat.le_of_ble_eq_true rfl) dX5_saves_45 rfl ?_
        refine J_lv (lv' := [(0, .ref (m 0))]) [0] rfl ?_
        refine J_eq (lv' := [(0, .ref (m 0))]) (st' := []) (ws' := [oB (m 0) 5 [.ref (m 1), .ref (m 2), .int (nI (svK (v 2))), .int (nI (v 3)), .ref (m 3), .int (nI (v 5)), .int (nI (v 6)), .ref (m 4), .ref (m 5), .ref (m 6), .ref (m 7), .ref (m 8), .ref (m 9), .ref (m 10), .ref (m 11), .int (nI (v 15)), .int (nI (v 16)), .int (nI (v 17)), .int (nI (v 18)), .long (lN (v 19))], aI Y (m 1) 101 (nF nw), aI Y (m 2) 404 (nF ((svQ (v 2) ps)))]) rfl (rfl) rfl (by rw [show svK (v 2) = v 2 - 1 from (if_pos cq5).trans (by omega), show svQ (v 2) ps = shP ps 303 from if_pos cq5, show i = 303 by omega]) ?_
        exact jn48 (trivial)
      · refine J_aload_n C dX5_saves_17 rfl 0 rfl ?_
        refine J_get (ci := 5) C i5 rfl 1 (by decide) w1 rfl 0 rfl rfl dX5_saves_18 ?_
        refine J_iload_n C dX5_saves_21 rfl 1 rfl ?_
        refine J_aload_n C dX5_saves_22 rfl 0 rfl ?_
        refine J_get (ci := 5) C i5 rfl 1 (by decide) w1 rfl 0 rfl rfl dX5_saves_23 ?_
        refine J_iload_n C dX5_saves_26 rfl 1 rfl ?_
        refine J_bipush C dX5_saves_27 (v := nI 101) (by decide) ?_
        refine J_iaddN C dX5_saves_29 ?_
        refine J_ialdF C 2 rfl (by omega) (by omega) dX5_saves_30 ?_
        refine J_iastF (ws' := [oB (m 0) 5 [.ref (m 1), .ref (m 2), .int (nI (v 2)), .int (nI (v 3)), .ref (m 3), .int (nI (v 5)), .int (nI (v 6)), .ref (m 4), .ref (m 5), .ref (m 6), .ref (m 7), .ref (m 8), .ref (m 9), .ref (m 10), .ref (m 11), .int (nI (v 15)), .int (nI (v 16)), .int (nI (v 17)), .int (nI (v 18)), .long (lN (v 19))], aI Y (m 1) 101 (nF nw), aI Y (m 2) 404 (nF (va_up ((shP ps i)) i (((shP ps i)) (i + 101))))]) C 2 rfl (by omega) (by omega) dX5_saves_31 rfl ?_
        refine J_iinc (j := 1) (v := nI (i + 1)) (lv' := [(1, .int (nI (i + 1))), (0, .ref (m 0))]) C dX5_saves_32 rfl (nI_1 _) (by decide) rfl ?_
        refine J_goto (tgt := 10) C dX5_saves_35 (by decide) ?_
        refine J_lv (lv' := [(0, .ref (m 0)), (1, .int (nI (i + 1)))]) [1, 0] rfl ?_
        rw [shP_s]
        exact ih10 (i + 1) (by omega) (show 303 - (i + 1) < 303 - i from by omega)

set_option maxHeartbeats 4000000 in
set_option maxRecDepth 100000 in
theorem kX5_undo_r (ll : Launch) (Y : GY) (m : Nat → Nat) (v : Nat → Nat) (nw : Nat → Nat) (ps : Nat → Nat) (h2 : v 2 = 0) : CT ll yX5_undo wsX5_undo { frames := 1, cells := 0, slots := 0, locals := 21 } Y [.ref (m 0)] [oB (m 0) 5 [.ref (m 1), .ref (m 2), .int (nI (v 2)), .int (nI (v 3)), .ref (m 3), .int (nI (v 5)), .int (nI (v 6)), .ref (m 4), .ref (m 5), .ref (m 6), .ref (m 7), .ref (m 8), .ref (m 9), .ref (m 10), .ref (m 11), .int (nI (v 15)), .int (nI (v 16)), .int (nI (v 17)), .int (nI (v 18)), .long (lN (v 19))], aI Y (m 1) 101 (nF nw), aI Y (m 2) 404 (nF ps)] (QI Y (fun (r : Int32) (_ : Unit) => r = nI 0) (fun _ => [oB (m 0) 5 [.ref (m 1), .ref (m 2), .int (nI (((va_up v 3 1)) 2)), .int (nI (((va_up v 3 1)) 3)), .ref (m 3), .int (nI (((va_up v 3 1)) 5)), .int (nI (((va_up v 3 1)) 6)), .ref (m 4), .ref (m 5), .ref (m 6), .ref (m 7), .ref (m 8), .ref (m 9), .ref (m 10), .ref (m 11), .int (nI (((va_up v 3 1)) 15)), .int (nI (((va_up v 3 1)) 16)), .int (nI (((va_up v 3 1)) 17)), .int (nI (((va_up v 3 1)) 18)), .long (lN (((va_up v 3 1)) 19))], aI Y (m 1) 101 (nF nw), aI Y (m 2) 404 (nF ps)])) 0 0 := by
  refine CT_of (cc := cX5_undo) (maxL := 2) (ret := (some .int)) (by decide) rfl (Nat.le_of_ble_eq_true rfl) ?_
  intro pp ee ss mm bl mt cc AA C hr hnm
  have w0 := C.t _ (List.mem_of_getElem? (i := 1) (show wsX5_undo[1]? = some (Cond.fieldLink RX5 47 "SecretDinnerModel" "saved" "I") from rfl))
  have i5 : ∀ w ∈ wsX50, w ∈ wsX5_undo := inPlaces [10, 11, 12, 13, 14, 15, 16, 17, 18, 19, 20, 21, 22, 23, 24, 25, 26, 27, 28, 29] (by decide +kernel)
  refine J_eq (lv' := [(0, .ref (m 0))]) (ws' := [oB (m 0) 5 [.ref (m 1), .ref (m 2), .int (nI (v 2)), .int (nI (v 3)), .ref (m 3), .int (nI (v 5)), .int (nI (v 6)), .ref (m 4), .ref (m 5), .ref (m 6), .ref (m 7), .ref (m 8), .ref (m 9), .ref (m 10), .ref (m 11), .int (nI (v 15)), .int (nI (v 16)), .int (nI (v 17)), .int (nI (v 18)), .long (lN (v 19))], aI Y (m 1) 101 (nF nw), aI Y (m 2) 404 (nF ps)]) rfl rfl rfl rfl ?_
  refine J_aload_n C dX5_undo_0 rfl 0 rfl ?_
  refine J_aload_n C dX5_undo_1 rfl 0 rfl ?_
  refine J_get (ci := 5) C i5 rfl 2 (by decide) w0 rfl 0 rfl rfl dX5_undo_2 ?_
  refine J_if_neN (tgt := 12) C dX5_undo_5 (by decide) (by omega) (fun cq5 => ?_) (fun cq5 => ?_)
  · exact absurd cq5 (by omega)
  · refine J_iconst C dX5_undo_8 (v := nI 1) (by decide) ?_
    refine J_goto (tgt := 13) C dX5_undo_9 (by decide) ?_
    refine J_callI (wr := [aI Y (m 1) 101 (nF nw), aI Y (m 2) 404 (nF ps)]) C (R_V (st := []) (wc := [oB (m 0) 5 [.ref (m 1), .ref (m 2), .int (nI (v 2)), .int (nI (v 3)), .ref (m 3), .int (nI (v 5)), .int (nI (v 6)), .ref (m 4), .ref (m 5), .ref (m 6), .ref (m 7), .ref (m 8), .ref (m 9), .ref (m 10), .ref (m 11), .int (nI (v 15)), .int (nI (v 16)), .int (nI (v 17)), .int (nI (v 18)), .long (lN (v 19))]]) C (kX5_refused ll Y m v 1 (by first | assumption | omega)) (cwV 1 C.t gX5_undo_X5_refused rfl rfl rfl (by decide +kernel) ⟨by decide, by decide⟩) rfl [0] rfl (by decide) ⟨0, 5, _, _, rfl, rfl, rfl⟩ rfl (Nat.le_of_ble_eq_true rfl) dX5_undo_13 ⟨Nat.le_of_ble_eq_true rfl, Nat.le_of_ble_eq_true rfl⟩) [0] [1, 2] rfl rfl (by decide) (by decide) (fun r13 u13 hw13 => ?_)
    subst hw13
    refine J_eq (pc' := 16) (lv' := [(0, .ref (m 0))]) (st' := [.int (p2i (0 < 1))]) (ws' := [aI Y (m 1) 101 (nF nw), aI Y (m 2) 404 (nF ps), oB (m 0) 5 [.ref (m 1), .ref (m 2), .int (nI (((va_up v 3 1)) 2)), .int (nI (((va_up v 3 1)) 3)), .ref (m 3), .int (nI (((va_up v 3 1)) 5)), .int (nI (((va_up v 3 1)) 6)), .ref (m 4), .ref (m 5), .ref (m 6), .ref (m 7), .ref (m 8), .ref (m 9), .ref (m 10), .ref (m 11), .int (nI (((va_up v 3 1)) 15)), .int (nI (((va_up v 3 1)) 16)), .int (nI (((va_up v 3 1)) 17)), .int (nI (((va_up v 3 1)) 18)), .long (lN (((va_up v 3 1)) 19))]]) rfl rfl rfl rfl ?_
    refine J_perm (ws' := [oB (m 0) 5 [.ref (m 1), .ref (m 2), .int (nI (((va_up v 3 1)) 2)), .int (nI (((va_up v 3 1)) 3)), .ref (m 3), .int (nI (((va_up v 3 1)) 5)), .int (nI (((va_up v 3 1)) 6)), .ref (m 4), .ref (m 5), .ref (m 6), .ref (m 7), .ref (m 8), .ref (m 9), .ref (m 10), .ref (m 11), .int (nI (((va_up v 3 1)) 15)), .int (nI (((va_up v 3 1)) 16)), .int (nI (((va_up v 3 1)) 17)), .int (nI (((va_up v 3 1)) 18)), .long (lN (((va_up v 3 1)) 19))], aI Y (m 1) 101 (nF nw), aI Y (m 2) 404 (nF ps)]) [2, 0, 1] rfl (by decide) ?_
    refine J_if_eqP (tgt := 21) C dX5_undo_16 (by decide) (fun cq16 => ?_) (fun cq16 => ?_)
    · exact absurd cq16 (by decide)
    · refine J_iconst C dX5_undo_19 (v := nI 0) (by decide) ?_
      exact J_iret C hr dX5_undo_20 (()) (rfl) (rfl)

set_option maxHeartbeats 4000000 in
set_option maxRecDepth 100000 in
theorem kX5_undo_k (ll : Launch) (Y : GY) (m : Nat → Nat) (v : Nat → Nat) (nw : Nat → Nat) (ps : Nat → Nat) (h2 : 0 < v 2 ∧ v 2 ≤ 4) : CT ll yX5_undo wsX5_undo { frames := 1, cells := 0, slots := 0, locals := 21 } Y [.ref (m 0)] [oB (m 0) 5 [.ref (m 1), .ref (m 2), .int (nI (v 2)), .int (nI (v 3)), .ref (m 3), .int (nI (v 5)), .int (nI (v 6)), .ref (m 4), .ref (m 5), .ref (m 6), .ref (m 7), .ref (m 8), .ref (m 9), .ref (m 10), .ref (m 11), .int (nI (v 15)), .int (nI (v 16)), .int (nI (v 17)), .int (nI (v 18)), .long (lN (v 19))], aI Y (m 1) 101 (nF nw), aI Y (m 2) 404 (nF ps)] (QI Y (fun (r : Int32) (_ : Unit) => r = nI (v 2 - 1)) (fun _ => [oB (m 0) 5 [.ref (m 1), .ref (m 2), .int (nI (((va_up (va_up v 3 0) 2 (v 2 - 1))) 2)), .int (nI (((va_up (va_up v 3 0) 2 (v 2 - 1))) 3)), .ref (m 3), .int (nI (((va_up (va_up v 3 0) 2 (v 2 - 1))) 5)), .int (nI (((va_up (va_up v 3 0) 2 (v 2 - 1))) 6)), .ref (m 4), .ref (m 5), .ref (m 6), .ref (m 7), .ref (m 8), .ref (m 9), .ref (m 10), .ref (m 11), .int (nI (((va_up (va_up v 3 0) 2 (v 2 - 1))) 15)), .int (nI (((va_up (va_up v 3 0) 2 (v 2 - 1))) 16)), .int (nI (((va_up (va_up v 3 0) 2 (v 2 - 1))) 17)), .int (nI (((va_up (va_up v 3 0) 2 (v 2 - 1))) 18)), .long (lN (((va_up (va_up v 3 0) 2 (v 2 - 1))) 19))], aI Y (m 1) 101 (nF ((rwP ps nw (101 * (v 2 - 1)) 101))), aI Y (m 2) 404 (nF ps)])) 0 0 := by
  refine CT_of (cc := cX5_undo) (maxL := 2) (ret := (some .int)) (by decide) rfl (Nat.le_of_ble_eq_true rfl) ?_
  intro pp ee ss mm bl mt cc AA C hr hnm
  have w0 := C.t _ (List.mem_of_getElem? (i := 1) (show wsX5_undo[1]? = some (Cond.fieldLink RX5 47 "SecretDinnerModel" "saved" "I") from rfl))
  have w1 := C.t _ (List.mem_of_getElem? (i := 2) (show wsX5_undo[2]? = some (Cond.fieldLink RX5 7 "SecretDinnerModel" "now" "[I") from rfl))
  have w2 := C.t _ (List.mem_of_getElem? (i := 3) (show wsX5_undo[3]? = some (Cond.fieldLink RX5 13 "SecretDinnerModel" "past" "[I") from rfl))
  have i5 : ∀ w ∈ wsX50, w ∈ wsX5_undo := inPlaces [10, 11, 12, 13, 14, 15, 16, 17, 18, 19, 20, 21, 22, 23, 24, 25, 26, 27, 28, 29] (by decide +kernel)
  refine J_eq (lv' := [(0, .ref (m 0))]) (ws' := [oB (m 0) 5 [.ref (m 1), .ref (m 2), .int (nI (v 2)), .int (nI (v 3)), .ref (m 3), .int (nI (v 5)), .int (nI (v 6)), .ref (m 4), .ref (m 5), .ref (m 6), .ref (m 7), .ref (m 8), .ref (m 9), .ref (m 10), .ref (m 11), .int (nI (v 15)), .int (nI (v 16)), .int (nI (v 17)), .int (nI (v 18)), .long (lN (v 19))], aI Y (m 1) 101 (nF nw), aI Y (m 2) 404 (nF ps)]) rfl rfl rfl rfl ?_
  refine J_aload_n C dX5_undo_0 rfl 0 rfl ?_
  refine J_aload_n C dX5_undo_1 rfl 0 rfl ?_
  refine J_get (ci := 5) C i5 rfl 2 (by decide) w0 rfl 0 rfl rfl dX5_undo_2 ?_
  refine J_if_neN (tgt := 12) C dX5_undo_5 (by decide) (by omega) (fun cq5 => ?_) (fun cq5 => ?_)
  · refine J_iconst C dX5_undo_12 (v := nI 0) (by decide) ?_
    refine J_callI (wr := [aI Y (m 1) 101 (nF nw), aI Y (m 2) 404 (nF ps)]) C (R_V (st := []) (wc := [oB (m 0) 5 [.ref (m 1), .ref (m 2), .int (nI (v 2)), .int (nI (v 3)), .ref (m 3), .int (nI (v 5)), .int (nI (v 6)), .ref (m 4), .ref (m 5), .ref (m 6), .ref (m 7), .ref (m 8), .ref (m 9), .ref (m 10), .ref (m 11), .int (nI (v 15)), .int (nI (v 16)), .int (nI (v 17)), .int (nI (v 18)), .long (lN (v 19))]]) C (kX5_refused ll Y m v 0 (by first | assumption | omega)) (cwV 1 C.t gX5_undo_X5_refused rfl rfl rfl (by decide +kernel) ⟨by decide, by decide⟩) rfl [0] rfl (by decide) ⟨0, 5, _, _, rfl, rfl, rfl⟩ rfl (Nat.le_of_ble_eq_true rfl) dX5_undo_13 ⟨Nat.le_of_ble_eq_true rfl, Nat.le_of_ble_eq_true rfl⟩) [0] [1, 2] rfl rfl (by decide) (by decide) (fun r13 u13 hw13 => ?_)
    subst hw13
    refine J_eq (pc' := 16) (lv' := [(0, .ref (m 0))]) (st' := [.int (p2i (0 < 0))]) (ws' := [aI Y (m 1) 101 (nF nw), aI Y (m 2) 404 (nF ps), oB (m 0) 5 [.ref (m 1), .ref (m 2), .int (nI (((va_up v 3 0)) 2)), .int (nI (((va_up v 3 0)) 3)), .ref (m 3), .int (nI (((va_up v 3 0)) 5)), .int (nI (((va_up v 3 0)) 6)), .ref (m 4), .ref (m 5), .ref (m 6), .ref (m 7), .ref (m 8), .ref (m 9), .ref (m 10), .ref (m 11), .int (nI (((va_up v 3 0)) 15)), .int (nI (((va_up v 3 0)) 16)), .int (nI (((va_up v 3 0)) 17)), .int (nI (((va_up v 3 0)) 18)), .long (lN (((va_up v 3 0)) 19))]]) rfl rfl rfl rfl ?_
    refine J_perm (ws' := [oB (m 0) 5 [.ref (m 1), .ref (m 2), .int (nI (((va_up v 3 0)) 2)), .int (nI (((va_up v 3 0)) 3)), .ref (m 3), .int (nI (((va_up v 3 0)) 5)), .int (nI (((va_up v 3 0)) 6)), .ref (m 4), .ref (m 5), .ref (m 6), .ref (m 7), .ref (m 8), .ref (m 9), .ref (m 10), .ref (m 11), .int (nI (((va_up v 3 0)) 15)), .int (nI (((va_up v 3 0)) 16)), .int (nI (((va_up v 3 0)) 17)), .int (nI (((va_up v 3 0)) 18)), .long (lN (((va_up v 3 0)) 19))], aI Y (m 1) 101 (nF nw), aI Y (m 2) 404 (nF ps)]) [2, 0, 1] rfl (by decide) ?_
    refine J_if_eqP (tgt := 21) C dX5_undo_16 (by decide) (fun cq16 => ?_) (fun cq16 => ?_)
    · refine J_eq (ws' := [oB (m 0) 5 [.ref (m 1), .ref (m 2), .int (nI (v 2)), .int (nI (((va_up v 3 0)) 3)), .ref (m 3), .int (nI (((va_up v 3 0)) 5)), .int (nI (((va_up v 3 0)) 6)), .ref (m 4), .ref (m 5), .ref (m 6), .ref (m 7), .ref (m 8), .ref (m 9), .ref (m 10), .ref (m 11), .int (nI (((va_up v 3 0)) 15)), .int (nI (((va_up v 3 0)) 16)), .int (nI (((va_up v 3 0)) 17)), .int (nI (((va_up v 3 0)) 18)), .long (lN (((va_up v 3 0)) 19))], aI Y (m 1) 101 (nF nw), aI Y (m 2) 404 (nF ps)]) rfl rfl rfl (rfl) ?_
      refine J_aload_n C dX5_undo_21 rfl 0 rfl ?_
      refine J_dup C dX5_undo_22 rfl ?_
      refine J_get (ci := 5) C i5 rfl 2 (by decide) w0 rfl 0 rfl rfl dX5_undo_23 ?_
      refine J_iconst C dX5_undo_26 (v := nI 1) (by decide) ?_
      refine J_isubN C dX5_undo_27 (by omega) ?_
      refine J_put (ci := 5) (ty := .int) (ws' := [oB (m 0) 5 [.ref (m 1), .ref (m 2), .int (nI ((v 2) - 1)), .int (nI (((va_up v 3 0)) 3)), .ref (m 3), .int (nI (((va_up v 3 0)) 5)), .int (nI (((va_up v 3 0)) 6)), .ref (m 4), .ref (m 5), .ref (m 6), .ref (m 7), .ref (m 8), .ref (m 9), .ref (m 10), .ref (m 11), .int (nI (((va_up v 3 0)) 15)), .int (nI (((va_up v 3 0)) 16)), .int (nI (((va_up v 3 0)) 17)), .int (nI (((va_up v 3 0)) 18)), .long (lN (((va_up v 3 0)) 19))], aI Y (m 1) 101 (nF nw), aI Y (m 2) 404 (nF ps)]) C i5 tyX5 tyX5_ok nmX5 rfl 2 (by decide) w0 rfl rfl (by decide +kernel) (rfl) (rfl) 0 rfl (Nat.le_of_ble_eq_true rfl) dX5_undo_28 rfl ?_
      refine J_iconst C dX5_undo_31 (v := nI 0) (by decide) ?_
      refine J_istore_n (lv' := [(1, .int (nI 0)), (0, .ref (m 0))]) C dX5_undo_32 rfl (by decide) rfl ?_
      refine J_lv (lv' := [(0, .ref (m 0)), (1, .int (nI 0))]) [1, 0] rfl ?_
      refine J_loop (σ := Nat) (I := fun (k0 : Nat) => (k0 ≤ 101)) (μ := fun (k0 : Nat) => 101 - k0) (lvf := fun (k0 : Nat) => [(0, .ref (m 0)), (1, .int (nI k0))]) (stf := fun (k0 : Nat) => []) (wsf := fun (k0 : Nat) => [oB (m 0) 5 [.ref (m 1), .ref (m 2), .int (nI ((v 2) - 1)), .int (nI (((va_up v 3 0)) 3)), .ref (m 3), .int (nI (((va_up v 3 0)) 5)), .int (nI (((va_up v 3 0)) 6)), .ref (m 4), .ref (m 5), .ref (m 6), .ref (m 7), .ref (m 8), .ref (m 9), .ref (m 10), .ref (m 11), .int (nI (((va_up v 3 0)) 15)), .int (nI (((va_up v 3 0)) 16)), .int (nI (((va_up v 3 0)) 17)), .int (nI (((va_up v 3 0)) 18)), .long (lN (((va_up v 3 0)) 19))], aI Y (m 1) 101 (nF ((rwP ps nw (101 * (v 2 - 1)) k0))), aI Y (m 2) 404 (nF ps)]) ?_ (0) (by omega) (rfl) rfl (by rw [rwP_0])
      rintro k0 hi ih33
      refine J_eq (lv' := [(0, .ref (m 0)), (1, .int (nI k0))]) (st' := []) (ws' := [oB (m 0) 5 [.ref (m 1), .ref (m 2), .int (nI ((v 2) - 1)), .int (nI (((va_up v 3 0)) 3)), .ref (m 3), .int (nI (((va_up v 3 0)) 5)), .int (nI (((va_up v 3 0)) 6)), .ref (m 4), .ref (m 5), .ref (m 6), .ref (m 7), .ref (m 8), .ref (m 9), .ref (m 10), .ref (m 11), .int (nI (((va_up v 3 0)) 15)), .int (nI (((va_up v 3 0)) 16)), .int (nI (((va_up v 3 0)) 17)), .int (nI (((va_up v 3 0)) 18)), .long (lN (((va_up v 3 0)) 19))], aI Y (m 1) 101 (nF ((rwP ps nw (101 * (v 2 - 1)) k0))), aI Y (m 2) 404 (nF ps)]) rfl rfl rfl rfl ?_
      refine J_iload_n C dX5_undo_33 rfl 1 rfl ?_
      refine J_bipush C dX5_undo_34 (v := nI 101) (by decide) ?_
      refine J_icmp_geN (tgt := 65) C dX5_undo_36 (by decide) (by omega) (by omega) (fun cq36 => ?_) (fun cq36 => ?_)
      · refine J_aload_n C dX5_undo_65 rfl 0 rfl ?_
        refine J_get (ci := 5) C i5 rfl 2 (by decide) w0 rfl 0 rfl rfl dX5_undo_66 ?_
        exact J_iret C hr dX5_undo_69 (()) (rfl) (by rw [show k0 = 101 by omega]; rfl)
      · refine J_aload_n C dX5_undo_39 rfl 0 rfl ?_
        refine J_get (ci := 5) C i5 rfl 0 (by decide) w1 rfl 0 rfl rfl dX5_undo_40 ?_
        refine J_iload_n C dX5_undo_43 rfl 1 rfl ?_
        refine J_aload_n C dX5_undo_44 rfl 0 rfl ?_
        refine J_get (ci := 5) C i5 rfl 1 (by decide) w2 rfl 0 rfl rfl dX5_undo_45 ?_
        refine J_bipush C dX5_undo_48 (v := nI 101) (by decide) ?_
        refine J_aload_n C dX5_undo_50 rfl 0 rfl ?_
        refine J_get (ci := 5) C i5 rfl 2 (by decide) w0 rfl 0 rfl rfl dX5_undo_51 ?_
        refine J_imulN C dX5_undo_54 ?_
        refine J_iload_n C dX5_undo_55 rfl 1 rfl ?_
        refine J_iaddN C dX5_undo_56 ?_
        refine J_ialdF C 2 rfl (by omega) (by omega) dX5_undo_57 ?_
        refine J_iastF (ws' := [oB (m 0) 5 [.ref (m 1), .ref (m 2), .int (nI ((v 2) - 1)), .int (nI (((va_up v 3 0)) 3)), .ref (m 3), .int (nI (((va_up v 3 0)) 5)), .int (nI (((va_up v 3 0)) 6)), .ref (m 4), .ref (m 5), .ref (m 6), .ref (m 7), .ref (m 8), .ref (m 9), .ref (m 10), .ref (m 11), .int (nI (((va_up v 3 0)) 15)), .int (nI (((va_up v 3 0)) 16)), .int (nI (((va_up v 3 0)) 17)), .int (nI (((va_up v 3 0)) 18)), .long (lN (((va_up v 3 0)) 19))], aI Y (m 1) 101 (nF (va_up ((rwP ps nw (101 * (v 2 - 1)) k0)) k0 (ps ((101 * ((v 2) - 1)) + k0)))), aI Y (m 2) 404 (nF ps)]) C 1 rfl (by omega) (by omega) dX5_undo_58 rfl ?_
        refine J_iinc (j := 1) (v := nI (k0 + 1)) (lv' := [(1, .int (nI (k0 + 1))), (0, .ref (m 0))]) C dX5_undo_59 rfl (nI_1 _) (by decide) rfl ?_
        refine J_goto (tgt := 33) C dX5_undo_62 (by decide) ?_
        refine J_lv (lv' := [(0, .ref (m 0)), (1, .int (nI (k0 + 1)))]) [1, 0] rfl ?_
        rw [rwP_s]
        exact ih33 (k0 + 1) (by omega) (show 101 - (k0 + 1) < 101 - k0 from by omega)
    · exact absurd cq16 (by decide)
  · exact absurd cq5 (by omega)

