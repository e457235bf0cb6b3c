set_option maxHeartbeats 4000000 in
set_option maxRecDepth 100000 in
theorem kX0_extend_8 (ll : Launch) (Y : GY) (o : Nat) (r : Nat) (L : List Nat) (f : Nat → Int64) (n : Nat) (d : Nat) (hn : n = 3 ∨ n = 4) (hd : d < 2 ^ 40) (hL : L.length + (ext n 0 d).length ≤ 5040) (hr2 : DRep L f) : CT ll yX0_extend wsX0_extend { frames := 1, cells := 0, slots := 0, locals := 22 } Y [.ref o, .int (nI n), .int (nI 8), .long (lN d)] [oB o 0 [.ref r, .int (nI L.length), .long (lN (andL L)), .long (lN (orL L))], aJ Y r 5040 f] (QV (S := Nat → Int64) Y (fun u => DRep (L ++ ext n 0 d) u) (fun u => [oB o 0 [.ref r, .int (nI ((L ++ ext n 0 d).length)), .long (lN (andL (L ++ ext n 0 d))), .long (lN (orL (L ++ ext n 0 d)))], aJ Y r 5040 u])) 0 0 := by
  refine CT_of (cc := cX0_extend) (maxL := 6) (ret := none) (by decide) rfl (Nat.le_of_ble_eq_true rfl) ?_
  intro pp ee ss mm bl mt cc AA C hr hnm
  refine J_eq (lv' := [(0, .ref o), (1, .int (nI n)), (2, .int (nI 8)), (3, .long (lN d))]) (ws' := [oB o 0 [.ref r, .int (nI L.length), .long (lN (andL L)), .long (lN (orL L))], aJ Y r 5040 f]) rfl rfl rfl rfl ?_
  refine J_iload_n C dX0_extend_0 rfl 2 rfl ?_
  refine J_bipush C dX0_extend_1 (v := nI 8) (by decide) ?_
  refine J_icmp_ltN (tgt := 12) C dX0_extend_3 (by decide) (by omega) (by omega) (fun cq3 => ?_) (fun cq3 => ?_)
  · exact absurd cq3 (by omega)
  · refine J_aload_n C dX0_extend_6 rfl 0 rfl ?_
    refine J_lload_n C dX0_extend_7 rfl 3 rfl ?_
    refine J_callV (wr := []) C (R_V (st := []) (wc := [oB o 0 [.ref r, .int (nI L.length), .long (lN (andL L)), .long (lN (orL L))], aJ Y r 5040 f]) C (kX0_add ll Y o r L f d (by simp only [ext, List.length_singleton] at hL; omega)) (cwV 1 C.t gX0_extend_X0_add rfl rfl rfl (by decide +kernel) ⟨by decide, by decide⟩) rfl [0, 1] rfl (by decide) ⟨0, 0, _, _, rfl, rfl, rfl⟩ rfl (Nat.le_of_ble_eq_true rfl) dX0_extend_8 ⟨Nat.le_of_ble_eq_true rfl, Nat.le_of_ble_eq_true rfl⟩) [0, 1] [] rfl rfl (by decide) (by decide) (fun u8 hw8 => ?_)
    refine J_eq (pc' := 11) (lv' := [(0, .ref o), (1, .int (nI n)), (2, .int (nI 8)), (3, .long (lN d))]) (st' := []) (ws' := [oB o 0 [.ref r, .int (nI ((L ++ [d]).length)), .long (lN (andL (L ++ [d]))), .long (lN (orL (L ++ [d])))], aJ Y r 5040 (vp_updL f L.length (lN d))]) rfl rfl rfl rfl ?_
    exact J_vret C hr dX0_extend_11 (vp_updL f L.length (lN d)) (DRep_add hr2 _) (rfl)

set_option maxHeartbeats 4000000 in
set_option maxRecDepth 100000 in
theorem kX0_extend_7 (ll : Launch) (Y : GY) (o : Nat) (r : Nat) (L : List Nat) (f : Nat → Int64) (n : Nat) (d : Nat) (hn : n = 3 ∨ n = 4) (hd : d < 2 ^ 40) (hL : L.length + (ext n 1 d).length ≤ 5040) (hr2 : DRep L f) : CT ll yX0_extend wsX0_extend { frames := 2, cells := 0, slots := 0, locals := 47 } Y [.ref o, .int (nI n), .int (nI 7), .long (lN d)] [oB o 0 [.ref r, .int (nI L.length), .long (lN (andL L)), .long (lN (orL L))], aJ Y r 5040 f] (QV (S := Nat → Int64) Y (fun u => DRep (L ++ ext n 1 d) u) (fun u => [oB o 0 [.ref r, .int (nI ((L ++ ext n 1 d).length)), .long (lN (andL (L ++ ext n 1 d))), .long (lN (orL (L ++ ext n 1 d)))], aJ Y r 5040 u])) 0 0 := by
  refine CT_of (cc := cX0_extend) (maxL := 6) (ret := none) (by decide) rfl (Nat.le_of_ble_eq_true rfl) ?_
  intro pp ee ss mm bl mt cc AA C hr hnm
  have w0 := C.nm ("SecretDinner$Deals", 43, yX4_sizeOfHand) (List.mem_of_getElem? (i := 7) (show xn_m[7]? = some ("SecretDinner$Deals", 43, yX4_sizeOfHand) from rfl))
  have w1 := C.t _ (List.mem_of_getElem? (i := 21) (show wsX0_extend[21]? = some (Cond.initialized RX4) from rfl))
  have w2 := C.t _ (List.mem_of_getElem? (i := 20) (show wsX0_extend[20]? = some (Cond.static yX4_sizeOfHand) from rfl))
  refine J_eq (lv' := [(0, .ref o), (1, .int (nI n)), (2, .int (nI 7)), (3, .long (lN d))]) (ws' := [oB o 0 [.ref r, .int (nI L.length), .long (lN (andL L)), .long (lN (orL L))], aJ Y r 5040 f]) rfl rfl rfl rfl ?_
  refine J_iload_n C dX0_extend_0 rfl 2 rfl ?_
  refine J_bipush C dX0_extend_1 (v := nI 8) (by decide) ?_
  refine J_icmp_ltN (tgt := 12) C dX0_extend_3 (by decide) (by omega) (by omega) (fun cq3 => ?_) (fun cq3 => ?_)
  · refine J_iconst C dX0_extend_12 (v := nI 0) (by decide) ?_
    refine J_istore (lv' := [(5, .int (nI 0)), (0, .ref o), (1, .int (nI n)), (2, .int (nI 7)), (3, .long (lN d))]) C dX0_extend_13 (by decide) rfl ?_
    refine J_lv (lv' := [(0, .ref o), (1, .int (nI n)), (2, .int (nI 7)), (3, .long (lN d)), (5, .int (nI 0))]) [1, 2, 3, 4, 0] rfl ?_
    refine J_loop (σ := Nat × (Nat → Int64)) (I := fun (i, gf) => (i ≤ 5) ∧ (DRep (L ++ extS (ext n 0) n 7 d i) gf)) (μ := fun (i, gf) => 5 - i) (lvf := fun (i, gf) => [(0, .ref o), (1, .int (nI n)), (2, .int (nI 7)), (3, .long (lN d)), (5, .int (nI i))]) (stf := fun (i, gf) => []) (wsf := fun (i, gf) => [oB o 0 [.ref r, .int (nI ((L ++ extS (ext n 0) n 7 d i).length)), .long (lN (andL (L ++ extS (ext n 0) n 7 d i))), .long (lN (orL (L ++ extS (ext n 0) n 7 d i)))], aJ Y r 5040 gf]) ?_ (0, f) ⟨(by omega), (by simpa [extS] using hr2)⟩ (rfl) rfl (by simp only [extS, List.append_nil])
    rintro ⟨i, gf⟩ ⟨hi, hg⟩ ih15
    refine J_eq (lv' := [(0, .ref o), (1, .int (nI n)), (2, .int (nI 7)), (3, .long (lN d)), (5, .int (nI i))]) (st' := []) (ws' := [oB o 0 [.ref r, .int (nI ((L ++ extS (ext n 0) n 7 d i).length)), .long (lN (andL (L ++ extS (ext n 0) n 7 d i))), .long (lN (orL (L ++ extS (ext n 0) n 7 d i)))], aJ Y r 5040 gf]) rfl rfl rfl rfl ?_
    refine J_iload C dX0_extend_15 4 rfl ?_
    refine J_iconst C dX0_extend_17 (v := nI 4) (by decide) ?_
    refine J_icmp_gtN (tgt := 61) C dX0_extend_18 (by decide) (by omega) (by omega) (fun cq18 => ?_) (fun cq18 => ?_)
    · exact J_vret C hr dX0_extend_61 gf (by have e := hg; rw [show i = 5 from by omega] at e; exact e) (by rw [show i = 5 from by omega]; rfl)
    · refine J_lload_n C dX0_extend_21 rfl 3 rfl ?_
      refine J_iload C dX0_extend_22 4 rfl ?_
      refine J_callI (wr := [oB o 0 [.ref r, .int (nI ((L ++ extS (ext n 0) n 7 d i).length)), .long (lN (andL (L ++ extS (ext n 0) n 7 d i))), .long (lN (orL (L ++ extS (ext n 0) n 7 d i)))], aJ Y r 5040 gf]) C (R_S (st := []) (wc := []) C (kX0_cardsAt ll Y d i (Nat.lt_trans hd (by decide)) (by omega)) (va_cwS 2 C.t gX0_extend_X0_cardsAt rfl rfl rfl (by decide +kernel) ⟨by decide, by decide⟩) rfl [] rfl (by decide) rfl (Nat.le_of_ble_eq_true rfl) dX0_extend_24 ⟨Nat.le_of_ble_eq_true rfl, Nat.le_of_ble_eq_true rfl⟩) [] [0, 1] rfl rfl (by decide) (by decide) (fun r24 u24 hw24 => ?_)
      subst hw24
      refine J_eq (pc' := 27) (lv' := [(0, .ref o), (1, .int (nI n)), (2, .int (nI 7)), (3, .long (lN d)), (5, .int (nI i))]) (st' := [.int (nI (hAt d i))]) (ws' := [oB o 0 [.ref r, .int (nI ((L ++ extS (ext n 0) n 7 d i).length)), .long (lN (andL (L ++ extS (ext n 0) n 7 d i))), .long (lN (orL (L ++ extS (ext n 0) n 7 d i)))], aJ Y r 5040 gf]) rfl rfl rfl rfl ?_
      refine J_callI (wr := [oB o 0 [.ref r, .int (nI ((L ++ extS (ext n 0) n 7 d i).length)), .long (lN (andL (L ++ extS (ext n 0) n 7 d i))), .long (lN (orL (L ++ extS (ext n 0) n 7 d i)))], aJ Y r 5040 gf]) C (R_S (st := []) (wc := []) C (kJ6_bitCount_0f7a4 ll Y (hAt d i) (hAt_lt _ _)) (va_cwS 1 C.t gX0_extend_J6_bitCount_0f7a4 rfl rfl rfl (by decide +kernel) ⟨by decide, by decide⟩) rfl [] rfl (by decide) rfl (Nat.le_of_ble_eq_true rfl) dX0_extend_27 ⟨Nat.le_of_ble_eq_true rfl, Nat.le_of_ble_eq_true rfl⟩) [] [0, 1] rfl rfl (by decide) (by decide) (fun r27 u27 hw27 => ?_)
      subst hw27
      refine J_eq (pc' := 30) (lv' := [(0, .ref o), (1, .int (nI n)), (2, .int (nI 7)), (3, .long (lN d)), (5, .int (nI i))]) (st' := [.int (nI (pc8 (hAt d i)))]) (ws' := [oB o 0 [.ref r, .int (nI ((L ++ extS (ext n 0) n 7 d i).length)), .long (lN (andL (L ++ extS (ext n 0) n 7 d i))), .long (lN (orL (L ++ extS (ext n 0) n 7 d i)))], aJ Y r 5040 gf]) rfl rfl rfl rfl ?_
      refine J_iload_n C dX0_extend_30 rfl 1 rfl ?_
      refine J_iload C dX0_extend_31 4 rfl ?_
      refine J_callI (wr := [oB o 0 [.ref r, .int (nI ((L ++ extS (ext n 0) n 7 d i).length)), .long (lN (andL (L ++ extS (ext n 0) n 7 d i))), .long (lN (orL (L ++ extS (ext n 0) n 7 d i)))], aJ Y r 5040 gf]) C (R_SN (st := [.int (nI (pc8 (hAt d i)))]) (wc := []) C (kX4_sizeOfHand ll Y n i (by first | assumption | omega) (by omega)) ⟨va_cnB (host := "SecretDinner") 2 C.t gX0_extend_X4_sizeOfHand_n43 rfl rfl rfl (va_Nw.of rfl w0) w1 (by decide +kernel) ⟨by decide, by decide⟩, w2, trivial⟩ rfl [] rfl (by decide) rfl (Nat.le_of_ble_eq_true rfl) dX0_extend_33 ⟨Nat.le_of_ble_eq_true rfl, Nat.le_of_ble_eq_true rfl⟩) [] [0, 1] rfl rfl (by decide) (by decide) (fun r33 u33 hw33 => ?_)
      subst hw33
      refine J_eq (pc' := 36) (lv' := [(0, .ref o), (1, .int (nI n)), (2, .int (nI 7)), (3, .long (lN d)), (5, .int (nI i))]) (st' := [.int (nI (szH n i)), .int (nI (pc8 (hAt d i)))]) (ws' := [oB o 0 [.ref r, .int (nI ((L ++ extS (ext n 0) n 7 d i).length)), .long (lN (andL (L ++ extS (ext n 0) n 7 d i))), .long (lN (orL (L ++ extS (ext n 0) n 7 d i)))], aJ Y r 5040 gf]) rfl rfl rfl rfl ?_
      refine J_icmp_geN (tgt := 55) C dX0_extend_36 (by decide) (Nat.lt_of_le_of_lt (pc8_le _) (by decide)) (Nat.lt_of_le_of_lt (szH_le _ _) (by decide)) (fun cq36 => ?_) (fun cq36 => ?_)
      · refine J_iinc (j := 4) (v := nI (i + 1)) (lv' := [(5, .int (nI (i + 1))), (0, .ref o), (1, .int (nI n)), (2, .int (nI 7)), (3, .long (lN d))]) C dX0_extend_55 rfl (nI_1 _) (by decide) rfl ?_
        refine J_goto (tgt := 15) C dX0_extend_58 (by decide) ?_
        refine J_lv (lv' := [(0, .ref o), (1, .int (nI n)), (2, .int (nI 7)), (3, .long (lN d)), (5, .int (nI (i + 1)))]) [1, 2, 3, 4, 0] rfl ?_
        have e0 := extS_n (E := ext n 0) (c := 7) cq36
        refine J_eq (lv' := [(0, .ref o), (1, .int (nI n)), (2, .int (nI 7)), (3, .long (lN d)), (5, .int (nI ((i + 1))))]) (ws' := [oB o 0 [.ref r, .int (nI ((L ++ extS (ext n 0) n 7 d (i + 1)).length)), .long (lN (andL (L ++ extS (ext n 0) n 7 d (i + 1)))), .long (lN (orL (L ++ extS (ext n 0) n 7 d (i + 1))))], aJ Y r 5040 gf]) rfl (rfl) rfl (by rw [e0] <;> simp only [List.append_assoc]) ?_
        exact ih15 (i + 1, gf) ⟨(by omega), (by rw [e0]; exact hg)⟩ (show 5 - (i + 1) < 5 - i from by omega)
      · refine J_aload_n C dX0_extend_39 rfl 0 rfl ?_
        refine J_iload_n C dX0_extend_40 rfl 1 rfl ?_
        refine J_iload_n C dX0_extend_41 rfl 2 rfl ?_
        refine J_iconst C dX0_extend_42 (v := nI 1) (by decide) ?_
        refine J_iaddN C dX0_extend_43 ?_
        refine J_lload_n C dX0_extend_44 rfl 3 rfl ?_
        refine J_iload C dX0_extend_45 4 rfl ?_
        refine J_iload_n C dX0_extend_47 rfl 2 rfl ?_
        refine J_callL (wr := [oB o 0 [.ref r, .int (nI ((L ++ extS (ext n 0) n 7 d i).length)), .long (lN (andL (L ++ extS (ext n 0) n 7 d i))), .long (lN (orL (L ++ extS (ext n 0) n 7 d i)))], aJ Y r 5040 gf]) C (R_S (st := [.long (lN d), .int (nI (7 + 1)), .int (nI n), .ref o]) (wc := []) C (kX0_cardBit ll Y i 7 (by omega) (by decide)) (va_cwS 2 C.t gX0_extend_X0_cardBit rfl rfl rfl (by decide +kernel) ⟨by decide, by decide⟩) rfl [] rfl (by decide) rfl (Nat.le_of_ble_eq_true rfl) dX0_extend_48 ⟨Nat.le_of_ble_eq_true rfl, Nat.le_of_ble_eq_true rfl⟩) [] [0, 1] rfl rfl (by decide) (by decide) (fun r48 u48 hw48 => ?_)
        subst hw48
        refine J_eq (pc' := 51) (lv' := [(0, .ref o), (1, .int (nI n)), (2, .int (nI 7)), (3, .long (lN d)), (5, .int (nI i))]) (st' := [.long (lN (2 ^ (8 * i + 7))), .long (lN d), .int (nI (7 + 1)), .int (nI n), .ref o]) (ws' := [oB o 0 [.ref r, .int (nI ((L ++ extS (ext n 0) n 7 d i).length)), .long (lN (andL (L ++ extS (ext n 0) n 7 d i))), .long (lN (orL (L ++ extS (ext n 0) n 7 d i)))], aJ Y r 5040 gf]) rfl rfl rfl rfl ?_
        refine J_lorN C dX0_extend_51 ?_
        refine J_callV (wr := []) C (R_S (st := []) (wc := [oB o 0 [.ref r, .int (nI ((L ++ extS (ext n 0) n 7 d i).length)), .long (lN (andL (L ++ extS (ext n 0) n 7 d i))), .long (lN (orL (L ++ extS (ext n 0) n 7 d i)))], aJ Y r 5040 gf]) C (kX0_extend_8 ll Y o r (L ++ extS (ext n 0) n 7 d i) gf n (d ||| (2 ^ (8 * i + 7))) (by first | assumption | omega) (or_40 hd (by omega)) (by have e1 := extS_len (E := ext n 0) (c := 7) (by omega) cq36; have e2 : (ext n 1 d).length = (extS (ext n 0) n 7 d 5).length := rfl; rw [List.length_append]; omega) (hg)) (va_cwS 4 C.t gX0_extend_X0_extend rfl rfl rfl (by decide +kernel) ⟨by decide, by decide⟩) rfl [0, 1] rfl (by decide) rfl (Nat.le_of_ble_eq_true rfl) dX0_extend_52 ⟨Nat.le_of_ble_eq_true rfl, Nat.le_of_ble_eq_true rfl⟩) [0, 1] [] rfl rfl (by decide) (by decide) (fun u52 hw52 => ?_)
        obtain hw52 := hw52
        refine J_eq (pc' := 55) (lv' := [(0, .ref o), (1, .int (nI n)), (2, .int (nI 7)), (3, .long (lN d)), (5, .int (nI i))]) (st' := []) (ws' := [oB o 0 [.ref r, .int (nI (((L ++ extS (ext n 0) n 7 d i) ++ ext n 0 (d ||| (2 ^ (8 * i + 7)))).length)), .long (lN (andL ((L ++ extS (ext n 0) n 7 d i) ++ ext n 0 (d ||| (2 ^ (8 * i + 7)))))), .long (lN (orL ((L ++ extS (ext n 0) n 7 d i) ++ ext n 0 (d ||| (2 ^ (8 * i + 7))))))], aJ Y r 5040 u52]) rfl rfl rfl rfl ?_
        refine J_iinc (j := 4) (v := nI (i + 1)) (lv' := [(5, .int (nI (i + 1))), (0, .ref o), (1, .int (nI n)), (2, .int (nI 7)), (3, .long (lN d))]) C dX0_extend_55 rfl (nI_1 _) (by decide) rfl ?_
        refine J_goto (tgt := 15) C dX0_extend_58 (by decide) ?_
        refine J_lv (lv' := [(0, .ref o), (1, .int (nI n)), (2, .int (nI 7)), (3, .long (lN d)), (5, .int (nI (i + 1)))]) [1, 2, 3, 4, 0] rfl ?_
        have e0 := extS_y (E := ext n 0) (c := 7) cq36
        refine J_eq (lv' := [(0, .ref o), (1, .int (nI n)), (2, .int (nI 7)), (3, .long (lN d)), (5, .int (nI ((i + 1))))]) (ws' := [oB o 0 [.ref r, .int (nI ((L ++ extS (ext n 0) n 7 d (i + 1)).length)), .long (lN (andL (L ++ extS (ext n 0) n 7 d (i + 1)))), .long (lN (orL (L ++ extS (ext n 0) n 7 d (i + 1))))], aJ Y r 5040 u52]) rfl (rfl) rfl (by rw [e0] <;> simp only [List.append_assoc]) ?_
        exact ih15 (i + 1, u52) ⟨(by omega), (by rw [e0, ← List.append_assoc]; exact hw52)⟩ (show 5 - (i + 1) < 5 - i from by omega)
  · exact absurd cq3 (by omega)

set_option maxHeartbeats 4000000 in
set_option maxRecDepth 100000 in
theorem kX0_extend_6 (ll : Launch) (Y : GY) (o : Nat) (r : Nat) (L : List Nat) (f : Nat → Int64) (n : Nat) (d : Nat) (hn : n = 3 ∨ n = 4) (hd : d < 2 ^ 40) (hL : L.length + (ext n 2 d).length ≤ 5040) (hr2 : DRep L f) : CT ll yX0_extend wsX0_extend { frames := 3, cells := 0, slots := 0, locals := 72 } Y [.ref o, .int (nI n), .int (nI 6), .long (lN d)] [oB o 0 [.ref r, .int (nI L.length), .long (lN (andL L)), .long (lN (orL L))], aJ Y r 5040 f] (QV (S := Nat → Int64) Y (fun u => DRep (L ++ ext n 2 d) u) (fun u => [oB o 0 [.ref r, .int (nI ((L ++ ext n 2 d).length)), .long (lN (andL (L ++ ext n 2 d))), .long (lN (orL (L ++ ext n 2 d)))], aJ Y r 5040 u])) 0 0 := by
  refine CT_of (cc := cX0_extend) (maxL := 6) (ret := none) (by decide) rfl (Nat.le_of_ble_eq_true rfl) ?_
  intro pp ee ss mm bl mt cc AA C hr hnm
  have w0 := C.nm ("SecretDinner$Deals", 43, yX4_sizeOfHand) (List.mem_of_getElem? (i := 7) (show xn_m[7]? = some ("SecretDinner$Deals", 43, yX4_sizeOfHand) from rfl))
  have w1 := C.t _ (List.mem_of_getElem? (i := 21) (show wsX0_extend[21]? = some (Cond.initialized RX4) from rfl))
  have w2 := C.t _ (List.mem_of_getElem? (i := 20) (show wsX0_extend[20]? = some (Cond.static yX4_sizeOfHand) from rfl))
  refine J_eq (lv' := [(0, .ref o), (1, .int (nI n)), (2, .int (nI 6)), (3, .long (lN d))]) (ws' := [oB o 0 [.ref r, .int (nI L.length), .long (lN (andL L)), .long (lN (orL L))], aJ Y r 5040 f]) rfl rfl rfl rfl ?_
  refine J_iload_n C dX0_extend_0 rfl 2 rfl ?_
  refine J_bipush C dX0_extend_1 (v := nI 8) (by decide) ?_
  refine J_icmp_ltN (tgt := 12) C dX0_extend_3 (by decide) (by omega) (by omega) (fun cq3 => ?_) (fun cq3 => ?_)
  · refine J_iconst C dX0_extend_12 (v := nI 0) (by decide) ?_
    refine J_istore (lv' := [(5, .int (nI 0)), (0, .ref o), (1, .int (nI n)), (2, .int (nI 6)), (3, .long (lN d))]) C dX0_extend_13 (by decide) rfl ?_
    refine J_lv (lv' := [(0, .ref o), (1, .int (nI n)), (2, .int (nI 6)), (3, .long (lN d)), (5, .int (nI 0))]) [1, 2, 3, 4, 0] rfl ?_
    refine J_loop (σ := Nat × (Nat → Int64)) (I := fun (i, gf) => (i ≤ 5) ∧ (DRep (L ++ extS (ext n 1) n 6 d i) gf)) (μ := fun (i, gf) => 5 - i) (lvf := fun (i, gf) => [(0, .ref o), (1, .int (nI n)), (2, .int (nI 6)), (3, .long (lN d)), (5, .int (nI i))]) (stf := fun (i, gf) => []) (wsf := fun (i, gf) => [oB o 0 [.ref r, .int (nI ((L ++ extS (ext n 1) n 6 d i).length)), .long (lN (andL (L ++ extS (ext n 1) n 6 d i))), .long (lN (orL (L ++ extS (ext n 1) n 6 d i)))], aJ Y r 5040 gf]) ?_ (0, f) ⟨(by omega), (by simpa [extS] using hr2)⟩ (rfl) rfl (by simp only [extS, List.append_nil])
    rintro ⟨i, gf⟩ ⟨hi, hg⟩ ih15
    refine J_eq (lv' := [(0, .ref o), (1, .int (nI n)), (2, .int (nI 6)), (3, .long (lN d)), (5, .int (nI i))]) (st' := []) (ws' := [oB o 0 [.ref r, .int (nI ((L ++ extS (ext n 1) n 6 d i).length)), .long (lN (andL (L ++ extS (ext n 1) n 6 d i))), .long (lN (orL (L ++ extS (ext n 1) n 6 d i)))], aJ Y r 5040 gf]) rfl rfl rfl rfl ?_
    refine J_iload C dX0_extend_15 4 rfl ?_
    refine J_iconst C dX0_extend_17 (v := nI 4) (by decide) ?_
    refine J_icmp_gtN (tgt := 61) C dX0_extend_18 (by decide) (by omega) (by omega) (fun cq18 => ?_) (fun cq18 => ?_)
    · exact J_vret C hr dX0_extend_61 gf (by have e := hg; rw [show i = 5 from by omega] at e; exact e) (by rw [show i = 5 from by omega]; rfl)
    · refine J_lload_n C dX0_extend_21 rfl 3 rfl ?_
      refine J_iload C dX0_extend_22 4 rfl ?_
      refine J_callI (wr := [oB o 0 [.ref r, .int (nI ((L ++ extS (ext n 1) n 6 d i).length)), .long (lN (andL (L ++ extS (ext n 1) n 6 d i))), .long (lN (orL (L ++ extS (ext n 1) n 6 d i)))], aJ Y r 5040 gf]) C (R_S (st := []) (wc := []) C (kX0_cardsAt ll Y d i (Nat.lt_trans hd (by decide)) (by omega)) (va_cwS 2 C.t gX0_extend_X0_cardsAt rfl rfl rfl (by decide +kernel) ⟨by decide, by decide⟩) rfl [] rfl (by decide) rfl (Nat.le_of_ble_eq_true rfl) dX0_extend_24 ⟨Nat.le_of_ble_eq_true rfl, Nat.le_of_ble_eq_true rfl⟩) [] [0, 1] rfl rfl (by decide) (by decide) (fun r24 u24 hw24 => ?_)
      subst hw24
      refine J_eq (pc' := 27) (lv' := [(0, .ref o), (1, .int (nI n)), (2, .int (nI 6)), (3, .long (lN d)), (5, .int (nI i))]) (st' := [.int (nI (hAt d i))]) (ws' := [oB o 0 [.ref r, .int (nI ((L ++ extS (ext n 1) n 6 d i).length)), .long (lN (andL (L ++ extS (ext n 1) n 6 d i))), .long (lN (orL (L ++ extS (ext n 1) n 6 d i)))], aJ Y r 5040 gf]) rfl rfl rfl rfl ?_
      refine J_callI (wr := [oB o 0 [.ref r, .int (nI ((L ++ extS (ext n 1) n 6 d i).length)), .long (lN (andL (L ++ extS (ext n 1) n 6 d i))), .long (lN (orL (L ++ extS (ext n 1) n 6 d i)))], aJ Y r 5040 gf]) C (R_S (st := []) (wc := []) C (kJ6_bitCount_0f7a4 ll Y (hAt d i) (hAt_lt _ _)) (va_cwS 1 C.t gX0_extend_J6_bitCount_0f7a4 rfl rfl rfl (by decide +kernel) ⟨by decide, by decide⟩) rfl [] rfl (by decide) rfl (Nat.le_of_ble_eq_true rfl) dX0_extend_27 ⟨Nat.le_of_ble_eq_true rfl, Nat.le_of_ble_eq_true rfl⟩) [] [0, 1] rfl rfl (by decide) (by decide) (fun r27 u27 hw27 => ?_)
      subst hw27
      refine J_eq (pc' := 30) (lv' := [(0, .ref o), (1, .int (nI n)), (2, .int (nI 6)), (3, .long (lN d)), (5, .int (nI i))]) (st' := [.int (nI (pc8 (hAt d i)))]) (ws' := [oB o 0 [.ref r, .int (nI ((L ++ extS (ext n 1) n 6 d i).length)), .long (lN (andL (L ++ extS (ext n 1) n 6 d i))), .long (lN (orL (L ++ extS (ext n 1) n 6 d i)))], aJ Y r 5040 gf]) rfl rfl rfl rfl ?_
      refine J_iload_n C dX0_extend_30 rfl 1 rfl ?_
      refine J_iload C dX0_extend_31 4 rfl ?_
      refine J_callI (wr := [oB o 0 [.ref r, .int (nI ((L ++ extS (ext n 1) n 6 d i).length)), .long (lN (andL (L ++ extS (ext n 1) n 6 d i))), .long (lN (orL (L ++ extS (ext n 1) n 6 d i)))], aJ Y r 5040 gf]) C (R_SN (st := [.int (nI (pc8 (hAt d i)))]) (wc := []) C (kX4_sizeOfHand ll Y n i (by first | assumption | omega) (by omega)) ⟨va_cnB (host := "SecretDinner") 2 C.t gX0_extend_X4_sizeOfHand_n43 rfl rfl rfl (va_Nw.of rfl w0) w1 (by decide +kernel) ⟨by decide, by decide⟩, w2, trivial⟩ rfl [] rfl (by decide) rfl (Nat.le_of_ble_eq_true rfl) dX0_extend_33 ⟨Nat.le_of_ble_eq_true rfl, Nat.le_of_ble_eq_true rfl⟩) [] [0, 1] rfl rfl (by decide) (by decide) (fun r33 u33 hw33 => ?_)
      subst hw33
      refine J_eq (pc' := 36) (lv' := [(0, .ref o), (1, .int (nI n)), (2, .int (nI 6)), (3, .long (lN d)), (5, .int (nI i))]) (st' := [.int (nI (szH n i)), .int (nI (pc8 (hAt d i)))]) (ws' := [oB o 0 [.ref r, .int (nI ((L ++ extS (ext n 1) n 6 d i).length)), .long (lN (andL (L ++ extS (ext n 1) n 6 d i))), .long (lN (orL (L ++ extS (ext n 1) n 6 d i)))], aJ Y r 5040 gf]) rfl rfl rfl rfl ?_
      refine J_icmp_geN (tgt := 55) C dX0_extend_36 (by decide) (Nat.lt_of_le_of_lt (pc8_le _) (by decide)) (Nat.lt_of_le_of_lt (szH_le _ _) (by decide)) (fun cq36 => ?_) (fun cq36 => ?_)
      · refine J_iinc (j := 4) (v := nI (i + 1)) (lv' := [(5, .int (nI (i + 1))), (0, .ref o), (1, .int (nI n)), (2, .int (nI 6)), (3, .long (lN d))]) C dX0_extend_55 rfl (nI_1 _) (by decide) rfl ?_
        refine J_goto (tgt := 15) C dX0_extend_58 (by decide) ?_
        refine J_lv (lv' := [(0, .ref o), (1, .int (nI n)), (2, .int (nI 6)), (3, .long (lN d)), (5, .int (nI (i + 1)))]) [1, 2, 3, 4, 0] rfl ?_
        have e0 := extS_n (E := ext n 1) (c := 6) cq36
        refine J_eq (lv' := [(0, .ref o), (1, .int (nI n)), (2, .int (nI 6)), (3, .long (lN d)), (5, .int (nI ((i + 1))))]) (ws' := [oB o 0 [.ref r, .int (nI ((L ++ extS (ext n 1) n 6 d (i + 1)).length)), .long (lN (andL (L ++ extS (ext n 1) n 6 d (i + 1)))), .long (lN (orL (L ++ extS (ext n 1) n 6 d (i + 1))))], aJ Y r 5040 gf]) rfl (rfl) rfl (by rw [e0] <;> simp only [List.append_assoc]) ?_
        exact ih15 (i + 1, gf) ⟨(by omega), (by rw [e0]; exact hg)⟩ (show 5 - (i + 1) < 5 - i from by omega)
      · refine J_aload_n C dX0_extend_39 rfl 0 rfl ?_
        refine J_iload_n C dX0_extend_40 rfl 1 rfl ?_
        refine J_iload_n C dX0_extend_41 rfl 2 rfl ?_
        refine J_iconst C dX0_extend_42 (v := nI 1) (by decide) ?_
        refine J_iaddN C dX0_extend_43 ?_
        refine J_lload_n C dX0_extend_44 rfl 3 rfl ?_
        refine J_iload C dX0_extend_45 4 rfl ?_
        refine J_iload_n C dX0_extend_47 rfl 2 rfl ?_
        refine J_callL (wr := [oB o 0 [.ref r, .int (nI ((L ++ extS (ext n 1) n 6 d i).length)), .long (lN (andL (L ++ extS (ext n 1) n 6 d i))), .long (lN (orL (L ++ extS (ext n 1) n 6 d i)))], aJ Y r 5040 gf]) C (R_S (st := [.long (lN d), .int (nI (6 + 1)), .int (nI n), .ref o]) (wc := []) C (kX0_cardBit ll Y i 6 (by omega) (by decide)) (va_cwS 2 C.t gX0_extend_X0_cardBit rfl rfl rfl (by decide +kernel) ⟨by decide, by decide⟩) rfl [] rfl (by decide) rfl (Nat.le_of_ble_eq_true rfl) dX0_extend_48 ⟨Nat.le_of_ble_eq_true rfl, Nat.le_of_ble_eq_true rfl⟩) [] [0, 1] rfl rfl (by decide) (by decide) (fun r48 u48 hw48 => ?_)
        subst hw48
        refine J_eq (pc' := 51) (lv' := [(0, .ref o), (1, .int (nI n)), (2, .int (nI 6)), (3, .long (lN d)), (5, .int (nI i))]) (st' := [.long (lN (2 ^ (8 * i + 6))), .long (lN d), .int (nI (6 + 1)), .int (nI n), .ref o]) (ws' := [oB o 0 [.ref r, .int (nI ((L ++ extS (ext n 1) n 6 d i).length)), .long (lN (andL (L ++ extS (ext n 1) n 6 d i))), .long (lN (orL (L ++ extS (ext n 1) n 6 d i)))], aJ Y r 5040 gf]) rfl rfl rfl rfl ?_
        refine J_lorN C dX0_extend_51 ?_
        refine J_callV (wr := []) C (R_S (st := []) (wc := [oB o 0 [.ref r, .int (nI ((L ++ extS (ext n 1) n 6 d i).length)), .long (lN (andL (L ++ extS (ext n 1) n 6 d i))), .long (lN (orL (L ++ extS (ext n 1) n 6 d i)))], aJ Y r 5040 gf]) C (kX0_extend_7 ll Y o r (L ++ extS (ext n 1) n 6 d i) gf n (d ||| (2 ^ (8 * i + 6))) (by first | assumption | omega) (or_40 hd (by omega)) (by have e1 := extS_len (E := ext n 1) (c := 6) (by omega) cq36; have e2 : (ext n 2 d).length = (extS (ext n 1) n 6 d 5).length := rfl; rw [List.length_append]; omega) (hg)) (va_cwS 4 C.t gX0_extend_X0_extend rfl rfl rfl (by decide +kernel) ⟨by decide, by decide⟩) rfl [0, 1] rfl (by decide) rfl (Nat.le_of_ble_eq_true rfl) dX0_extend_52 ⟨Nat.le_of_ble_eq_true rfl, Nat.le_of_ble_eq_true rfl⟩) [0, 1] [] rfl rfl (by decide) (by decide) (fun u52 hw52 => ?_)
        obtain hw52 := hw52
        refine J_eq (pc' := 55) (lv' := [(0, .ref o), (1, .int (nI n)), (2, .int (nI 6)), (3, .long (lN d)), (5, .int (nI i))]) (st' := []) (ws' := [oB o 0 [.ref r, .int (nI (((L ++ extS (ext n 1) n 6 d i) ++ ext n 1 (d ||| (2 ^ (8 * i + 6)))).length)), .long (lN (andL ((L ++ extS (ext n 1) n 6 d i) ++ ext n 1 (d ||| (2 ^ (8 * i + 6)))))), .long (lN (orL ((L ++ extS (ext n 1) n 6 d i) ++ ext n 1 (d ||| (2 ^ (8 * i + 6))))))], aJ Y r 5040 u52]) rfl rfl rfl rfl ?_
        refine J_iinc (j := 4) (v := nI (i + 1)) (lv' := [(5, .int (nI (i + 1))), (0, .ref o), (1, .int (nI n)), (2, .int (nI 6)), (3, .long (lN d))]) C dX0_extend_55 rfl (nI_1 _) (by decide) rfl ?_
        refine J_goto (tgt := 15) C dX0_extend_58 (by decide) ?_
        refine J_lv (lv' := [(0, .ref o), (1, .int (nI n)), (2, .int (nI 6)), (3, .long (lN d)), (5, .int (nI (i + 1)))]) [1, 2, 3, 4, 0] rfl ?_
        have e0 := extS_y (E := ext n 1) (c := 6) cq36
        refine J_eq (lv' := [(0, .ref o), (1, .int (nI n)), (2, .int (nI 6)), (3, .long (lN d)), (5, .int (nI ((i + 1))))]) (ws' := [oB o 0 [.ref r, .int (nI ((L ++ extS (ext n 1) n 6 d (i + 1)).length)), .long (lN (andL (L ++ extS (ext n 1) n 6 d (i + 1)))), .long (lN (orL (L ++ extS (ext n 1) n 6 d (i + 1))))], aJ Y r 5040 u52]) rfl (rfl) rfl (by rw [e0] <;> simp only [List.append_assoc]) ?_
        exact ih15 (i + 1, u52) ⟨(by omega), (by rw [e0, ← List.append_assoc]; exact hw52)⟩ (show 5 - (i + 1) < 5 - i from by omega)
  · exact absurd cq3 (by omega)

set_option maxHeartbeats 4000000 in
set_option maxRecDepth 100000 in
theorem kX0_extend_5 (ll : Launch) (Y : GY) (o : Nat) (r : Nat) (L : List Nat) (f : Nat → Int64) (n : Nat) (d : Nat) (hn : n = 3 ∨ n = 4) (hd : d < 2 ^ 40) (hL : L.length + (ext n 3 d).length ≤ 5040) (hr2 : DRep L f) : CT ll yX0_extend wsX0_extend { frames := 4, cells := 0, slots := 0, locals := 97 } Y [.ref o, .int (nI n), .int (nI 5), .long (lN d)] [oB o 0 [.ref r, .int (nI L.length), .long (lN (andL L)), .long (lN (orL L))], aJ Y r 5040 f] (QV (S := Nat → Int64) Y (fun u => DRep (L ++ ext n 3 d) u) (fun u => [oB o 0 [.ref r, .int (nI ((L ++ ext n 3 d).length)), .long (lN (andL (L ++ ext n 3 d))), .long (lN (orL (L ++ ext n 3 d)))], aJ Y r 5040 u])) 0 0 := by
  refine CT_of (cc := cX0_extend) (maxL := 6) (ret := none) (by decide) rfl (Nat.le_of_ble_eq_true rfl) ?_
  intro pp ee ss mm bl mt cc AA C hr hnm
  have w0 := C.nm ("SecretDinner$Deals", 43, yX4_sizeOfHand) (List.mem_of_getElem? (i := 7) (show xn_m[7]? = some ("SecretDinner$Deals", 43, yX4_sizeOfHand) from rfl))
  have w1 := C.t _ (List.mem_of_getElem? (i := 21) (show wsX0_extend[21]? = some (Cond.initialized RX4) from rfl))
  have w2 := C.t _ (List.mem_of_getElem? (i := 20) (show wsX0_extend[20]? = some (Cond.static yX4_sizeOfHand) from rfl))
  refine J_eq (lv' := [(0, .ref o), (1, .int (nI n)), (2, .int (nI 5)), (3, .long (lN d))]) (ws' := [oB o 0 [.ref r, .int (nI L.length), .long (lN (andL L)), .long (lN (orL L))], aJ Y r 5040 f]) rfl rfl rfl rfl ?_
  refine J_iload_n C dX0_extend_0 rfl 2 rfl ?_
  refine J_bipush C dX0_extend_1 (v := nI 8) (by decide) ?_
  refine J_icmp_ltN (tgt := 12) C dX0_extend_3 (by decide) (by omega) (by omega) (fun cq3 => ?_) (fun cq3 => ?_)
  · refine J_iconst C dX0_extend_12 (v := nI 0) (by decide) ?_
    refine J_istore (lv' := [(5, .int (nI 0)), (0, .ref o), (1, .int (nI n)), (2, .int (nI 5)), (3, .long (lN d))]) C dX0_extend_13 (by decide) rfl ?_
    refine J_lv (lv' := [(0, .ref o), (1, .int (nI n)), (2, .int (nI 5)), (3, .long (lN d)), (5, .int (nI 0))]) [1, 2, 3, 4, 0] rfl ?_
    refine J_loop (σ := Nat × (Nat → Int64)) (I := fun (i, gf) => (i ≤ 5) ∧ (DRep (L ++ extS (ext n 2) n 5 d i) gf)) (μ := fun (i, gf) => 5 - i) (lvf := fun (i, gf) => [(0, .ref o), (1, .int (nI n)), (2, .int (nI 5)), (3, .long (lN d)), (5, .int (nI i))]) (stf := fun (i, gf) => []) (wsf := fun (i, gf) => [oB o 0 [.ref r, .int (nI ((L ++ extS (ext n 2) n 5 d i).length)), .long (lN (andL (L ++ extS (ext n 2) n 5 d i))), .long (lN (orL (L ++ extS (ext n 2) n 5 d i)))], aJ Y r 5040 gf]) ?_ (0, f) ⟨(by omega), (by simpa [extS] using hr2)⟩ (rfl) rfl (by simp only [extS, List.append_nil])
    rintro ⟨i, gf⟩ ⟨hi, hg⟩ ih15
    refine J_eq (lv' := [(0, .ref o), (1, .int (nI n)), (2, .int (nI 5)), (3, .long (lN d)), (5, .int (nI i))]) (st' := []) (ws' := [oB o 0 [.ref r, .int (nI ((L ++ extS (ext n 2) n 5 d i).length)), .long (lN (andL (L ++ extS (ext n 2) n 5 d i))), .long (lN (orL (L ++ extS (ext n 2) n 5 d i)))], aJ Y r 5040 gf]) rfl rfl rfl rfl ?_
    refine J_iload C dX0_extend_15 4 rfl ?_
    refine J_iconst C dX0_extend_17 (v := nI 4) (by decide) ?_
    refine J_icmp_gtN (tgt := 61) C dX0_extend_18 (by decide) (by omega) (by omega) (fun cq18 => ?_) (fun cq18 => ?_)
    · exact J_vret C hr dX0_extend_61 gf (by have e := hg; rw [show i = 5 from by omega] at e; exact e) (by rw [show i = 5 from by omega]; rfl)
    · refine J_lload_n C dX0_extend_21 rfl 3 rfl ?_
      refine J_iload C dX0_extend_22 4 rfl ?_
      refine J_callI (wr := [oB o 0 [.ref r, .int (nI ((L ++ extS (ext n 2) n 5 d i).length)), .long (lN (andL (L ++ extS (ext n 2) n 5 d i))), .long (lN (orL (L ++ extS (ext n 2) n 5 d i)))], aJ Y r 5040 gf]) C (R_S (st := []) (wc := []) C (kX0_cardsAt ll Y d i (Nat.lt_trans hd (by decide)) (by omega)) (va_cwS 2 C.t gX0_extend_X0_cardsAt rfl rfl rfl (by decide +kernel) ⟨by decide, by decide⟩) rfl [] rfl (by decide) rfl (Nat.le_of_ble_eq_true rfl) dX0_extend_24 ⟨Nat.le_of_ble_eq_true rfl, Nat.le_of_ble_eq_true rfl⟩) [] [0, 1] rfl rfl (by decide) (by decide) (fun r24 u24 hw24 => ?_)
      subst hw24
      refine J_eq (pc' := 27) (lv' := [(0, .ref o), (1, .int (nI n)), (2, .int (nI 5)), (3, .long (lN d)), (5, .int (nI i))]) (st' := [.int (nI (hAt d i))]) (ws' := [oB o 0 [.ref r, .int (nI ((L ++ extS (ext n 2) n 5 d i).length)), .long (lN (andL (L ++ extS (ext n 2) n 5 d i))), .long (lN (orL (L ++ extS (ext n 2) n 5 d i)))], aJ Y r 5040 gf]) rfl rfl rfl rfl ?_
      refine J_callI (wr := [oB o 0 [.ref r, .int (nI ((L ++ extS (ext n 2) n 5 d i).length)), .long (lN (andL (L ++ extS (ext n 2) n 5 d i))), .long (lN (orL (L ++ extS (ext n 2) n 5 d i)))], aJ Y r 5040 gf]) C (R_S (st := []) (wc := []) C (kJ6_bitCount_0f7a4 ll Y (hAt d i) (hAt_lt _ _)) (va_cwS 1 C.t gX0_extend_J6_bitCount_0f7a4 rfl rfl rfl (by decide +kernel) ⟨by decide, by decide⟩) rfl [] rfl (by decide) rfl (Nat.le_of_ble_eq_true rfl) dX0_extend_27 ⟨Nat.le_of_ble_eq_true rfl, Nat.le_of_ble_eq_true rfl⟩) [] [0, 1] rfl rfl (by decide) (by decide) (fun r27 u27 hw27 => ?_)
      subst hw27
      refine J_eq (pc' := 30) (lv' := [(0, .ref o), (1, .int (nI n)), (2, .int (nI 5)), (3, .long (lN d)), (5, .int (nI i))]) (st' := [.int (nI (pc8 (hAt d i)))]) (ws' := [oB o 0 [.ref r, .int (nI ((L ++ extS (ext n 2) n 5 d i).length)), .long (lN (andL (L ++ extS (ext n 2) n 5 d i))), .long (lN (orL (L ++ extS (ext n 2) n 5 d i)))], aJ Y r 5040 gf]) rfl rfl rfl rfl ?_
      refine J_iload_n C dX0_extend_30 rfl 1 rfl ?_
      refine J_iload C dX0_extend_31 4 rfl ?_
      refine J_callI (wr := [oB o 0 [.ref r, .int (nI ((L ++ extS (ext n 2) n 5 d i).length)), .long (lN (andL (L ++ extS (ext n 2) n 5 d i))), .long (lN (orL (L ++ extS (ext n 2) n 5 d i)))], aJ Y r 5040 gf]) C (R_SN (st := [.int (nI (pc8 (hAt d i)))]) (wc := []) C (kX4_sizeOfHand ll Y n i (by first | assumption | omega) (by omega)) ⟨va_cnB (host := "SecretDinner") 2 C.t gX0_extend_X4_sizeOfHand_n43 rfl rfl rfl (va_Nw.of rfl w0) w1 (by decide +kernel) ⟨by decide, by decide⟩, w2, trivial⟩ rfl [] rfl (by decide) rfl (Nat.le_of_ble_eq_true rfl) dX0_extend_33 ⟨Nat.le_of_ble_eq_true rfl, Nat.le_of_ble_eq_true rfl⟩) [] [0, 1] rfl rfl (by decide) (by decide) (fun r33 u33 hw33 => ?_)
      subst hw33
      refine J_eq (pc' := 36) (lv' := [(0, .ref o), (1, .int (nI n)), (2, .int (nI 5)), (3, .long (lN d)), (5, .int (nI i))]) (st' := [.int (nI (szH n i)), .int (nI (pc8 (hAt d i)))]) (ws' := [oB o 0 [.ref r, .int (nI ((L ++ extS (ext n 2) n 5 d i).length)), .long (lN (andL (L ++ extS (ext n 2) n 5 d i))), .long (lN (orL (L ++ extS (ext n 2) n 5 d i)))], aJ Y r 5040 gf]) rfl rfl rfl rfl ?_
      refine J_icmp_geN (tgt := 55) C dX0_extend_36 (by decide) (Nat.lt_of_le_of_lt (pc8_le _) (by decide)) (Nat.lt_of_le_of_lt (szH_le _ _) (by decide)) (fun cq36 => ?_) (fun cq36 => ?_)
      · refine J_iinc (j := 4) (v := nI (i + 1)) (lv' := [(5, .int (nI (i + 1))), (0, .ref o), (1, .int (nI n)), (2, .int (nI 5)), (3, .long (lN d))]) C dX0_extend_55 rfl (nI_1 _) (by decide) rfl ?_
        refine J_goto (tgt := 15) C dX0_extend_58 (by decide) ?_
        refine J_lv (lv' := [(0, .ref o), (1, .int (nI n)), (2, .int (nI 5)), (3, .long (lN d)), (5, .int (nI (i + 1)))]) [1, 2, 3, 4, 0] rfl ?_
        have e0 := extS_n (E := ext n 2) (c := 5) cq36
        refine J_eq (lv' := [(0, .ref o), (1, .int (nI n)), (2, .int (nI 5)), (3, .long (lN d)), (5, .int (nI ((i + 1))))]) (ws' := [oB o 0 [.ref r, .int (nI ((L ++ extS (ext n 2) n 5 d (i + 1)).length)), .long (lN (andL (L ++ extS (ext n 2) n 5 d (i + 1)))), .long (lN (orL (L ++ extS (ext n 2) n 5 d (i + 1))))], aJ Y r 5040 gf]) rfl (rfl) rfl (by rw [e0] <;> simp only [List.append_assoc]) ?_
        exact ih15 (i + 1, gf) ⟨(by omega), (by rw [e0]; exact hg)⟩ (show 5 - (i + 1) < 5 - i from by omega)
      · refine J_aload_n C dX0_extend_39 rfl 0 rfl ?_
        refine J_iload_n C dX0_extend_40 rfl 1 rfl ?_
        refine J_iload_n C dX0_extend_41 rfl 2 rfl ?_
        refine J_iconst C dX0_extend_42 (v := nI 1) (by decide) ?_
        refine J_iaddN C dX0_extend_43 ?_
        refine J_lload_n C dX0_extend_44 rfl 3 rfl ?_
        refine J_iload C dX0_extend_45 4 rfl ?_
        refine J_iload_n C dX0_extend_47 rfl 2 rfl ?_
        refine J_callL (wr := [oB o 0 [.ref r, .int (nI ((L ++ extS (ext n 2) n 5 d i).length)), .long (lN (andL (L ++ extS (ext n 2) n 5 d i))), .long (lN (orL (L ++ extS (ext n 2) n 5 d i)))], aJ Y r 5040 gf]) C (R_S (st := [.long (lN d), .int (nI (5 + 1)), .int (nI n), .ref o]) (wc := []) C (kX0_cardBit ll Y i 5 (by omega) (by decide)) (va_cwS 2 C.t gX0_extend_X0_cardBit rfl rfl rfl (by decide +kernel) ⟨by decide, by decide⟩) rfl [] rfl (by decide) rfl (Nat.le_of_ble_eq_true rfl) dX0_extend_48 ⟨Nat.le_of_ble_eq_true rfl, Nat.le_of_ble_eq_true rfl⟩) [] [0, 1] rfl rfl (by decide) (by decide) (fun r48 u48 hw48 => ?_)
        subst hw48
        refine J_eq (pc' := 51) (lv' := [(0, .ref o), (1, .int (nI n)), (2, .int (nI 5)), (3, .long (lN d)), (5, .int (nI i))]) (st' := [.long (lN (2 ^ (8 * i + 5))), .long (lN d), .int (nI (5 + 1)), .int (nI n), .ref o]) (ws' := [oB o 0 [.ref r, .int (nI ((L ++ extS (ext n 2) n 5 d i).length)), .long (lN (andL (L ++ extS (ext n 2) n 5 d i))), .long (lN (orL (L ++ extS (ext n 2) n 5 d i)))], aJ Y r 5040 gf]) rfl rfl rfl rfl ?_
        refine J_lorN C dX0_extend_51 ?_
        refine J_callV (wr := []) C (R_S (st := []) (wc := [oB o 0 [.ref r, .int (nI ((L ++ extS (ext n 2) n 5 d i).length)), .long (lN (andL (L ++ extS (ext n 2) n 5 d i))), .long (lN (orL (L ++ extS (ext n 2) n 5 d i)))], aJ Y r 5040 gf]) C (kX0_extend_6 ll Y o r (L ++ extS (ext n 2) n 5 d i) gf n (d ||| (2 ^ (8 * i + 5))) (by first | assumption | omega) (or_40 hd (by omega)) (by have e1 := extS_len (E := ext n 2) (c := 5) (by omega) cq36; have e2 : (ext n 3 d).length = (extS (ext n 2) n 5 d 5).length := rfl; rw [List.length_append]; omega) (hg)) (va_cwS 4 C.t gX0_extend_X0_extend rfl rfl rfl (by decide +kernel) ⟨by decide, by decide⟩) rfl [0, 1] rfl (by decide) rfl (Nat.le_of_ble_eq_true rfl) dX0_extend_52 ⟨Nat.le_of_ble_eq_true rfl, Nat.le_of_ble_eq_true rfl⟩) [0, 1] [] rfl rfl (by decide) (by decide) (fun u52 hw52 => ?_)
        obtain hw52 := hw52
        refine J_eq (pc' := 55) (lv' := [(0, .ref o), (1, .int (nI n)), (2, .int (nI 5)), (3, .long (lN d)), (5, .int (nI i))]) (st' := []) (ws' := [oB o 0 [.ref r, .int (nI (((L ++ extS (ext n 2) n 5 d i) ++ ext n 2 (d ||| (2 ^ (8 * i + 5)))).length)), .long (lN (andL ((L ++ extS (ext n 2) n 5 d i) ++ ext n 2 (d ||| (2 ^ (8 * i + 5)))))), .long (lN (orL ((L ++ extS (ext n 2) n 5 d i) ++ ext n 2 (d ||| (2 ^ (8 * i + 5))))))], aJ Y r 5040 u52]) rfl rfl rfl rfl ?_
        refine J_iinc (j := 4) (v := nI (i + 1)) (lv' := [(5, .int (nI (i + 1))), (0, .ref o), (1, .int (nI n)), (2, .int (nI 5)), (3, .long (lN d))]) C dX0_extend_55 rfl (nI_1 _) (by decide) rfl ?_
        refine J_goto (tgt := 15) C dX0_extend_58 (by decide) ?_
        refine J_lv (lv' := [(0, .ref o), (1, .int (nI n)), (2, .int (nI 5)), (3, .long (lN d)), (5, .int (nI (i + 1)))]) [1, 2, 3, 4, 0] rfl ?_
        have e0 := extS_y (E := ext n 2) (c := 5) cq36
        refine J_eq (lv' := [(0, .ref o), (1, .int (nI n)), (2, .int (nI 5)), (3, .long (lN d)), (5, .int (nI ((i + 1))))]) (ws' := [oB o 0 [.ref r, .int (nI ((L ++ extS (ext n 2) n 5 d (i + 1)).length)), .long (lN (andL (L ++ extS (ext n 2) n 5 d (i + 1)))), .long (lN (orL (L ++ extS (ext n 2) n 5 d (i + 1))))], aJ Y r 5040 u52]) rfl (rfl) rfl (by rw [e0] <;> simp only [List.append_assoc]) ?_
        exact ih15 (i + 1, u52) ⟨(by omega), (by rw [e0, ← List.append_assoc]; exact hw52)⟩ (show 5 - (i + 1) < 5 - i from by omega)
  · exact absurd cq3 (by omega)

set_option maxHeartbeats 4000000 in
set_option maxRecDepth 100000 in
theorem kX0_extend_4 (ll : Launch) (Y : GY) (o : Nat) (r : Nat) (L : List Nat) (f : Nat → Int64) (n : Nat) (d : Nat) (hn : n = 3 ∨ n = 4) (hd : d < 2 ^ 40) (hL : L.length + (ext n 4 d).length ≤ 5040) (hr2 : DRep L f) : CT ll yX0_extend wsX0_extend { frames := 5, cells := 0, slots := 0, locals := 122 } Y [.ref o, .int (nI n), .int (nI 4), .long (lN d)] [oB o 0 [.ref r, .int (nI L.length), .long (lN (andL L)), .long (lN (orL L))], aJ Y r 5040 f] (QV (S := Nat → Int64) Y (fun u => DRep (L ++ ext n 4 d) u) (fun u => [oB o 0 [.ref r, .int (nI ((L ++ ext n 4 d).length)), .long (lN (andL (L ++ ext n 4 d))), .long (lN (orL (L ++ ext n 4 d)))], aJ Y r 5040 u])) 0 0 := by
  refine CT_of (cc := cX0_extend) (maxL := 6) (ret := none) (by decide) rfl (Nat.le_of_ble_eq_true rfl) ?_
  intro pp ee ss mm bl mt cc AA C hr hnm
  have w0 := C.nm ("SecretDinner$Deals", 43, yX4_sizeOfHand) (List.mem_of_getElem? (i := 7) (show xn_m[7]? = some ("SecretDinner$Deals", 43, yX4_sizeOfHand) from rfl))
  have w1 := C.t _ (List.mem_of_getElem? (i := 21) (show wsX0_extend[21]? = some (Cond.initialized RX4) from rfl))
  have w2 := C.t _ (List.mem_of_getElem? (i := 20) (show wsX0_extend[20]? = some (Cond.static yX4_sizeOfHand) from rfl))
  refine J_eq (lv' := [(0, .ref o), (1, .int (nI n)), (2, .int (nI 4)), (3, .long (lN d))]) (ws' := [oB o 0 [.ref r, .int (nI L.length), .long (lN (andL L)), .long (lN (orL L))], aJ Y r 5040 f]) rfl rfl rfl rfl ?_
  refine J_iload_n C dX0_extend_0 rfl 2 rfl ?_
  refine J_bipush C dX0_extend_1 (v := nI 8) (by decide) ?_
  refine J_icmp_ltN (tgt := 12) C dX0_extend_3 (by decide) (by omega) (by omega) (fun cq3 => ?_) (fun cq3 => ?_)
  · refine J_iconst C dX0_extend_12 (v := nI 0) (by decide) ?_
    refine J_istore (lv' := [(5, .int (nI 0)), (0, .ref o), (1, .int (nI n)), (2, .int (nI 4)), (3, .long (lN d))]) C dX0_extend_13 (by decide) rfl ?_
    refine J_lv (lv' := [(0, .ref o), (1, .int (nI n)), (2, .int (nI 4)), (3, .long (lN d)), (5, .int (nI 0))]) [1, 2, 3, 4, 0] rfl ?_
    refine J_loop (σ := Nat × (Nat → Int64)) (I := fun (i, gf) => (i ≤ 5) ∧ (DRep (L ++ extS (ext n 3) n 4 d i) gf)) (μ := fun (i, gf) => 5 - i) (lvf := fun (i, gf) => [(0, .ref o), (1, .int (nI n)), (2, .int (nI 4)), (3, .long (lN d)), (5, .int (nI i))]) (stf := fun (i, gf) => []) (wsf := fun (i, gf) => [oB o 0 [.ref r, .int (nI ((L ++ extS (ext n 3) n 4 d i).length)), .long (lN (andL (L ++ extS (ext n 3) n 4 d i))), .long (lN (orL (L ++ extS (ext n 3) n 4 d i)))], aJ Y r 5040 gf]) ?_ (0, f) ⟨(by omega), (by simpa [extS] using hr2)⟩ (rfl) rfl (by simp only [extS, List.append_nil])
    rintro ⟨i, gf⟩ ⟨hi, hg⟩ ih15
    refine J_eq (lv' := [(0, .ref o), (1, .int (nI n)), (2, .int (nI 4)), (3, .long (lN d)), (5, .int (nI i))]) (st' := []) (ws' := [oB o 0 [.ref r, .int (nI ((L ++ extS (ext n 3) n 4 d i).length)), .long (lN (andL (L ++ extS (ext n 3) n 4 d i))), .long (lN (orL (L ++ extS (ext n 3) n 4 d i)))], aJ Y r 5040 gf]) rfl rfl rfl rfl ?_
    refine J_iload C dX0_extend_15 4 rfl ?_
    refine J_iconst C dX0_extend_17 (v := nI 4) (by decide) ?_
    refine J_icmp_gtN (tgt := 61) C dX0_extend_18 (by decide) (by omega) (by omega) (fun cq18 => ?_) (fun cq18 => ?_)
    · exact J_vret C hr dX0_extend_61 gf (by have e := hg; rw [show i = 5 from by omega] at e; exact e) (by rw [show i = 5 from by omega]; rfl)
    · refine J_lload_n C dX0_extend_21 rfl 3 rfl ?_
      refine J_iload C dX0_extend_22 4 rfl ?_
      refine J_callI (wr := [oB o 0 [.ref r, .int (nI ((L ++ extS (ext n 3) n 4 d i).length)), .long (lN (andL (L ++ extS (ext n 3) n 4 d i))), .long (lN (orL (L ++ extS (ext n 3) n 4 d i)))], aJ Y r 5040 gf]) C (R_S (st := []) (wc := []) C (kX0_cardsAt ll Y d i (Nat.lt_trans hd (by decide)) (by omega)) (va_cwS 2 C.t gX0_extend_X0_cardsAt rfl rfl rfl (by decide +kernel) ⟨by decide, by decide⟩) rfl [] rfl (by decide) rfl (Nat.le_of_ble_eq_true rfl) dX0_extend_24 ⟨Nat.le_of_ble_eq_true rfl, Nat.le_of_ble_eq_true rfl⟩) [] [0, 1] rfl rfl (by decide) (by decide) (fun r24 u24 hw24 => ?_)
      subst hw24
      refine J_eq (pc' := 27) (lv' := [(0, .ref o), (1, .int (nI n)), (2, .int (nI 4)), (3, .long (lN d)), (5, .int (nI i))]) (st' := [.int (nI (hAt d i))]) (ws' := [oB o 0 [.ref r, .int (nI ((L ++ extS (ext n 3) n 4 d i).length)), .long (lN (andL (L ++ extS (ext n 3) n 4 d i))), .long (lN (orL (L ++ extS (ext n 3) n 4 d i)))], aJ Y r 5040 gf]) rfl rfl rfl rfl ?_
      refine J_callI (wr := [oB o 0 [.ref r, .int (nI ((L ++ extS (ext n 3) n 4 d i).length)), .long (lN (andL (L ++ extS (ext n 3) n 4 d i))), .long (lN (orL (L ++ extS (ext n 3) n 4 d i)))], aJ Y r 5040 gf]) C (R_S (st := []) (wc := []) C (kJ6_bitCount_0f7a4 ll Y (hAt d i) (hAt_lt _ _)) (va_cwS 1 C.t gX0_extend_J6_bitCount_0f7a4 rfl rfl rfl (by decide +kernel) ⟨by decide, by decide⟩) rfl [] rfl (by decide) rfl (Nat.le_of_ble_eq_true rfl) dX0_extend_27 ⟨Nat.le_of_ble_eq_true rfl, Nat.le_of_ble_eq_true rfl⟩) [] [0, 1] rfl rfl (by decide) (by decide) (fun r27 u27 hw27 => ?_)
      subst hw27
      refine J_eq (pc' := 30) (lv' := [(0, .ref o), (1, .int (nI n)), (2, .int (nI 4)), (3, .long (lN d)), (5, .int (nI i))]) (st' := [.int (nI (pc8 (hAt d i)))]) (ws' := [oB o 0 [.ref r, .int (nI ((L ++ extS (ext n 3) n 4 d i).length)), .long (lN (andL (L ++ extS (ext n 3) n 4 d i))), .long (lN (orL (L ++ extS (ext n 3) n 4 d i)))], aJ Y r 5040 gf]) rfl rfl rfl rfl ?_
      refine J_iload_n C dX0_extend_30 rfl 1 rfl ?_
      refine J_iload C dX0_extend_31 4 rfl ?_
      refine J_callI (wr := [oB o 0 [.ref r, .int (nI ((L ++ extS (ext n 3) n 4 d i).length)), .long (lN (andL (L ++ extS (ext n 3) n 4 d i))), .long (lN (orL (L ++ extS (ext n 3) n 4 d i)))], aJ Y r 5040 gf]) C (R_SN (st := [.int (nI (pc8 (hAt d i)))]) (wc := []) C (kX4_sizeOfHand ll Y n i (by first | assumption | omega) (by omega)) ⟨va_cnB (host := "SecretDinner") 2 C.t gX0_extend_X4_sizeOfHand_n43 rfl rfl rfl (va_Nw.of rfl w0) w1 (by decide +kernel) ⟨by decide, by decide⟩, w2, trivial⟩ rfl [] rfl (by decide) rfl (Nat.le_of_ble_eq_true rfl) dX0_extend_33 ⟨Nat.le_of_ble_eq_true rfl, Nat.le_of_ble_eq_true rfl⟩) [] [0, 1] rfl rfl (by decide) (by decide) (fun r33 u33 hw33 => ?_)
      subst hw33
      refine J_eq (pc' := 36) (lv' := [(0, .ref o), (1, .int (nI n)), (2, .int (nI 4)), (3, .long (lN d)), (5, .int (nI i))]) (st' := [.int (nI (szH n i)), .int (nI (pc8 (hAt d i)))]) (ws' := [oB o 0 [.ref r, .int (nI ((L ++ extS (ext n 3) n 4 d i).length)), .long (lN (andL (L ++ extS (ext n 3) n 4 d i))), .long (lN (orL (L ++ extS (ext n 3) n 4 d i)))], aJ Y r 5040 gf]) rfl rfl rfl rfl ?_
      refine J_icmp_geN (tgt := 55) C dX0_extend_36 (by decide) (Nat.lt_of_le_of_lt (pc8_le _) (by decide)) (Nat.lt_of_le_of_lt (szH_le _ _) (by decide)) (fun cq36 => ?_) (fun cq36 => ?_)
      · refine J_iinc (j := 4) (v := nI (i + 1)) (lv' := [(5, .int (nI (i + 1))), (0, .ref o), (1, .int (nI n)), (2, .int (nI 4)), (3, .long (lN d))]) C dX0_extend_55 rfl (nI_1 _) (by decide) rfl ?_
        refine J_goto (tgt := 15) C dX0_extend_58 (by decide) ?_
        refine J_lv (lv' := [(0, .ref o), (1, .int (nI n)), (2, .int (nI 4)), (3, .long (lN d)), (5, .int (nI (i + 1)))]) [1, 2, 3, 4, 0] rfl ?_
        have e0 := extS_n (E := ext n 3) (c := 4) cq36
        refine J_eq (lv' := [(0, .ref o), (1, .int (nI n)), (2, .int (nI 4)), (3, .long (lN d)), (5, .int (nI ((i + 1))))]) (ws' := [oB o 0 [.ref r, .int (nI ((L ++ extS (ext n 3) n 4 d (i + 1)).length)), .long (lN (andL (L ++ extS (ext n 3) n 4 d (i + 1)))), .long (lN (orL (L ++ extS (ext n 3) n 4 d (i + 1))))], aJ Y r 5040 gf]) rfl (rfl) rfl (by rw [e0] <;> simp only [List.append_assoc]) ?_
        exact ih15 (i + 1, gf) ⟨(by omega), (by rw [e0]; exact hg)⟩ (show 5 - (i + 1) < 5 - i from by omega)
      · refine J_aload_n C dX0_extend_39 rfl 0 rfl ?_
        refine J_iload_n C dX0_extend_40 rfl 1 rfl ?_
        refine J_iload_n C dX0_extend_41 rfl 2 rfl ?_
        refine J_iconst C dX0_extend_42 (v := nI 1) (by decide) ?_
        refine J_iaddN C dX0_extend_43 ?_
        refine J_lload_n C dX0_extend_44 rfl 3 rfl ?_
        refine J_iload C dX0_extend_45 4 rfl ?_
        refine J_iload_n C dX0_extend_47 rfl 2 rfl ?_
        refine J_callL (wr := [oB o 0 [.ref r, .int (nI ((L ++ extS (ext n 3) n 4 d i).length)), .long (lN (andL (L ++ extS (ext n 3) n 4 d i))), .long (lN (orL (L ++ extS (ext n 3) n 4 d i)))], aJ Y r 5040 gf]) C (R_S (st := [.long (lN d), .int (nI (4 + 1)), .int (nI n), .ref o]) (wc := []) C (kX0_cardBit ll Y i 4 (by omega) (by decide)) (va_cwS 2 C.t gX0_extend_X0_cardBit rfl rfl rfl (by decide +kernel) ⟨by decide, by decide⟩) rfl [] rfl (by decide) rfl (Nat.le_of_ble_eq_true rfl) dX0_extend_48 ⟨Nat.le_of_ble_eq_true rfl, Nat.le_of_ble_eq_true rfl⟩) [] [0, 1] rfl rfl (by decide) (by decide) (fun r48 u48 hw48 => ?_)
        subst hw48
        refine J_eq (pc' := 51) (lv' := [(0, .ref o), (1, .int (nI n)), (2, .int (nI 4)), (3, .long (lN d)), (5, .int (nI i))]) (st' := [.long (lN (2 ^ (8 * i + 4))), .long (lN d), .int (nI (4 + 1)), .int (nI n), .ref o]) (ws' := [oB o 0 [.ref r, .int (nI ((L ++ extS (ext n 3) n 4 d i).length)), .long (lN (andL (L ++ extS (ext n 3) n 4 d i))), .long (lN (orL (L ++ extS (ext n 3) n 4 d i)))], aJ Y r 5040 gf]) rfl rfl rfl rfl ?_
        refine J_lorN C dX0_extend_51 ?_
        refine J_callV (wr := []) C (R_S (st := []) (wc := [oB o 0 [.ref r, .int (nI ((L ++ extS (ext n 3) n 4 d i).length)), .long (lN (andL (L ++ extS (ext n 3) n 4 d i))), .long (lN (orL (L ++ extS (ext n 3) n 4 d i)))], aJ Y r 5040 gf]) C (kX0_extend_5 ll Y o r (L ++ extS (ext n 3) n 4 d i) gf n (d ||| (2 ^ (8 * i + 4))) (by first | assumption | omega) (or_40 hd (by omega)) (by have e1 := extS_len (E := ext n 3) (c := 4) (by omega) cq36; have e2 : (ext n 4 d).length = (extS (ext n 3) n 4 d 5).length := rfl; rw [List.length_append]; omega) (hg)) (va_cwS 4 C.t gX0_extend_X0_extend rfl rfl rfl (by decide +kernel) ⟨by decide, by decide⟩) rfl [0, 1] rfl (by decide) rfl (Nat.le_of_ble_eq_true rfl) dX0_extend_52 ⟨Nat.le_of_ble_eq_true rfl, Nat.le_of_ble_eq_true rfl⟩) [0, 1] [] rfl rfl (by decide) (by decide) (fun u52 hw52 => ?_)
        obtain hw52 := hw52
        refine J_eq (pc' := 55) (lv' := [(0, .ref o), (1, .int (nI n)), (2, .int (nI 4)), (3, .long (lN d)), (5, .int (nI i))]) (st' := []) (ws' := [oB o 0 [.ref r, .int (nI (((L ++ extS (ext n 3) n 4 d i) ++ ext n 3 (d ||| (2 ^ (8 * i + 4)))).length)), .long (lN (andL ((L ++ extS (ext n 3) n 4 d i) ++ ext n 3 (d ||| (2 ^ (8 * i + 4)))))), .long (lN (orL ((L ++ extS (ext n 3) n 4 d i) ++ ext n 3 (d ||| (2 ^ (8 * i + 4))))))], aJ Y r 5040 u52]) rfl rfl rfl rfl ?_
        refine J_iinc (j := 4) (v := nI (i + 1)) (lv' := [(5, .int (nI (i + 1))), (0, .ref o), (1, .int (nI n)), (2, .int (nI 4)), (3, .long (lN d))]) C dX0_extend_55 rfl (nI_1 _) (by decide) rfl ?_
        refine J_goto (tgt := 15) C dX0_extend_58 (by decide) ?_
        refine J_lv (lv' := [(0, .ref o), (1, .int (nI n)), (2, .int (nI 4)), (3, .long (lN d)), (5, .int (nI (i + 1)))]) [1, 2, 3, 4, 0] rfl ?_
        have e0 := extS_y (E := ext n 3) (c := 4) cq36
        refine J_eq (lv' := [(0, .ref o), (1, .int (nI n)), (2, .int (nI 4)), (3, .long (lN d)), (5, .int (nI ((i + 1))))]) (ws' := [oB o 0 [.ref r, .int (nI ((L ++ extS (ext n 3) n 4 d (i + 1)).length)), .long (lN (andL (L ++ extS (ext n 3) n 4 d (i + 1)))), .long (lN (orL (L ++ extS (ext n 3) n 4 d (i + 1))))], aJ Y r 5040 u52]) rfl (rfl) rfl (by rw [e0] <;> simp only [List.append_assoc]) ?_
        exact ih15 (i + 1, u52) ⟨(by omega), (by rw [e0, ← List.append_assoc]; exact hw52)⟩ (show 5 - (i + 1) < 5 - i from by omega)
  · exact absurd cq3 (by omega)

set_option maxHeartbeats 4000000 in
set_option maxRecDepth 100000 in
theorem kX0_extend_3 (ll : Launch) (Y : GY) (o : Nat) (r : Nat) (L : List Nat) (f : Nat → Int64) (n : Nat) (d : Nat) (hn : n = 3 ∨ n = 4) (hd : d < 2 ^ 40) (hL : L.length + (ext n 5 d).length ≤ 5040) (hr2 : DRep L f) : CT ll yX0_extend wsX0_extend { frames := 6, cells := 0, slots := 0, locals := 147 } Y [.ref o, .int (nI n), .int (nI 3), .long (lN d)] [oB o 0 [.ref r, .int (nI L.length), .long (lN (andL L)), .long (lN (orL L))], aJ Y r 5040 f] (QV (S := Nat → Int64) Y (fun u => DRep (L ++ ext n 5 d) u) (fun u => [oB o 0 [.ref r, .int (nI ((L ++ ext n 5 d).length)), .long (lN (andL (L ++ ext n 5 d))), .long (lN (orL (L ++ ext n 5 d)))], aJ Y r 5040 u])) 0 0 := by
  refine CT_of (cc := cX0_extend) (maxL := 6) (ret := none) (by decide) rfl (Nat.le_of_ble_eq_true rfl) ?_
  intro pp ee ss mm bl mt cc AA C hr hnm
  have w0 := C.nm ("SecretDinner$Deals", 43, yX4_sizeOfHand) (List.mem_of_getElem? (i := 7) (show xn_m[7]? = some ("SecretDinner$Deals", 43, yX4_sizeOfHand) from rfl))
  have w1 := C.t _ (List.mem_of_getElem? (i := 21) (show wsX0_extend[21]? = some (Cond.initialized RX4) from rfl))
  have w2 := C.t _ (List.mem_of_getElem? (i := 20) (show wsX0_extend[20]? = some (Cond.static yX4_sizeOfHand) from rfl))
  refine J_eq (lv' := [(0, .ref o), (1, .int (nI n)), (2, .int (nI 3)), (3, .long (lN d))]) (ws' := [oB o 0 [.ref r, .int (nI L.length), .long (lN (andL L)), .long (lN (orL L))], aJ Y r 5040 f]) rfl rfl rfl rfl ?_
  refine J_iload_n C dX0_extend_0 rfl 2 rfl ?_
  refine J_bipush C dX0_extend_1 (v := nI 8) (by decide) ?_
  refine J_icmp_ltN (tgt := 12) C dX0_extend_3 (by decide) (by omega) (by omega) (fun cq3 => ?_) (fun cq3 => ?_)
  · refine J_iconst C dX0_extend_12 (v := nI 0) (by decide) ?_
    refine J_istore (lv' := [(5, .int (nI 0)), (0, .ref o), (1, .int (nI n)), (2, .int (nI 3)), (3, .long (lN d))]) C dX0_extend_13 (by decide) rfl ?_
    refine J_lv (lv' := [(0, .ref o), (1, .int (nI n)), (2, .int (nI 3)), (3, .long (lN d)), (5, .int (nI 0))]) [1, 2, 3, 4, 0] rfl ?_
    refine J_loop (σ := Nat × (Nat → Int64)) (I := fun (i, gf) => (i ≤ 5) ∧ (DRep (L ++ extS (ext n 4) n 3 d i) gf)) (μ := fun (i, gf) => 5 - i) (lvf := fun (i, gf) => [(0, .ref o), (1, .int (nI n)), (2, .int (nI 3)), (3, .long (lN d)), (5, .int (nI i))]) (stf := fun (i, gf) => []) (wsf := fun (i, gf) => [oB o 0 [.ref r, .int (nI ((L ++ extS (ext n 4) n 3 d i).length)), .long (lN (andL (L ++ extS (ext n 4) n 3 d i))), .long (lN (orL (L ++ extS (ext n 4) n 3 d i)))], aJ Y r 5040 gf]) ?_ (0, f) ⟨(by omega), (by simpa [extS] using hr2)⟩ (rfl) rfl (by simp only [extS, List.append_nil])
    rintro ⟨i, gf⟩ ⟨hi, hg⟩ ih15
    refine J_eq (lv' := [(0, .ref o), (1, .int (nI n)), (2, .int (nI 3)), (3, .long (lN d)), (5, .int (nI i))]) (st' := []) (ws' := [oB o 0 [.ref r, .int (nI ((L ++ extS (ext n 4) n 3 d i).length)), .long (lN (andL (L ++ extS (ext n 4) n 3 d i))), .long (lN (orL (L ++ extS (ext n 4) n 3 d i)))], aJ Y r 5040 gf]) rfl rfl rfl rfl ?_
    refine J_iload C dX0_extend_15 4 rfl ?_
    refine J_iconst C dX0_extend_17 (v := nI 4) (by decide) ?_
    refine J_icmp_gtN (tgt := 61) C dX0_extend_18 (by decide) (by omega) (by omega) (fun cq18 => ?_) (fun cq18 => ?_)
    · exact J_vret C hr dX0_extend_61 gf (by have e := hg; rw [show i = 5 from by omega] at e; exact e) (by rw [show i = 5 from by omega]; rfl)
    · refine J_lload_n C dX0_extend_21 rfl 3 rfl ?_
      refine J_iload C dX0_extend_22 4 rfl ?_
      refine J_callI (wr := [oB o 0 [.ref r, .int (nI ((L ++ extS (ext n 4) n 3 d i).length)), .long (lN (andL (L ++ extS (ext n 4) n 3 d i))), .long (lN (orL (L ++ extS (ext n 4) n 3 d i)))], aJ Y r 5040 gf]) C (R_S (st := []) (wc := []) C (kX0_cardsAt ll Y d i (Nat.lt_trans hd (by decide)) (by omega)) (va_cwS 2 C.t gX0_extend_X0_cardsAt rfl rfl rfl (by decide +kernel) ⟨by decide, by decide⟩) rfl [] rfl (by decide) rfl (Nat.le_of_ble_eq_true rfl) dX0_extend_24 ⟨Nat.le_of_ble_eq_true rfl, Nat.le_of_ble_eq_true rfl⟩) [] [0, 1] rfl rfl (by decide) (by decide) (fun r24 u24 hw24 => ?_)
      subst hw24
      refine J_eq (pc' := 27) (lv' := [(0, .ref o), (1, .int (nI n)), (2, .int (nI 3)), (3, .long (lN d)), (5, .int (nI i))]) (st' := [.int (nI (hAt d i))]) (ws' := [oB o 0 [.ref r, .int (nI ((L ++ extS (ext n 4) n 3 d i).length)), .long (lN (andL (L ++ extS (ext n 4) n 3 d i))), .long (lN (orL (L ++ extS (ext n 4) n 3 d i)))], aJ Y r 5040 gf]) rfl rfl rfl rfl ?_
      refine J_callI (wr := [oB o 0 [.ref r, .int (nI ((L ++ extS (ext n 4) n 3 d i).length)), .long (lN (andL (L ++ extS (ext n 4) n 3 d i))), .long (lN (orL (L ++ extS (ext n 4) n 3 d i)))], aJ Y r 5040 gf]) C (R_S (st := []) (wc := []) C (kJ6_bitCount_0f7a4 ll Y (hAt d i) (hAt_lt _ _)) (va_cwS 1 C.t gX0_extend_J6_bitCount_0f7a4 rfl rfl rfl (by decide +kernel) ⟨by decide, by decide⟩) rfl [] rfl (by decide) rfl (Nat.le_of_ble_eq_true rfl) dX0_extend_27 ⟨Nat.le_of_ble_eq_true rfl, Nat.le_of_ble_eq_true rfl⟩) [] [0, 1] rfl rfl (by decide) (by decide) (fun r27 u27 hw27 => ?_)
      subst hw27
      refine J_eq (pc' := 30) (lv' := [(0, .ref o), (1, .int (nI n)), (2, .int (nI 3)), (3, .long (lN d)), (5, .int (nI i))]) (st' := [.int (nI (pc8 (hAt d i)))]) (ws' := [oB o 0 [.ref r, .int (nI ((L ++ extS (ext n 4) n 3 d i).length)), .long (lN (andL (L ++ extS (ext n 4) n 3 d i))), .long (lN (orL (L ++ extS (ext n 4) n 3 d i)))], aJ Y r 5040 gf]) rfl rfl rfl rfl ?_
      refine J_iload_n C dX0_extend_30 rfl 1 rfl ?_
      refine J_iload C dX0_extend_31 4 rfl ?_
      refine J_callI (wr := [oB o 0 [.ref r, .int (nI ((L ++ extS (ext n 4) n 3 d i).length)), .long (lN (andL (L ++ extS (ext n 4) n 3 d i))), .long (lN (orL (L ++ extS (ext n 4) n 3 d i)))], aJ Y r 5040 gf]) C (R_SN (st := [.int (nI (pc8 (hAt d i)))]) (wc := []) C (kX4_sizeOfHand ll Y n i (by first | assumption | omega) (by omega)) ⟨va_cnB (host := "SecretDinner") 2 C.t gX0_extend_X4_sizeOfHand_n43 rfl rfl rfl (va_Nw.of rfl w0) w1 (by decide +kernel) ⟨by decide, by decide⟩, w2, trivial⟩ rfl [] rfl (by decide) rfl (Nat.le_of_ble_eq_true rfl) dX0_extend_33 ⟨Nat.le_of_ble_eq_true rfl, Nat.le_of_ble_eq_true rfl⟩) [] [0, 1] rfl rfl (by decide) (by decide) (fun r33 u33 hw33 => ?_)
      subst hw33
      refine J_eq (pc' := 36) (lv' := [(0, .ref o), (1, .int (nI n)), (2, .int (nI 3)), (3, .long (lN d)), (5, .int (nI i))]) (st' := [.int (nI (szH n i)), .int (nI (pc8 (hAt d i)))]) (ws' := [oB o 0 [.ref r, .int (nI ((L ++ extS (ext n 4) n 3 d i).length)), .long (lN (andL (L ++ extS (ext n 4) n 3 d i))), .long (lN (orL (L ++ extS (ext n 4) n 3 d i)))], aJ Y r 5040 gf]) rfl rfl rfl rfl ?_
      refine J_icmp_geN (tgt := 55) C dX0_extend_36 (by decide) (Nat.lt_of_le_of_lt (pc8_le _) (by decide)) (Nat.lt_of_le_of_lt (szH_le _ _) (by decide)) (fun cq36 => ?_) (fun cq36 => ?_)
      · refine J_iinc (j := 4) (v := nI (i + 1)) (lv' := [(5, .int (nI (i + 1))), (0, .ref o), (1, .int (nI n)), (2, .int (nI 3)), (3, .long (lN d))]) C dX0_extend_55 rfl (nI_1 _) (by decide) rfl ?_
        refine J_goto (tgt := 15) C dX0_extend_58 (by decide) ?_
        refine J_lv (lv' := [(0, .ref o), (1, .int (nI n)), (2, .int (nI 3)), (3, .long (lN d)), (5, .int (nI (i + 1)))]) [1, 2, 3, 4, 0] rfl ?_
        have e0 := extS_n (E := ext n 4) (c := 3) cq36
        refine J_eq (lv' := [(0, .ref o), (1, .int (nI n)), (2, .int (nI 3)), (3, .long (lN d)), (5, .int (nI ((i + 1))))]) (ws' := [oB o 0 [.ref r, .int (nI ((L ++ extS (ext n 4) n 3 d (i + 1)).length)), .long (lN (andL (L ++ extS (ext n 4) n 3 d (i + 1)))), .long (lN (orL (L ++ extS (ext n 4) n 3 d (i + 1))))], aJ Y r 5040 gf]) rfl (rfl) rfl (by rw [e0] <;> simp only [List.append_assoc]) ?_
        exact ih15 (i + 1, gf) ⟨(by omega), (by rw [e0]; exact hg)⟩ (show 5 - (i + 1) < 5 - i from by omega)
      · refine J_aload_n C dX0_extend_39 rfl 0 rfl ?_
        refine J_iload_n C dX0_extend_40 rfl 1 rfl ?_
        refine J_iload_n C dX0_extend_41 rfl 2 rfl ?_
        refine J_iconst C dX0_extend_42 (v := nI 1) (by decide) ?_
        refine J_iaddN C dX0_extend_43 ?_
        refine J_lload_n C dX0_extend_44 rfl 3 rfl ?_
        refine J_iload C dX0_extend_45 4 rfl ?_
        refine J_iload_n C dX0_extend_47 rfl 2 rfl ?_
        refine J_callL (wr := [oB o 0 [.ref r, .int (nI ((L ++ extS (ext n 4) n 3 d i).length)), .long (lN (andL (L ++ extS (ext n 4) n 3 d i))), .long (lN (orL (L ++ extS (ext n 4) n 3 d i)))], aJ Y r 5040 gf]) C (R_S (st := [.long (lN d), .int (nI (3 + 1)), .int (nI n), .ref o]) (wc := []) C (kX0_cardBit ll Y i 3 (by omega) (by decide)) (va_cwS 2 C.t gX0_extend_X0_cardBit rfl rfl rfl (by decide +kernel) ⟨by decide, by decide⟩) rfl [] rfl (by decide) rfl (Nat.le_of_ble_eq_true rfl) dX0_extend_48 ⟨Nat.le_of_ble_eq_true rfl, Nat.le_of_ble_eq_true rfl⟩) [] [0, 1] rfl rfl (by decide) (by decide) (fun r48 u48 hw48 => ?_)
        subst hw48
        refine J_eq (pc' := 51) (lv' := [(0, .ref o), (1, .int (nI n)), (2, .int (nI 3)), (3, .long (lN d)), (5, .int (nI i))]) (st' := [.long (lN (2 ^ (8 * i + 3))), .long (lN d), .int (nI (3 + 1)), .int (nI n), .ref o]) (ws' := [oB o 0 [.ref r, .int (nI ((L ++ extS (ext n 4) n 3 d i).length)), .long (lN (andL (L ++ extS (ext n 4) n 3 d i))), .long (lN (orL (L ++ extS (ext n 4) n 3 d i)))], aJ Y r 5040 gf]) rfl rfl rfl rfl ?_
        refine J_lorN C dX0_extend_51 ?_
        refine J_callV (wr := []) C (R_S (st := []) (wc := [oB o 0 [.ref r, .int (nI ((L ++ extS (ext n 4) n 3 d i).length)), .long (lN (andL (L ++ extS (ext n 4) n 3 d i))), .long (lN (orL (L ++ extS (ext n 4) n 3 d i)))], aJ Y r 5040 gf]) C (kX0_extend_4 ll Y o r (L ++ extS (ext n 4) n 3 d i) gf n (d ||| (2 ^ (8 * i + 3))) (by first | assumption | omega) (or_40 hd (by omega)) (by have e1 := extS_len (E := ext n 4) (c := 3) (by omega) cq36; have e2 : (ext n 5 d).length = (extS (ext n 4) n 3 d 5).length := rfl; rw [List.length_append]; omega) (hg)) (va_cwS 4 C.t gX0_extend_X0_extend rfl rfl rfl (by decide +kernel) ⟨by decide, by decide⟩) rfl [0, 1] rfl (by decide) rfl (Nat.le_of_ble_eq_true rfl) dX0_extend_52 ⟨Nat.le_of_ble_eq_true rfl, Nat.le_of_ble_eq_true rfl⟩) [0, 1] [] rfl rfl (by decide) (by decide) (fun u52 hw52 => ?_)
        obtain hw52 := hw52
        refine J_eq (pc' := 55) (lv' := [(0, .ref o), (1, .int (nI n)), (2, .int (nI 3)), (3, .long (lN d)), (5, .int (nI i))]) (st' := []) (ws' := [oB o 0 [.ref r, .int (nI (((L ++ extS (ext n 4) n 3 d i) ++ ext n 4 (d ||| (2 ^ (8 * i + 3)))).length)), .long (lN (andL ((L ++ extS (ext n 4) n 3 d i) ++ ext n 4 (d ||| (2 ^ (8 * i + 3)))))), .long (lN (orL ((L ++ extS (ext n 4) n 3 d i) ++ ext n 4 (d ||| (2 ^ (8 * i + 3))))))], aJ Y r 5040 u52]) rfl rfl rfl rfl ?_
        refine J_iinc (j := 4) (v := nI (i + 1)) (lv' := [(5, .int (nI (i + 1))), (0, .ref o), (1, .int (nI n)), (2, .int (nI 3)), (3, .long (lN d))]) C dX0_extend_55 rfl (nI_1 _) (by decide) rfl ?_
        refine J_goto (tgt := 15) C dX0_extend_58 (by decide) ?_
        refine J_lv (lv' := [(0, .ref o), (1, .int (nI n)), (2, .int (nI 3)), (3, .long (lN d)), (5, .int (nI (i + 1)))]) [1, 2, 3, 4, 0] rfl ?_
        have e0 := extS_y (E := ext n 4) (c := 3) cq36
        refine J_eq (lv' := [(0, .ref o), (1, .int (nI n)), (2, .int (nI 3)), (3, .long (lN d)), (5, .int (nI ((i + 1))))]) (ws' := [oB o 0 [.ref r, .int (nI ((L ++ extS (ext n 4) n 3 d (i + 1)).length)), .long (lN (andL (L ++ extS (ext n 4) n 3 d (i + 1)))), .long (lN (orL (L ++ extS (ext n 4) n 3 d (i + 1))))], aJ Y r 5040 u52]) rfl (rfl) rfl (by rw [e0] <;> simp only [List.append_assoc]) ?_
        exact ih15 (i + 1, u52) ⟨(by omega), (by rw [e0, ← List.append_assoc]; exact hw52)⟩ (show 5 - (i + 1) < 5 - i from by omega)
  · exact absurd cq3 (by omega)

set_option maxHeartbeats 4000000 in
set_option maxRecDepth 100000 in
theorem kX0_extend_2 (ll : Launch) (Y : GY) (o : Nat) (r : Nat) (L : List Nat) (f : Nat → Int64) (n : Nat) (d : Nat) (hn : n = 3 ∨ n = 4) (hd : d < 2 ^ 40) (hL : L.length + (ext n 6 d).length ≤ 5040) (hr2 : DRep L f) : CT ll yX0_extend wsX0_extend { frames := 7, cells := 0, slots := 0, locals := 172 } Y [.ref o, .int (nI n), .int (nI 2), .long (lN d)] [oB o 0 [.ref r, .int (nI L.length), .long (lN (andL L)), .long (lN (orL L))], aJ Y r 5040 f] (QV (S := Nat → Int64) Y (fun u => DRep (L ++ ext n 6 d) u) (fun u => [oB o 0 [.ref r, .int (nI ((L ++ ext n 6 d).length)), .long (lN (andL (L ++ ext n 6 d))), .long (lN (orL (L ++ ext n 6 d)))], aJ Y r 5040 u])) 0 0 := by
  refine CT_of (cc := cX0_extend) (maxL := 6) (ret := none) (by decide) rfl (Nat.le_of_ble_eq_true rfl) ?_
  intro pp ee ss mm bl mt cc AA C hr hnm
  have w0 := C.nm ("SecretDinner$Deals", 43, yX4_sizeOfHand) (List.mem_of_getElem? (i := 7) (show xn_m[7]? = some ("SecretDinner$Deals", 43, yX4_sizeOfHand) from rfl))
  have w1 := C.t _ (List.mem_of_getElem? (i := 21) (show wsX0_extend[21]? = some (Cond.initialized RX4) from rfl))
  have w2 := C.t _ (List.mem_of_getElem? (i := 20) (show wsX0_extend[20]? = some (Cond.static yX4_sizeOfHand) from rfl))
  refine J_eq (lv' := [(0, .ref o), (1, .int (nI n)), (2, .int (nI 2)), (3, .long (lN d))]) (ws' := [oB o 0 [.ref r, .int (nI L.length), .long (lN (andL L)), .long (lN (orL L))], aJ Y r 5040 f]) rfl rfl rfl rfl ?_
  refine J_iload_n C dX0_extend_0 rfl 2 rfl ?_
  refine J_bipush C dX0_extend_1 (v := nI 8) (by decide) ?_
  refine J_icmp_ltN (tgt := 12) C dX0_extend_3 (by decide) (by omega) (by omega) (fun cq3 => ?_) (fun cq3 => ?_)
  · refine J_iconst C dX0_extend_12 (v := nI 0) (by decide) ?_
    refine J_istore (lv' := [(5, .int (nI 0)), (0, .ref o), (1, .int (nI n)), (2, .int (nI 2)), (3, .long (lN d))]) C dX0_extend_13 (by decide) rfl ?_
    refine J_lv (lv' := [(0, .ref o), (1, .int (nI n)), (2, .int (nI 2)), (3, .long (lN d)), (5, .int (nI 0))]) [1, 2, 3, 4, 0] rfl ?_
    refine J_loop (σ := Nat × (Nat → Int64)) (I := fun (i, gf) => (i ≤ 5) ∧ (DRep (L ++ extS (ext n 5) n 2 d i) gf)) (μ := fun (i, gf) => 5 - i) (lvf := fun (i, gf) => [(0, .ref o), (1, .int (nI n)), (2, .int (nI 2)), (3, .long (lN d)), (5, .int (nI i))]) (stf := fun (i, gf) => []) (wsf := fun (i, gf) => [oB o 0 [.ref r, .int (nI ((L ++ extS (ext n 5) n 2 d i).length)), .long (lN (andL (L ++ extS (ext n 5) n 2 d i))), .long (lN (orL (L ++ extS (ext n 5) n 2 d i)))], aJ Y r 5040 gf]) ?_ (0, f) ⟨(by omega), (by simpa [extS] using hr2)⟩ (rfl) rfl (by simp only [extS, List.append_nil])
    rintro ⟨i, gf⟩ ⟨hi, hg⟩ ih15
    refine J_eq (lv' := [(0, .ref o), (1, .int (nI n)), (2, .int (nI 2)), (3, .long (lN d)), (5, .int (nI i))]) (st' := []) (ws' := [oB o 0 [.ref r, .int (nI ((L ++ extS (ext n 5) n 2 d i).length)), .long (lN (andL (L ++ extS (ext n 5) n 2 d i))), .long (lN (orL (L ++ extS (ext n 5) n 2 d i)))], aJ Y r 5040 gf]) rfl rfl rfl rfl ?_
    refine J_iload C dX0_extend_15 4 rfl ?_
    refine J_iconst C dX0_extend_17 (v := nI 4) (by decide) ?_
    refine J_icmp_gtN (tgt := 61) C dX0_extend_18 (by decide) (by omega) (by omega) (fun cq18 => ?_) (fun cq18 => ?_)
    · exact J_vret C hr dX0_extend_61 gf (by have e := hg; rw [show i = 5 from by omega] at e; exact e) (by rw [show i = 5 from by omega]; rfl)
    · refine J_lload_n C dX0_extend_21 rfl 3 rfl ?_
      refine J_iload C dX0_extend_22 4 rfl ?_
      refine J_callI (wr := [oB o 0 [.ref r, .int (nI ((L ++ extS (ext n 5) n 2 d i).length)), .long (lN (andL (L ++ extS (ext n 5) n 2 d i))), .long (lN (orL (L ++ extS (ext n 5) n 2 d i)))], aJ Y r 5040 gf]) C (R_S (st := []) (wc := []) C (kX0_cardsAt ll Y d i (Nat.lt_trans hd (by decide)) (by omega)) (va_cwS 2 C.t gX0_extend_X0_cardsAt rfl rfl rfl (by decide +kernel) ⟨by decide, by decide⟩) rfl [] rfl (by decide) rfl (Nat.le_of_ble_eq_true rfl) dX0_extend_24 ⟨Nat.le_of_ble_eq_true rfl, Nat.le_of_ble_eq_true rfl⟩) [] [0, 1] rfl rfl (by decide) (by decide) (fun r24 u24 hw24 => ?_)
      subst hw24
      refine J_eq (pc' := 27) (lv' := [(0, .ref o), (1, .int (nI n)), (2, .int (nI 2)), (3, .long (lN d)), (5, .int (nI i))]) (st' := [.int (nI (hAt d i))]) (ws' := [oB o 0 [.ref r, .int (nI ((L ++ extS (ext n 5) n 2 d i).length)), .long (lN (andL (L ++ extS (ext n 5) n 2 d i))), .long (lN (orL (L ++ extS (ext n 5) n 2 d i)))], aJ Y r 5040 gf]) rfl rfl rfl rfl ?_
      refine J_callI (wr := [oB o 0 [.ref r, .int (nI ((L ++ extS (ext n 5) n 2 d i).length)), .long (lN (andL (L ++ extS (ext n 5) n 2 d i))), .long (lN (orL (L ++ extS (ext n 5) n 2 d i)))], aJ Y r 5040 gf]) C (R_S (st := []) (wc := []) C (kJ6_bitCount_0f7a4 ll Y (hAt d i) (hAt_lt _ _)) (va_cwS 1 C.t gX0_extend_J6_bitCount_0f7a4 rfl rfl rfl (by decide +kernel) ⟨by decide, by decide⟩) rfl [] rfl (by decide) rfl (Nat.le_of_ble_eq_true rfl) dX0_extend_27 ⟨Nat.le_of_ble_eq_true rfl, Nat.le_of_ble_eq_true rfl⟩) [] [0, 1] rfl rfl (by decide) (by decide) (fun r27 u27 hw27 => ?_)
      subst hw27
      refine J_eq (pc' := 30) (lv' := [(0, .ref o), (1, .int (nI n)), (2, .int (nI 2)), (3, .long (lN d)), (5, .int (nI i))]) (st' := [.int (nI (pc8 (hAt d i)))]) (ws' := [oB o 0 [.ref r, .int (nI ((L ++ extS (ext n 5) n 2 d i).length)), .long (lN (andL (L ++ extS (ext n 5) n 2 d i))), .long (lN (orL (L ++ extS (ext n 5) n 2 d i)))], aJ Y r 5040 gf]) rfl rfl rfl rfl ?_
      refine J_iload_n C dX0_extend_30 rfl 1 rfl ?_
      refine J_iload C dX0_extend_31 4 rfl ?_
      refine J_callI (wr := [oB o 0 [.ref r, .int (nI ((L ++ extS (ext n 5) n 2 d i).length)), .long (lN (andL (L ++ extS (ext n 5) n 2 d i))), .long (lN (orL (L ++ extS (ext n 5) n 2 d i)))], aJ Y r 5040 gf]) C (R_SN (st := [.int (nI (pc8 (hAt d i)))]) (wc := []) C (kX4_sizeOfHand ll Y n i (by first | assumption | omega) (by omega)) ⟨va_cnB (host := "SecretDinner") 2 C.t gX0_extend_X4_sizeOfHand_n43 rfl rfl rfl (va_Nw.of rfl w0) w1 (by decide +kernel) ⟨by decide, by decide⟩, w2, trivial⟩ rfl [] rfl (by decide) rfl (Nat.le_of_ble_eq_true rfl) dX0_extend_33 ⟨Nat.le_of_ble_eq_true rfl, Nat.le_of_ble_eq_true rfl⟩) [] [0, 1] rfl rfl (by decide) (by decide) (fun r33 u33 hw33 => ?_)
      subst hw33
      refine J_eq (pc' := 36) (lv' := [(0, .ref o), (1, .int (nI n)), (2, .int (nI 2)), (3, .long (lN d)), (5, .int (nI i))]) (st' := [.int (nI (szH n i)), .int (nI (pc8 (hAt d i)))]) (ws' := [oB o 0 [.ref r, .int (nI ((L ++ extS (ext n 5) n 2 d i).length)), .long (lN (andL (L ++ extS (ext n 5) n 2 d i))), .long (lN (orL (L ++ extS (ext n 5) n 2 d i)))], aJ Y r 5040 gf]) rfl rfl rfl rfl ?_
      refine J_icmp_geN (tgt := 55) C dX0_extend_36 (by decide) (Nat.lt_of_le_of_lt (pc8_le _) (by decide)) (Nat.lt_of_le_of_lt (szH_le _ _) (by decide)) (fun cq36 => ?_) (fun cq36 => ?_)
      · refine J_iinc (j := 4) (v := nI (i + 1)) (lv' := [(5, .int (nI (i + 1))), (0, .ref o), (1, .int (nI n)), (2, .int (nI 2)), (3, .long (lN d))]) C dX0_extend_55 rfl (nI_1 _) (by decide) rfl ?_
        refine J_goto (tgt := 15) C dX0_extend_58 (by decide) ?_
        refine J_lv (lv' := [(0, .ref o), (1, .int (nI n)), (2, .int (nI 2)), (3, .long (lN d)), (5, .int (nI (i + 1)))]) [1, 2, 3, 4, 0] rfl ?_
        have e0 := extS_n (E := ext n 5) (c := 2) cq36
        refine J_eq (lv' := [(0, .ref o), (1, .int (nI n)), (2, .int (nI 2)), (3, .long (lN d)), (5, .int (nI ((i + 1))))]) (ws' := [oB o 0 [.ref r, .int (nI ((L ++ extS (ext n 5) n 2 d (i + 1)).length)), .long (lN (andL (L ++ extS (ext n 5) n 2 d (i + 1)))), .long (lN (orL (L ++ extS (ext n 5) n 2 d (i + 1))))], aJ Y r 5040 gf]) rfl (rfl) rfl (by rw [e0] <;> simp only [List.append_assoc]) ?_
        exact ih15 (i + 1, gf) ⟨(by omega), (by rw [e0]; exact hg)⟩ (show 5 - (i + 1) < 5 - i from by omega)
      · refine J_aload_n C dX0_extend_39 rfl 0 rfl ?_
        refine J_iload_n C dX0_extend_40 rfl 1 rfl ?_
        refine J_iload_n C dX0_extend_41 rfl 2 rfl ?_
        refine J_iconst C dX0_extend_42 (v := nI 1) (by decide) ?_
        refine J_iaddN C dX0_extend_43 ?_
        refine J_lload_n C dX0_extend_44 rfl 3 rfl ?_
        refine J_iload C dX0_extend_45 4 rfl ?_
        refine J_iload_n C dX0_extend_47 rfl 2 rfl ?_
        refine J_callL (wr := [oB o 0 [.ref r, .int (nI ((L ++ extS (ext n 5) n 2 d i).length)), .long (lN (andL (L ++ extS (ext n 5) n 2 d i))), .long (lN (orL (L ++ extS (ext n 5) n 2 d i)))], aJ Y r 5040 gf]) C (R_S (st := [.long (lN d), .int (nI (2 + 1)), .int (nI n), .ref o]) (wc := []) C (kX0_cardBit ll Y i 2 (by omega) (by decide)) (va_cwS 2 C.t gX0_extend_X0_cardBit rfl rfl rfl (by decide +kernel) ⟨by decide, by decide⟩) rfl [] rfl (by decide) rfl (Nat.le_of_ble_eq_true rfl) dX0_extend_48 ⟨Nat.le_of_ble_eq_true rfl, Nat.le_of_ble_eq_true rfl⟩) [] [0, 1] rfl rfl (by decide) (by decide) (fun r48 u48 hw48 => ?_)
        subst hw48
        refine J_eq (pc' := 51) (lv' := [(0, .ref o), (1, .int (nI n)), (2, .int (nI 2)), (3, .long (lN d)), (5, .int (nI i))]) (st' := [.long (lN (2 ^ (8 * i + 2))), .long (lN d), .int (nI (2 + 1)), .int (nI n), .ref o]) (ws' := [oB o 0 [.ref r, .int (nI ((L ++ extS (ext n 5) n 2 d i).length)), .long (lN (andL (L ++ extS (ext n 5) n 2 d i))), .long (lN (orL (L ++ extS (ext n 5) n 2 d i)))], aJ Y r 5040 gf]) rfl rfl rfl rfl ?_
        refine J_lorN C dX0_extend_51 ?_
        refine J_callV (wr := []) C (R_S (st := []) (wc := [oB o 0 [.ref r, .int (nI ((L ++ extS (ext n 5) n 2 d i).length)), .long (lN (andL (L ++ extS (ext n 5) n 2 d i))), .long (lN (orL (L ++ extS (ext n 5) n 2 d i)))], aJ Y r 5040 gf]) C (kX0_extend_3 ll Y o r (L ++ extS (ext n 5) n 2 d i) gf n (d ||| (2 ^ (8 * i + 2))) (by first | assumption | omega) (or_40 hd (by omega)) (by have e1 := extS_len (E := ext n 5) (c := 2) (by omega) cq36; have e2 : (ext n 6 d).length = (extS (ext n 5) n 2 d 5).length := rfl; rw [List.length_append]; omega) (hg)) (va_cwS 4 C.t gX0_extend_X0_extend rfl rfl rfl (by decide +kernel) ⟨by decide, by decide⟩) rfl [0, 1] rfl (by decide) rfl (Nat.le_of_ble_eq_true rfl) dX0_extend_52 ⟨Nat.le_of_ble_eq_true rfl, Nat.le_of_ble_eq_true rfl⟩) [0, 1] [] rfl rfl (by decide) (by decide) (fun u52 hw52 => ?_)
        obtain hw52 := hw52
        refine J_eq (pc' := 55) (lv' := [(0, .ref o), (1, .int (nI n)), (2, .int (nI 2)), (3, .long (lN d)), (5, .int (nI i))]) (st' := []) (ws' := [oB o 0 [.ref r, .int (nI (((L ++ extS (ext n 5) n 2 d i) ++ ext n 5 (d ||| (2 ^ (8 * i + 2)))).length)), .long (lN (andL ((L ++ extS (ext n 5) n 2 d i) ++ ext n 5 (d ||| (2 ^ (8 * i + 2)))))), .long (lN (orL ((L ++ extS (ext n 5) n 2 d i) ++ ext n 5 (d ||| (2 ^ (8 * i + 2))))))], aJ Y r 5040 u52]) rfl rfl rfl rfl ?_
        refine J_iinc (j := 4) (v := nI (i + 1)) (lv' := [(5, .int (nI (i + 1))), (0, .ref o), (1, .int (nI n)), (2, .int (nI 2)), (3, .long (lN d))]) C dX0_extend_55 rfl (nI_1 _) (by decide) rfl ?_
        refine J_goto (tgt := 15) C dX0_extend_58 (by decide) ?_
        refine J_lv (lv' := [(0, .ref o), (1, .int (nI n)), (2, .int (nI 2)), (3, .long (lN d)), (5, .int (nI (i + 1)))]) [1, 2, 3, 4, 0] rfl ?_
        have e0 := extS_y (E := ext n 5) (c := 2) cq36
        refine J_eq (lv' := [(0, .ref o), (1, .int (nI n)), (2, .int (nI 2)), (3, .long (lN d)), (5, .int (nI ((i + 1))))]) (ws' := [oB o 0 [.ref r, .int (nI ((L ++ extS (ext n 5) n 2 d (i + 1)).length)), .long (lN (andL (L ++ extS (ext n 5) n 2 d (i + 1)))), .long (lN (orL (L ++ extS (ext n 5) n 2 d (i + 1))))], aJ Y r 5040 u52]) rfl (rfl) rfl (by rw [e0] <;> simp only [List.append_assoc]) ?_
        exact ih15 (i + 1, u52) ⟨(by omega), (by rw [e0, ← List.append_assoc]; exact hw52)⟩ (show 5 - (i + 1) < 5 - i from by omega)
  · exact absurd cq3 (by omega)

set_option maxHeartbeats 4000000 in
set_option maxRecDepth 100000 in
theorem kX0_extend_1 (ll : Launch) (Y : GY) (o : Nat) (r : Nat) (L : List Nat) (f : Nat → Int64) (n : Nat) (d : Nat) (hn : n = 3 ∨ n = 4) (hd : d < 2 ^ 40) (hL : L.length + (ext n 7 d).length ≤ 5040) (hr2 : DRep L f) : CT ll yX0_extend wsX0_extend { frames := 8, cells := 0, slots := 0, locals := 197 } Y [.ref o, .int (nI n), .int (nI 1), .long (lN d)] [oB o 0 [.ref r, .int (nI L.length), .long (lN (andL L)), .long (lN (orL L))], aJ Y r 5040 f] (QV (S := Nat → Int64) Y (fun u => DRep (L ++ ext n 7 d) u) (fun u => [oB o 0 [.ref r, .int (nI ((L ++ ext n 7 d).length)), .long (lN (andL (L ++ ext n 7 d))), .long (lN (orL (L ++ ext n 7 d)))], aJ Y r 5040 u])) 0 0 := by
  refine CT_of (cc := cX0_extend) (maxL := 6) (ret := none) (by decide) rfl (Nat.le_of_ble_eq_true rfl) ?_
  intro pp ee ss mm bl mt cc AA C hr hnm
  have w0 := C.nm ("SecretDinner$Deals", 43, yX4_sizeOfHand) (List.mem_of_getElem? (i := 7) (show xn_m[7]? = some ("SecretDinner$Deals", 43, yX4_sizeOfHand) from rfl))
  have w1 := C.t _ (List.mem_of_getElem? (i := 21) (show wsX0_extend[21]? = some (Cond.initialized RX4) from rfl))
  have w2 := C.t _ (List.mem_of_getElem? (i := 20) (show wsX0_extend[20]? = some (Cond.static yX4_sizeOfHand) from rfl))
  refine J_eq (lv' := [(0, .ref o), (1, .int (nI n)), (2, .int (nI 1)), (3, .long (lN d))]) (ws' := [oB o 0 [.ref r, .int (nI L.length), .long (lN (andL L)), .long (lN (orL L))], aJ Y r 5040 f]) rfl rfl rfl rfl ?_
  refine J_iload_n C dX0_extend_0 rfl 2 rfl ?_
  refine J_bipush C dX0_extend_1 (v := nI 8) (by decide) ?_
  refine J_icmp_ltN (tgt := 12) C dX0_extend_3 (by decide) (by omega) (by omega) (fun cq3 => ?_) (fun cq3 => ?_)
  · refine J_iconst C dX0_extend_12 (v := nI 0) (by decide) ?_
    refine J_istore (lv' := [(5, .int (nI 0)), (0, .ref o), (1, .int (nI n)), (2, .int (nI 1)), (3, .long (lN d))]) C dX0_extend_13 (by decide) rfl ?_
    refine J_lv (lv' := [(0, .ref o), (1, .int (nI n)), (2, .int (nI 1)), (3, .long (lN d)), (5, .int (nI 0))]) [1, 2, 3, 4, 0] rfl ?_
    refine J_loop (σ := Nat × (Nat → Int64)) (I := fun (i, gf) => (i ≤ 5) ∧ (DRep (L ++ extS (ext n 6) n 1 d i) gf)) (μ := fun (i, gf) => 5 - i) (lvf := fun (i, gf) => [(0, .ref o), (1, .int (nI n)), (2, .int (nI 1)), (3, .long (lN d)), (5, .int (nI i))]) (stf := fun (i, gf) => []) (wsf := fun (i, gf) => [oB o 0 [.ref r, .int (nI ((L ++ extS (ext n 6) n 1 d i).length)), .long (lN (andL (L ++ extS (ext n 6) n 1 d i))), .long (lN (orL (L ++ extS (ext n 6) n 1 d i)))], aJ Y r 5040 gf]) ?_ (0, f) ⟨(by omega), (by simpa [extS] using hr2)⟩ (rfl) rfl (by simp only [extS, List.append_nil])
    rintro ⟨i, gf⟩ ⟨hi, hg⟩ ih15
    refine J_eq (lv' := [(0, .ref o), (1, .int (nI n)), (2, .int (nI 1)), (3, .long (lN d)), (5, .int (nI i))]) (st' := []) (ws' := [oB o 0 [.ref r, .int (nI ((L ++ extS (ext n 6) n 1 d i).length)), .long (lN (andL (L ++ extS (ext n 6) n 1 d i))), .long (lN (orL (L ++ extS (ext n 6) n 1 d i)))], aJ Y r 5040 gf]) rfl rfl rfl rfl ?_
    refine J_iload C dX0_extend_15 4 rfl ?_
    refine J_iconst C dX0_extend_17 (v := nI 4) (by decide) ?_
    refine J_icmp_gtN (tgt := 61) C dX0_extend_18 (by decide) (by omega) (by omega) (fun cq18 => ?_) (fun cq18 => ?_)
    · exact J_vret C hr dX0_extend_61 gf (by have e := hg; rw [show i = 5 from by omega] at e; exact e) (by rw [show i = 5 from by omega]; rfl)
    · refine J_lload_n C dX0_extend_21 rfl 3 rfl ?_
      refine J_iload C dX0_extend_22 4 rfl ?_
      refine J_callI (wr := [oB o 0 [.ref r, .int (nI ((L ++ extS (ext n 6) n 1 d i).length)), .long (lN (andL (L ++ extS (ext n 6) n 1 d i))), .long (lN (orL (L ++ extS (ext n 6) n 1 d i)))], aJ Y r 5040 gf]) C (R_S (st := []) (wc := []) C (kX0_cardsAt ll Y d i (Nat.lt_trans hd (by decide)) (by omega)) (va_cwS 2 C.t gX0_extend_X0_cardsAt rfl rfl rfl (by decide +kernel) ⟨by decide, by decide⟩) rfl [] rfl (by decide) rfl (Nat.le_of_ble_eq_true rfl) dX0_extend_24 ⟨Nat.le_of_ble_eq_true rfl, Nat.le_of_ble_eq_true rfl⟩) [] [0, 1] rfl rfl (by decide) (by decide) (fun r24 u24 hw24 => ?_)
      subst hw24
      refine J_eq (pc' := 27) (lv' := [(0, .ref o), (1, .int (nI n)), (2, .int (nI 1)), (3, .long (lN d)), (5, .int (nI i))]) (st' := [.int (nI (hAt d i))]) (ws' := [oB o 0 [.ref r, .int (nI ((L ++ extS (ext n 6) n 1 d i).length)), .long (lN (andL (L ++ extS (ext n 6) n 1 d i))), .long (lN (orL (L ++ extS (ext n 6) n 1 d i)))], aJ Y r 5040 gf]) rfl rfl rfl rfl ?_
      refine J_callI (wr := [oB o 0 [.ref r, .int (nI ((L ++ extS (ext n 6) n 1 d i).length)), .long (lN (andL (L ++ extS (ext n 6) n 1 d i))), .long (lN (orL (L ++ extS (ext n 6) n 1 d i)))], aJ Y r 5040 gf]) C (R_S (st := []) (wc := []) C (kJ6_bitCount_0f7a4 ll Y (hAt d i) (hAt_lt _ _)) (va_cwS 1 C.t gX0_extend_J6_bitCount_0f7a4 rfl rfl rfl (by decide +kernel) ⟨by decide, by decide⟩) rfl [] rfl (by decide) rfl (Nat.le_of_ble_eq_true rfl) dX0_extend_27 ⟨Nat.le_of_ble_eq_true rfl, Nat.le_of_ble_eq_true rfl⟩) [] [0, 1] rfl rfl (by decide) (by decide) (fun r27 u27 hw27 => ?_)
      subst hw27
      refine J_eq (pc' := 30) (lv' := [(0, .ref o), (1, .int (nI n)), (2, .int (nI 1)), (3, .long (lN d)), (5, .int (nI i))]) (st' := [.int (nI (pc8 (hAt d i)))]) (ws' := [oB o 0 [.ref r, .int (nI ((L ++ extS (ext n 6) n 1 d i).length)), .long (lN (andL (L ++ extS (ext n 6) n 1 d i))), .long (lN (orL (L ++ extS (ext n 6) n 1 d i)))], aJ Y r 5040 gf]) rfl rfl rfl rfl ?_
      refine J_iload_n C dX0_extend_30 rfl 1 rfl ?_
      refine J_iload C dX0_extend_31 4 rfl ?_
      refine J_callI (wr := [oB o 0 [.ref r, .int (nI ((L ++ extS (ext n 6) n 1 d i).length)), .long (lN (andL (L ++ extS (ext n 6) n 1 d i))), .long (lN (orL (L ++ extS (ext n 6) n 1 d i)))], aJ Y r 5040 gf]) C (R_SN (st := [.int (nI (pc8 (hAt d i)))]) (wc := []) C (kX4_sizeOfHand ll Y n i (by first | assumption | omega) (by omega)) ⟨va_cnB (host := "SecretDinner") 2 C.t gX0_extend_X4_sizeOfHand_n43 rfl rfl rfl (va_Nw.of rfl w0) w1 (by decide +kernel) ⟨by decide, by decide⟩, w2, trivial⟩ rfl [] rfl (by decide) rfl (Nat.le_of_ble_eq_true rfl) dX0_extend_33 ⟨Nat.le_of_ble_eq_true rfl, Nat.le_of_ble_eq_true rfl⟩) [] [0, 1] rfl rfl (by decide) (by decide) (fun r33 u33 hw33 => ?_)
      subst hw33
      refine J_eq (pc' := 36) (lv' := [(0, .ref o), (1, .int (nI n)), (2, .int (nI 1)), (3, .long (lN d)), (5, .int (nI i))]) (st' := [.int (nI (szH n i)), .int (nI (pc8 (hAt d i)))]) (ws' := [oB o 0 [.ref r, .int (nI ((L ++ extS (ext n 6) n 1 d i).length)), .long (lN (andL (L ++ extS (ext n 6) n 1 d i))), .long (lN (orL (L ++ extS (ext n 6) n 1 d i)))], aJ Y r 5040 gf]) rfl rfl rfl rfl ?_
      refine J_icmp_geN (tgt := 55) C dX0_extend_36 (by decide) (Nat.lt_of_le_of_lt (pc8_le _) (by decide)) (Nat.lt_of_le_of_lt (szH_le _ _) (by decide)) (fun cq36 => ?_) (fun cq36 => ?_)
      · refine J_iinc (j := 4) (v := nI (i + 1)) (lv' := [(5, .int (nI (i + 1))), (0, .ref o), (1, .int (nI n)), (2, .int (nI 1)), (3, .long (lN d))]) C dX0_extend_55 rfl (nI_1 _) (by decide) rfl ?_
        refine J_goto (tgt := 15) C dX0_extend_58 (by decide) ?_
        refine J_lv (lv' := [(0, .ref o), (1, .int (nI n)), (2, .int (nI 1)), (3, .long (lN d)), (5, .int (nI (i + 1)))]) [1, 2, 3, 4, 0] rfl ?_
        have e0 := extS_n (E := ext n 6) (c := 1) cq36
        refine J_eq (lv' := [(0, .ref o), (1, .int (nI n)), (2, .int (nI 1)), (3, .long (lN d)), (5, .int (nI ((i + 1))))]) (ws' := [oB o 0 [.ref r, .int (nI ((L ++ extS (ext n 6) n 1 d (i + 1)).length)), .long (lN (andL (L ++ extS (ext n 6) n 1 d (i + 1)))), .long (lN (orL (L ++ extS (ext n 6) n 1 d (i + 1))))], aJ Y r 5040 gf]) rfl (rfl) rfl (by rw [e0] <;> simp only [List.append_assoc]) ?_
        exact ih15 (i + 1, gf) ⟨(by omega), (by rw [e0]; exact hg)⟩ (show 5 - (i + 1) < 5 - i from by omega)
      · refine J_aload_n C dX0_extend_39 rfl 0 rfl ?_
        refine J_iload_n C dX0_extend_40 rfl 1 rfl ?_
        refine J_iload_n C dX0_extend_41 rfl 2 rfl ?_
        refine J_iconst C dX0_extend_42 (v := nI 1) (by decide) ?_
        refine J_iaddN C dX0_extend_43 ?_
        refine J_lload_n C dX0_extend_44 rfl 3 rfl ?_
        refine J_iload C dX0_extend_45 4 rfl ?_
        refine J_iload_n C dX0_extend_47 rfl 2 rfl ?_
        refine J_callL (wr := [oB o 0 [.ref r, .int (nI ((L ++ extS (ext n 6) n 1 d i).length)), .long (lN (andL (L ++ extS (ext n 6) n 1 d i))), .long (lN (orL (L ++ extS (ext n 6) n 1 d i)))], aJ Y r 5040 gf]) C (R_S (st := [.long (lN d), .int (nI (1 + 1)), .int (nI n), .ref o]) (wc := []) C (kX0_cardBit ll Y i 1 (by omega) (by decide)) (va_cwS 2 C.t gX0_extend_X0_cardBit rfl rfl rfl (by decide +kernel) ⟨by decide, by decide⟩) rfl [] rfl (by decide) rfl (Nat.le_of_ble_eq_true rfl) dX0_extend_48 ⟨Nat.le_of_ble_eq_true rfl, Nat.le_of_ble_eq_true rfl⟩) [] [0, 1] rfl rfl (by decide) (by decide) (fun r48 u48 hw48 => ?_)
        subst hw48
        refine J_eq (pc' := 51) (lv' := [(0, .ref o), (1, .int (nI n)), (2, .int (nI 1)), (3, .long (lN d)), (5, .int (nI i))]) (st' := [.long (lN (2 ^ (8 * i + 1))), .long (lN d), .int (nI (1 + 1)), .int (nI n), .ref o]) (ws' := [oB o 0 [.ref r, .int (nI ((L ++ extS (ext n 6) n 1 d i).length)), .long (lN (andL (L ++ extS (ext n 6) n 1 d i))), .long (lN (orL (L ++ extS (ext n 6) n 1 d i)))], aJ Y r 5040 gf]) rfl rfl rfl rfl ?_
        refine J_lorN C dX0_extend_51 ?_
        refine J_callV (wr := []) C (R_S (st := []) (wc := [oB o 0 [.ref r, .int (nI ((L ++ extS (ext n 6) n 1 d i).length)), .long (lN (andL (L ++ extS (ext n 6) n 1 d i))), .long (lN (orL (L ++ extS (ext n 6) n 1 d i)))], aJ Y r 5040 gf]) C (kX0_extend_2 ll Y o r (L ++ extS (ext n 6) n 1 d i) gf n (d ||| (2 ^ (8 * i + 1))) (by first | assumption | omega) (or_40 hd (by omega)) (by have e1 := extS_len (E := ext n 6) (c := 1) (by omega) cq36; have e2 : (ext n 7 d).length = (extS (ext n 6) n 1 d 5).length := rfl; rw [List.length_append]; omega) (hg)) (va_cwS 4 C.t gX0_extend_X0_extend rfl rfl rfl (by decide +kernel) ⟨by decide, by decide⟩) rfl [0, 1] rfl (by decide) rfl (Nat.le_of_ble_eq_true rfl) dX0_extend_52 ⟨Nat.le_of_ble_eq_true rfl, Nat.le_of_ble_eq_true rfl⟩) [0, 1] [] rfl rfl (by decide) (by decide) (fun u52 hw52 => ?_)
        obtain hw52 := hw52
        refine J_eq (pc' := 55) (lv' := [(0, .ref o), (1, .int (nI n)), (2, .int (nI 1)), (3, .long (lN d)), (5, .int (nI i))]) (st' := []) (ws' := [oB o 0 [.ref r, .int (nI (((L ++ extS (ext n 6) n 1 d i) ++ ext n 6 (d ||| (2 ^ (8 * i + 1)))).length)), .long (lN (andL ((L ++ extS (ext n 6) n 1 d i) ++ ext n 6 (d ||| (2 ^ (8 * i + 1)))))), .long (lN (orL ((L ++ extS (ext n 6) n 1 d i) ++ ext n 6 (d ||| (2 ^ (8 * i + 1))))))], aJ Y r 5040 u52]) rfl rfl rfl rfl ?_
        refine J_iinc (j := 4) (v := nI (i + 1)) (lv' := [(5, .int (nI (i + 1))), (0, .ref o), (1, .int (nI n)), (2, .int (nI 1)), (3, .long (lN d))]) C dX0_extend_55 rfl (nI_1 _) (by decide) rfl ?_
        refine J_goto (tgt := 15) C dX0_extend_58 (by decide) ?_
        refine J_lv (lv' := [(0, .ref o), (1, .int (nI n)), (2, .int (nI 1)), (3, .long (lN d)), (5, .int (nI (i + 1)))]) [1, 2, 3, 4, 0] rfl ?_
        have e0 := extS_y (E := ext n 6) (c := 1) cq36
        refine J_eq (lv' := [(0, .ref o), (1, .int (nI n)), (2, .int (nI 1)), (3, .long (lN d)), (5, .int (nI ((i + 1))))]) (ws' := [oB o 0 [.ref r, .int (nI ((L ++ extS (ext n 6) n 1 d (i + 1)).length)), .long (lN (andL (L ++ extS (ext n 6) n 1 d (i + 1)))), .long (lN (orL (L ++ extS (ext n 6) n 1 d (i + 1))))], aJ Y r 5040 u52]) rfl (rfl) rfl (by rw [e0] <;> simp only [List.append_assoc]) ?_
        exact ih15 (i + 1, u52) ⟨(by omega), (by rw [e0, ← List.append_assoc]; exact hw52)⟩ (show 5 - (i + 1) < 5 - i from by omega)
  · exact absurd cq3 (by omega)

set_option maxHeartbeats 4000000 in
set_option maxRecDepth 100000 in
theorem kX0_extend_0 (ll : Launch) (Y : GY) (o : Nat) (r : Nat) (L : List Nat) (f : Nat → Int64) (n : Nat) (d : Nat) (hn : n = 3 ∨ n = 4) (hd : d < 2 ^ 40) (hL : L.length + (ext n 8 d).length ≤ 5040) (hr2 : DRep L f) : CT ll yX0_extend wsX0_extend { frames := 9, cells := 0, slots := 0, locals := 222 } Y [.ref o, .int (nI n), .int (nI 0), .long (lN d)] [oB o 0 [.ref r, .int (nI L.length), .long (lN (andL L)), .long (lN (orL L))], aJ Y r 5040 f] (QV (S := Nat → Int64) Y (fun u => DRep (L ++ ext n 8 d) u) (fun u => [oB o 0 [.ref r, .int (nI ((L ++ ext n 8 d).length)), .long (lN (andL (L ++ ext n 8 d))), .long (lN (orL (L ++ ext n 8 d)))], aJ Y r 5040 u])) 0 0 := by
  refine CT_of (cc := cX0_extend) (maxL := 6) (ret := none) (by decide) rfl (Nat.le_of_ble_eq_true rfl) ?_
  intro pp ee ss mm bl mt cc AA C hr hnm
  have w0 := C.nm ("SecretDinner$Deals", 43, yX4_sizeOfHand) (List.mem_of_getElem? (i := 7) (show xn_m[7]? = some ("SecretDinner$Deals", 43, yX4_sizeOfHand) from rfl))
  have w1 := C.t _ (List.mem_of_getElem? (i := 21) (show wsX0_extend[21]? = some (Cond.initialized RX4) from rfl))
  have w2 := C.t _ (List.mem_of_getElem? (i := 20) (show wsX0_extend[20]? = some (Cond.static yX4_sizeOfHand) from rfl))
  refine J_eq (lv' := [(0, .ref o), (1, .int (nI n)), (2, .int (nI 0)), (3, .long (lN d))]) (ws' := [oB o 0 [.ref r, .int (nI L.length), .long (lN (andL L)), .long (lN (orL L))], aJ Y r 5040 f]) rfl rfl rfl rfl ?_
  refine J_iload_n C dX0_extend_0 rfl 2 rfl ?_
  refine J_bipush C dX0_extend_1 (v := nI 8) (by decide) ?_
  refine J_icmp_ltN (tgt := 12) C dX0_extend_3 (by decide) (by omega) (by omega) (fun cq3 => ?_) (fun cq3 => ?_)
  · refine J_iconst C dX0_extend_12 (v := nI 0) (by decide) ?_
    refine J_istore (lv' := [(5, .int (nI 0)), (0, .ref o), (1, .int (nI n)), (2, .int (nI 0)), (3, .long (lN d))]) C dX0_extend_13 (by decide) rfl ?_
    refine J_lv (lv' := [(0, .ref o), (1, .int (nI n)), (2, .int (nI 0)), (3, .long (lN d)), (5, .int (nI 0))]) [1, 2, 3, 4, 0] rfl ?_
    refine J_loop (σ := Nat × (Nat → Int64)) (I := fun (i, gf) => (i ≤ 5) ∧ (DRep (L ++ extS (ext n 7) n 0 d i) gf)) (μ := fun (i, gf) => 5 - i) (lvf := fun (i, gf) => [(0, .ref o), (1, .int (nI n)), (2, .int (nI 0)), (3, .long (lN d)), (5, .int (nI i))]) (stf := fun (i, gf) => []) (wsf := fun (i, gf) => [oB o 0 [.ref r, .int (nI ((L ++ extS (ext n 7) n 0 d i).length)), .long (lN (andL (L ++ extS (ext n 7) n 0 d i))), .long (lN (orL (L ++ extS (ext n 7) n 0 d i)))], aJ Y r 5040 gf]) ?_ (0, f) ⟨(by omega), (by simpa [extS] using hr2)⟩ (rfl) rfl (by simp only [extS, List.append_nil])
    rintro ⟨i, gf⟩ ⟨hi, hg⟩ ih15
    refine J_eq (lv' := [(0, .ref o), (1, .int (nI n)), (2, .int (nI 0)), (3, .long (lN d)), (5, .int (nI i))]) (st' := []) (ws' := [oB o 0 [.ref r, .int (nI ((L ++ extS (ext n 7) n 0 d i).length)), .long (lN (andL (L ++ extS (ext n 7) n 0 d i))), .long (lN (orL (L ++ extS (ext n 7) n 0 d i)))], aJ Y r 5040 gf]) rfl rfl rfl rfl ?_
    refine J_iload C dX0_extend_15 4 rfl ?_
    refine J_iconst C dX0_extend_17 (v := nI 4) (by decide) ?_
    refine J_icmp_gtN (tgt := 61) C dX0_extend_18 (by decide) (by omega) (by omega) (fun cq18 => ?_) (fun cq18 => ?_)
    · exact J_vret C hr dX0_extend_61 gf (by have e := hg; rw [show i = 5 from by omega] at e; exact e) (by rw [show i = 5 from by omega]; rfl)
    · refine J_lload_n C dX0_extend_21 rfl 3 rfl ?_
      refine J_iload C dX0_extend_22 4 rfl ?_
      refine J_callI (wr := [oB o 0 [.ref r, .int (nI ((L ++ extS (ext n 7) n 0 d i).length)), .long (lN (andL (L ++ extS (ext n 7) n 0 d i))), .long (lN (orL (L ++ extS (ext n 7) n 0 d i)))], aJ Y r 5040 gf]) C (R_S (st := []) (wc := []) C (kX0_cardsAt ll Y d i (Nat.lt_trans hd (by decide)) (by omega)) (va_cwS 2 C.t gX0_extend_X0_cardsAt rfl rfl rfl (by decide +kernel) ⟨by decide, by decide⟩) rfl [] rfl (by decide) rfl (Nat.le_of_ble_eq_true rfl) dX0_extend_24 ⟨Nat.le_of_ble_eq_true rfl, Nat.le_of_ble_eq_true rfl⟩) [] [0, 1] rfl rfl (by decide) (by decide) (fun r24 u24 hw24 => ?_)
      subst hw24
      refine J_eq (pc' := 27) (lv' := [(0, .ref o), (1, .int (nI n)), (2, .int (nI 0)), (3, .long (lN d)), (5, .int (nI i))]) (st' := [.int (nI (hAt d i))]) (ws' := [oB o 0 [.ref r, .int (nI ((L ++ extS (ext n 7) n 0 d i).length)), .long (lN (andL (L ++ extS (ext n 7) n 0 d i))), .long (lN (orL (L ++ extS (ext n 7) n 0 d i)))], aJ Y r 5040 gf]) rfl rfl rfl rfl ?_
      refine J_callI (wr := [oB o 0 [.ref r, .int (nI ((L ++ extS (ext n 7) n 0 d i).length)), .long (lN (andL (L ++ extS (ext n 7) n 0 d i))), .long (lN (orL (L ++ extS (ext n 7) n 0 d i)))], aJ Y r 5040 gf]) C (R_S (st := []) (wc := []) C (kJ6_bitCount_0f7a4 ll Y (hAt d i) (hAt_lt _ _)) (va_cwS 1 C.t gX0_extend_J6_bitCount_0f7a4 rfl rfl rfl (by decide +kernel) ⟨by decide, by decide⟩) rfl [] rfl (by decide) rfl (Nat.le_of_ble_eq_true rfl) dX0_extend_27 ⟨Nat.le_of_ble_eq_true rfl, Nat.le_of_ble_eq_true rfl⟩) [] [0, 1] rfl rfl (by decide) (by decide) (fun r27 u27 hw27 => ?_)
      subst hw27
      refine J_eq (pc' := 30) (lv' := [(0, .ref o), (1, .int (nI n)), (2, .int (nI 0)), (3, .long (lN d)), (5, .int (nI i))]) (st' := [.int (nI (pc8 (hAt d i)))]) (ws' := [oB o 0 [.ref r, .int (nI ((L ++ extS (ext n 7) n 0 d i).length)), .long (lN (andL (L ++ extS (ext n 7) n 0 d i))), .long (lN (orL (L ++ extS (ext n 7) n 0 d i)))], aJ Y r 5040 gf]) rfl rfl rfl rfl ?_
      refine J_iload_n C dX0_extend_30 rfl 1 rfl ?_
      refine J_iload C dX0_extend_31 4 rfl ?_
      refine J_callI (wr := [oB o 0 [.ref r, .int (nI ((L ++ extS (ext n 7) n 0 d i).length)), .long (lN (andL (L ++ extS (ext n 7) n 0 d i))), .long (lN (orL (L ++ extS (ext n 7) n 0 d i)))], aJ Y r 5040 gf]) C (R_SN (st := [.int (nI (pc8 (hAt d i)))]) (wc := []) C (kX4_sizeOfHand ll Y n i (by first | assumption | omega) (by omega)) ⟨va_cnB (host := "SecretDinner") 2 C.t gX0_extend_X4_sizeOfHand_n43 rfl rfl rfl (va_Nw.of rfl w0) w1 (by decide +kernel) ⟨by decide, by decide⟩, w2, trivial⟩ rfl [] rfl (by decide) rfl (Nat.le_of_ble_eq_true rfl) dX0_extend_33 ⟨Nat.le_of_ble_eq_true rfl, Nat.le_of_ble_eq_true rfl⟩) [] [0, 1] rfl rfl (by decide) (by decide) (fun r33 u33 hw33 => ?_)
      subst hw33
      refine J_eq (pc' := 36) (lv' := [(0, .ref o), (1, .int (nI n)), (2, .int (nI 0)), (3, .long (lN d)), (5, .int (nI i))]) (st' := [.int (nI (szH n i)), .int (nI (pc8 (hAt d i)))]) (ws' := [oB o 0 [.ref r, .int (nI ((L ++ extS (ext n 7) n 0 d i).length)), .long (lN (andL (L ++ extS (ext n 7) n 0 d i))), .long (lN (orL (L ++ extS (ext n 7) n 0 d i)))], aJ Y r 5040 gf]) rfl rfl rfl rfl ?_
      refine J_icmp_geN (tgt := 55) C dX0_extend_36 (by decide) (Nat.lt_of_le_of_lt (pc8_le _) (by decide)) (Nat.lt_of_le_of_lt (szH_le _ _) (by decide)) (fun cq36 => ?_) (fun cq36 => ?_)
      · refine J_iinc (j := 4) (v := nI (i + 1)) (lv' := [(5, .int (nI (i + 1))), (0, .ref o), (1, .int (nI n)), (2, .int (nI 0)), (3, .long (lN d))]) C dX0_extend_55 rfl (nI_1 _) (by decide) rfl ?_
        refine J_goto (tgt := 15) C dX0_extend_58 (by decide) ?_
        refine J_lv (lv' := [(0, .ref o), (1, .int (nI n)), (2, .int (nI 0)), (3, .long (lN d)), (5, .int (nI (i + 1)))]) [1, 2, 3, 4, 0] rfl ?_
        have e0 := extS_n (E := ext n 7) (c := 0) cq36
        refine J_eq (lv' := [(0, .ref o), (1, .int (nI n)), (2, .int (nI 0)), (3, .long (lN d)), (5, .int (nI ((i + 1))))]) (ws' := [oB o 0 [.ref r, .int (nI ((L ++ extS (ext n 7) n 0 d (i + 1)).length)), .long (lN (andL (L ++ extS (ext n 7) n 0 d (i + 1)))), .long (lN (orL (L ++ extS (ext n 7) n 0 d (i + 1))))], aJ Y r 5040 gf]) rfl (rfl) rfl (by rw [e0] <;> simp only [List.append_assoc]) ?_
        exact ih15 (i + 1, gf) ⟨(by omega), (by rw [e0]; exact hg)⟩ (show 5 - (i + 1) < 5 - i from by omega)
      · refine J_aload_n C dX0_extend_39 rfl 0 rfl ?_
        refine J_iload_n C dX0_extend_40 rfl 1 rfl ?_
        refine J_iload_n C dX0_extend_41 rfl 2 rfl ?_
        refine J_iconst C dX0_extend_42 (v := nI 1) (by decide) ?_
        refine J_iaddN C dX0_extend_43 ?_
        refine J_lload_n C dX0_extend_44 rfl 3 rfl ?_
        refine J_iload C dX0_extend_45 4 rfl ?_
        refine J_iload_n C dX0_extend_47 rfl 2 rfl ?_
        refine J_callL (wr := [oB o 0 [.ref r, .int (nI ((L ++ extS (ext n 7) n 0 d i).length)), .long (lN (andL (L ++ extS (ext n 7) n 0 d i))), .long (lN (orL (L ++ extS (ext n 7) n 0 d i)))], aJ Y r 5040 gf]) C (R_S (st := [.long (lN d), .int (nI (0 + 1)), .int (nI n), .ref o]) (wc := []) C (kX0_cardBit ll Y i 0 (by omega) (by decide)) (va_cwS 2 C.t gX0_extend_X0_cardBit rfl rfl rfl (by decide +kernel) ⟨by decide, by decide⟩) rfl [] rfl (by decide) rfl (Nat.le_of_ble_eq_true rfl) dX0_extend_48 ⟨Nat.le_of_ble_eq_true rfl, Nat.le_of_ble_eq_true rfl⟩) [] [0, 1] rfl rfl (by decide) (by decide) (fun r48 u48 hw48 => ?_)
        subst hw48
        refine J_eq (pc' := 51) (lv' := [(0, .ref o), (1, .int (nI n)), (2, .int (nI 0)), (3, .long (lN d)), (5, .int (nI i))]) (st' := [.long (lN (2 ^ (8 * i + 0))), .long (lN d), .int (nI (0 + 1)), .int (nI n), .ref o]) (ws' := [oB o 0 [.ref r, .int (nI ((L ++ extS (ext n 7) n 0 d i).length)), .long (lN (andL (L ++ extS (ext n 7) n 0 d i))), .long (lN (orL (L ++ extS (ext n 7) n 0 d i)))], aJ Y r 5040 gf]) rfl rfl rfl rfl ?_
        refine J_lorN C dX0_extend_51 ?_
        refine J_callV (wr := []) C (R_S (st := []) (wc := [oB o 0 [.ref r, .int (nI ((L ++ extS (ext n 7) n 0 d i).length)), .long (lN (andL (L ++ extS (ext n 7) n 0 d i))), .long (lN (orL (L ++ extS (ext n 7) n 0 d i)))], aJ Y r 5040 gf]) C (kX0_extend_1 ll Y o r (L ++ extS (ext n 7) n 0 d i) gf n (d ||| (2 ^ (8 * i + 0))) (by first | assumption | omega) (or_40 hd (by omega)) (by have e1 := extS_len (E := ext n 7) (c := 0) (by omega) cq36; have e2 : (ext n 8 d).length = (extS (ext n 7) n 0 d 5).length := rfl; rw [List.length_append]; omega) (hg)) (va_cwS 4 C.t gX0_extend_X0_extend rfl rfl rfl (by decide +kernel) ⟨by decide, by decide⟩) rfl [0, 1] rfl (by decide) rfl (Nat.le_of_ble_eq_true rfl) dX0_extend_52 ⟨Nat.le_of_ble_eq_true rfl, Nat.le_of_ble_eq_true rfl⟩) [0, 1] [] rfl rfl (by decide) (by decide) (fun u52 hw52 => ?_)
        obtain hw52 := hw52
        refine J_eq (pc' := 55) (lv' := [(0, .ref o), (1, .int (nI n)), (2, .int (nI 0)), (3, .long (lN d)), (5, .int (nI i))]) (st' := []) (ws' := [oB o 0 [.ref r, .int (nI (((L ++ extS (ext n 7) n 0 d i) ++ ext n 7 (d ||| (2 ^ (8 * i + 0)))).length)), .long (lN (andL ((L ++ extS (ext n 7) n 0 d i) ++ ext n 7 (d ||| (2 ^ (8 * i + 0)))))), .long (lN (orL ((L ++ extS (ext n 7) n 0 d i) ++ ext n 7 (d ||| (2 ^ (8 * i + 0))))))], aJ Y r 5040 u52]) rfl rfl rfl rfl ?_
        refine J_iinc (j := 4) (v := nI (i + 1)) (lv' := [(5, .int (nI (i + 1))), (0, .ref o), (1, .int (nI n)), (2, .int (nI 0)), (3, .long (lN d))]) C dX0_extend_55 rfl (nI_1 _) (by decide) rfl ?_
        refine J_goto (tgt := 15) C dX0_extend_58 (by decide) ?_
        refine J_lv (lv' := [(0, .ref o), (1, .int (nI n)), (2, .int (nI 0)), (3, .long (lN d)), (5, .int (nI (i + 1)))]) [1, 2, 3, 4, 0] rfl ?_
        have e0 := extS_y (E := ext n 7) (c := 0) cq36
        refine J_eq (lv' := [(0, .ref o), (1, .int (nI n)), (2, .int (nI 0)), (3, .long (lN d)), (5, .int (nI ((i + 1))))]) (ws' := [oB o 0 [.ref r, .int (nI ((L ++ extS (ext n 7) n 0 d (i + 1)).length)), .long (lN (andL (L ++ extS (ext n 7) n 0 d (i + 1)))), .long (lN (orL (L ++ extS (ext n 7) n 0 d (i + 1))))], aJ Y r 5040 u52]) rfl (rfl) rfl (by rw [e0] <;> simp only [List.append_assoc]) ?_
        exact ih15 (i + 1, u52) ⟨(by omega), (by rw [e0, ← List.append_assoc]; exact hw52)⟩ (show 5 - (i + 1) < 5 - i from by omega)
  · exact absurd cq3 (by omega)

set_option maxHeartbeats 4000000 in
set_option maxRecDepth 100000 in
theorem kX0_fillOnce (ll : Launch) (Y : GY) (o : Nat) (r : Nat) (L : List Nat) (f : Nat → Int64) (n : Nat) (hn : n = 3 ∨ n = 4) (hA : L = [] ∨ L = ext n 8 0) (hr2 : DRep L f) : CT ll yX0_fillOnce wsX0_fillOnce { frames := 10, cells := 0, slots := 0, locals := 247 } Y [.ref o, .int (nI n)] [oB o 0 [.ref r, .int (nI L.length), .long (lN (andL L)), .long (lN (orL L))], aJ Y r 5040 f] (QV (S := Nat → Int64) Y (fun u => DRep (ext n 8 0) u) (fun u => [oB o 0 [.ref r, .int (nI ((ext n 8 0).length)), .long (lN (andL (ext n 8 0))), .long (lN (orL (ext n 8 0)))], aJ Y r 5040 u])) 0 0 := by
  refine CT_of (cc := cX0_fillOnce) (maxL := 2) (ret := none) (by decide) rfl (Nat.le_of_ble_eq_true rfl) ?_
  intro pp ee ss mm bl mt cc AA C hr hnm
  have w0 := C.t _ (List.mem_of_getElem? (i := 1) (show wsX0_fillOnce[1]? = some (Cond.fieldLink RX0 21 "SecretDinner$Deals" "count" "I") from rfl))
  have i0 : ∀ w ∈ wsX00, w ∈ wsX0_fillOnce := inPlaces [31, 32, 33, 34] (by decide +kernel)
  refine J_eq (lv' := [(0, .ref o), (1, .int (nI n))]) (ws' := [oB o 0 [.ref r, .int (nI L.length), .long (lN (andL L)), .long (lN (orL L))], aJ Y r 5040 f]) rfl rfl rfl rfl ?_
  have hLL : L.length ≤ 5040 := by rcases hA with rfl | rfl; exact Nat.zero_le _; exact (extN_len hn).2
  have hL0 : L.length = 0 → L = [] := List.eq_nil_of_length_eq_zero
  have hL1 : ¬ L.length = 0 → L = ext n 8 0 := by rcases hA with rfl | rfl; exact fun z => absurd rfl z; exact fun _ => rfl
  refine J_aload_n C dX0_fillOnce_0 rfl 0 rfl ?_
  refine J_get (ci := 0) C i0 rfl 1 (by decide) w0 rfl 0 rfl rfl dX0_fillOnce_1 ?_
  refine J_if_neN (tgt := 14) C dX0_fillOnce_4 (by decide) (by omega) (fun cq4 => ?_) (fun cq4 => ?_)
  · exact J_vret C hr dX0_fillOnce_14 f (by rw [← hL1 cq4]; exact hr2) (by rw [← hL1 cq4])
  · refine J_aload_n C dX0_fillOnce_7 rfl 0 rfl ?_
    refine J_iload_n C dX0_fillOnce_8 rfl 1 rfl ?_
    refine J_iconst C dX0_fillOnce_9 (v := nI 0) (by decide) ?_
    refine J_lconst C dX0_fillOnce_10 (v := lN 0) rfl ?_
    refine J_callV (wr := []) C (R_S (st := []) (wc := [oB o 0 [.ref r, .int (nI L.length), .long (lN (andL L)), .long (lN (orL L))], aJ Y r 5040 f]) C (kX0_extend_0 ll Y o r L f n 0 (by first | assumption | omega) (by decide) (by rw [cq4, Nat.zero_add]; exact (extN_len hn).2) (by first | assumption | omega)) (va_cwS 4 C.t gX0_fillOnce_X0_extend rfl rfl rfl (by decide +kernel) ⟨by decide, by decide⟩) rfl [0, 1] rfl (by decide) rfl (Nat.le_of_ble_eq_true rfl) dX0_fillOnce_11 ⟨Nat.le_of_ble_eq_true rfl, Nat.le_of_ble_eq_true rfl⟩) [0, 1] [] rfl rfl (by decide) (by decide) (fun u11 hw11 => ?_)
    obtain hw11 := hw11
    refine J_eq (pc' := 14) (lv' := [(0, .ref o), (1, .int (nI n))]) (st' := []) (ws' := [oB o 0 [.ref r, .int (nI ((L ++ ext n 8 0).length)), .long (lN (andL (L ++ ext n 8 0))), .long (lN (orL (L ++ ext n 8 0)))], aJ Y r 5040 u11]) rfl rfl rfl rfl ?_
    exact J_vret C hr dX0_fillOnce_14 u11 (by have e := hw11; rw [hL0 cq4] at e; exact e) (by rw [hL0 cq4]; rfl)

set_option maxHeartbeats 4000000 in
set_option maxRecDepth 100000 in
theorem kX0_init (ll : Launch) (Y : GY) (o : Nat)  : CT ll yX0_init wsX0_init { frames := 1, cells := 1, slots := 5040, locals := 20 } Y [.ref o] [oB o 0 [.null, .int (nI 0), .long (lN 0), .long (lN 0)]] (QV (S := Nat) Y (fun _ => True) (fun u => [oB o 0 [.ref u, .int (nI ((([] : List Nat)).length)), .long (lN (andL (([] : List Nat)))), .long (lN (orL (([] : List Nat))))], aJ Y u 5040 (fun _ => 0)])) 1 5040 := by
  refine CT_of (cc := cX0_init) (maxL := 1) (ret := none) (by decide) rfl (Nat.le_of_ble_eq_true rfl) ?_
  intro pp ee ss mm bl mt cc AA C hr hnm
  have w0 := C.t _ (List.mem_of_getElem? (i := 1) (show wsX0_init[1]? = some (Cond.methodLink RX0 3 objectInit) from rfl))
  have w1 := C.t _ (List.mem_of_getElem? (i := 2) (show wsX0_init[2]? = some (Cond.instanceMethod objectInit) from rfl))
  have w2 := C.t _ (List.mem_of_getElem? (i := 3) (show wsX0_init[3]? = some (Cond.code objectInit ⟨#[0xb1]⟩ 1 none) from rfl))
  have w3 := C.t _ (List.mem_of_getElem? (i := 4) (show wsX0_init[4]? = some (Cond.arrayClass .long) from rfl))
  have w4 := C.t _ (List.mem_of_getElem? (i := 5) (show wsX0_init[5]? = some (Cond.fieldLink RX0 9 "SecretDinner$Deals" "row" "[J") from rfl))
  have w5 := C.t _ (List.mem_of_getElem? (i := 6) (show wsX0_init[6]? = some (Cond.constantLong RX0 15 (-1)) from rfl))
  have w6 := C.t _ (List.mem_of_getElem? (i := 7) (show wsX0_init[7]? = some (Cond.fieldLink RX0 17 "SecretDinner$Deals" "inAll" "J") from rfl))
  have i0 : ∀ w ∈ wsX00, w ∈ wsX0_init := inPlaces [8, 9, 10, 11] (by decide +kernel)
  refine J_eq (lv' := [(0, .ref o)]) (ws' := [oB o 0 [.null, .int (nI 0), .long (lN 0), .long (lN 0)]]) rfl rfl rfl rfl ?_
  refine J_aload_n C dX0_init_0 rfl 0 rfl ?_
  refine J_objInit C w0 w1 w2 dX0_init_1 (Nat.le_of_ble_eq_true rfl) (Nat.le_of_ble_eq_true rfl) (Nat.le_of_ble_eq_true rfl) ?_
  refine J_aload_n C dX0_init_4 rfl 0 rfl ?_
  refine J_sipush C dX0_init_5 (v := nI 5040) (by decide) ?_
  refine J_newJ C w3 (by decide) (Nat.le_of_ble_eq_true rfl) (Nat.le_of_ble_eq_true rfl) dX0_init_8 (fun q8 => ?_)
  refine J_eq (ws' := [oB o 0 [.null, .int (nI 0), .long (lN 0), .long (lN 0)], aJ Y q8 5040 (fun _ => 0)]) rfl rfl rfl rfl ?_
  refine J_putF (ci := 0) (ty := .array .long) (ws' := [oB o 0 [.ref q8, .int (nI 0), .long (lN 0), .long (lN 0)], aJ Y q8 5040 (fun _ => 0)]) C i0 tyX0 tyX0_ok nmX0 rfl 0 (by decide) w4 rfl rfl hnm rfl (by decide +kernel) (rfl) (rfl) 0 rfl (Nat.le_of_ble_eq_true rfl) dX0_init_10 rfl ?_
  refine J_aload_n C dX0_init_13 rfl 0 rfl ?_
  refine J_ldc2 C dX0_init_14 (v := lN 18446744073709551615) w5 ?_
  refine J_put (ci := 0) (ty := .long) (ws' := [oB o 0 [.ref q8, .int (nI 0), .long (lN 18446744073709551615), .long (lN 0)], aJ Y q8 5040 (fun _ => 0)]) C i0 tyX0 tyX0_ok nmX0 rfl 2 (by decide) w6 rfl rfl (by decide +kernel) (rfl) (rfl) 0 rfl (Nat.le_of_ble_eq_true rfl) dX0_init_17 rfl ?_
  exact J_vret C hr dX0_init_20 q8 (trivial) (rfl)

