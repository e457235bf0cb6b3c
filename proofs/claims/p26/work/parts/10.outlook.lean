set_option maxHeartbeats 4000000 in
set_option maxRecDepth 100000 in
theorem kX2_lookAt (ll : Launch) (Y : GY) (o : Nat) (hb : Nat) (hc : Nat) (sv : Int32) (bh : Nat → Int32) (o2 : Nat) (r2 : Nat) (L : List Nat) (f : Nat → Int64) (g : Nat) (hL : L.length ≤ 5040) (hr2 : DRep L f) (hB : ∀ d ∈ L, d < 2 ^ 44) (hg0 : g ≤ 3) : CT ll yX2_lookAt wsX2_lookAt { frames := 2, cells := 0, slots := 0, locals := 41 } Y [.ref o, .ref o2, .int (nI g)] [oB o 2 [.int sv, .ref hb, .ref hc], aI Y hb 256 bh, oB o2 0 [.ref r2, .int (nI L.length), .long (lN (andL L)), .long (lN (orL L))], aJ Y r2 5040 f] (QV (S := Nat → Int32) Y (fun u => ∀ h, h < 256 → u h = nI (bhN L g h)) (fun u => [oB o 2 [.int (nI (stN L g)), .ref hb, .ref hc], aI Y hb 256 u, oB o2 0 [.ref r2, .int (nI L.length), .long (lN (andL L)), .long (lN (orL L))], aJ Y r2 5040 f])) 0 0 := by
  refine CT_of (cc := cX2_lookAt) (maxL := 10) (ret := none) (by decide) rfl (Nat.le_of_ble_eq_true rfl) ?_
  intro pp ee ss mm bl mt cc AA C hr hnm
  have w0 := C.t _ (List.mem_of_getElem? (i := 1) (show wsX2_lookAt[1]? = some (Cond.fieldLink RX2 18 "SecretDinner$Outlook" "staying" "I") from rfl))
  have w1 := C.t _ (List.mem_of_getElem? (i := 2) (show wsX2_lookAt[2]? = some (Cond.fieldLink RX2 9 "SecretDinner$Outlook" "byHand" "[I") from rfl))
  have w2 := C.nm ("SecretDinner$Outlook", 28, yX0_length) (List.mem_of_getElem? (i := 8) (show xn_m[8]? = some ("SecretDinner$Outlook", 28, yX0_length) from rfl))
  have w3 := C.t _ (List.mem_of_getElem? (i := 5) (show wsX2_lookAt[5]? = some (Cond.initialized RX0) from rfl))
  have w4 := C.t _ (List.mem_of_getElem? (i := 7) (show wsX2_lookAt[7]? = some (Cond.instanceMethod yX0_length) from rfl))
  have w5 := C.t _ (List.mem_of_getElem? (i := 8) (show wsX2_lookAt[8]? = some (Cond.selects RX0 yX0_length yX0_length) from rfl))
  have w6 := C.nf ("SecretDinner$Outlook", 32, "SecretDinner$Deals", "row", "[J") (List.mem_of_getElem? (i := 0) (show xn_f[0]? = some ("SecretDinner$Outlook", 32, "SecretDinner$Deals", "row", "[J") from rfl))
  have i2 : ∀ w ∈ wsX20, w ∈ wsX2_lookAt := inPlaces [19, 20, 21] (by decide +kernel)
  have i0 : ∀ w ∈ wsX00, w ∈ wsX2_lookAt := inPlaces [22, 23, 24, 25] (by decide +kernel)
  refine J_eq (lv' := [(0, .ref o), (1, .ref o2), (2, .int (nI g))]) (ws' := [oB o 2 [.int sv, .ref hb, .ref hc], aI Y hb 256 bh, oB o2 0 [.ref r2, .int (nI L.length), .long (lN (andL L)), .long (lN (orL L))], aJ Y r2 5040 f]) rfl rfl rfl rfl ?_
  refine J_aload_n C dX2_lookAt_0 rfl 0 rfl ?_
  refine J_iconst C dX2_lookAt_1 (v := nI 0) (by decide) ?_
  refine J_put (ci := 2) (ty := .int) (ws' := [oB o 2 [.int (nI 0), .ref hb, .ref hc], aI Y hb 256 bh, oB o2 0 [.ref r2, .int (nI L.length), .long (lN (andL L)), .long (lN (orL L))], aJ Y r2 5040 f]) C i2 tyX2 tyX2_ok nmX2 rfl 0 (by decide) w0 rfl rfl (by decide +kernel) (rfl) (rfl) 0 rfl (Nat.le_of_ble_eq_true rfl) dX2_lookAt_2 rfl ?_
  refine J_iconst C dX2_lookAt_5 (v := nI 0) (by decide) ?_
  refine J_istore_n (lv' := [(3, .int (nI 0)), (0, .ref o), (1, .ref o2), (2, .int (nI g))]) C dX2_lookAt_6 rfl (by decide) rfl ?_
  refine J_lv (lv' := [(0, .ref o), (1, .ref o2), (2, .int (nI g)), (3, .int (nI 0))]) [1, 2, 3, 0] rfl ?_
  refine J_loop (σ := Nat × (Nat → Int32)) (I := fun (i, u) => (i ≤ 256) ∧ (∀ j, j < i → u j = nI 0)) (μ := fun (i, u) => 256 - i) (lvf := fun (i, u) => [(0, .ref o), (1, .ref o2), (2, .int (nI g)), (3, .int (nI i))]) (stf := fun (i, u) => []) (wsf := fun (i, u) => [oB o 2 [.int (nI 0), .ref hb, .ref hc], aI Y hb 256 u, oB o2 0 [.ref r2, .int (nI L.length), .long (lN (andL L)), .long (lN (orL L))], aJ Y r2 5040 f]) ?_ (0, bh) ⟨(by omega), (fun j hj => absurd hj (Nat.not_lt_zero j))⟩ (rfl) rfl (rfl)
  rintro ⟨i, u⟩ ⟨hi, hu⟩ ih7
  refine J_eq (lv' := [(0, .ref o), (1, .ref o2), (2, .int (nI g)), (3, .int (nI i))]) (st' := []) (ws' := [oB o 2 [.int (nI 0), .ref hb, .ref hc], aI Y hb 256 u, oB o2 0 [.ref r2, .int (nI L.length), .long (lN (andL L)), .long (lN (orL L))], aJ Y r2 5040 f]) rfl rfl rfl rfl ?_
  refine J_iload_n C dX2_lookAt_7 rfl 3 rfl ?_
  refine J_aload_n C dX2_lookAt_8 rfl 0 rfl ?_
  refine J_get (ci := 2) C i2 rfl 1 (by decide) w1 rfl 0 rfl rfl dX2_lookAt_9 ?_
  refine J_alenI C 1 rfl dX2_lookAt_12 ?_
  refine J_icmp_geN (tgt := 29) C dX2_lookAt_13 (by decide) (by omega) (by omega) (fun cq13 => ?_) (fun cq13 => ?_)
  · refine J_iload_n C dX2_lookAt_29 rfl 2 rfl ?_
    refine J_callL (wr := [oB o 2 [.int (nI 0), .ref hb, .ref hc], aI Y hb 256 u, oB o2 0 [.ref r2, .int (nI L.length), .long (lN (andL L)), .long (lN (orL L))], aJ Y r2 5040 f]) C (R_S (st := []) (wc := []) C (kX0_wrongBit ll Y g (by first | assumption | omega)) (va_cwS 1 C.t gX2_lookAt_X0_wrongBit rfl rfl rfl (by decide +kernel) ⟨by decide, by decide⟩) rfl [] rfl (by decide) rfl (Nat.le_of_ble_eq_true rfl) dX2_lookAt_30 ⟨Nat.le_of_ble_eq_true rfl, Nat.le_of_ble_eq_true rfl⟩) [] [0, 1, 2, 3] rfl rfl (by decide) (by decide) (fun r30 u30 hw30 => ?_)
    subst hw30
    refine J_eq (pc' := 33) (lv' := [(0, .ref o), (1, .ref o2), (2, .int (nI g)), (3, .int (nI i))]) (st' := [.long (lN (2 ^ (40 + g)))]) (ws' := [oB o 2 [.int (nI 0), .ref hb, .ref hc], aI Y hb 256 u, oB o2 0 [.ref r2, .int (nI L.length), .long (lN (andL L)), .long (lN (orL L))], aJ Y r2 5040 f]) rfl rfl rfl rfl ?_
    refine J_lstore_n (lv' := [(3, .long (lN (2 ^ (40 + g)))), (0, .ref o), (1, .ref o2), (2, .int (nI g))]) C dX2_lookAt_33 rfl (by decide) rfl ?_
    refine J_aload_n C dX2_lookAt_34 rfl 2 rfl ?_
    refine J_callI (wr := [oB o 2 [.int (nI 0), .ref hb, .ref hc], aI Y hb 256 u]) C (R_VN (st := []) (wc := [oB o2 0 [.ref r2, .int (nI L.length), .long (lN (andL L)), .long (lN (orL L))], aJ Y r2 5040 f]) C (kX0_length ll Y o2 r2 L f (by first | assumption | omega)) ⟨va_cnB (host := "SecretDinner") 0 C.t gX2_lookAt_X0_length_n28 rfl rfl rfl (va_Nw.of rfl w2) w3 (by decide +kernel) ⟨by decide, by decide⟩, w4, w5⟩ rfl [2, 3] rfl (by decide) ⟨0, 0, _, _, rfl, rfl, rfl⟩ rfl (Nat.le_of_ble_eq_true rfl) dX2_lookAt_35 ⟨Nat.le_of_ble_eq_true rfl, Nat.le_of_ble_eq_true rfl⟩) [2, 3] [0, 1] rfl rfl (by decide) (by decide) (fun r35 u35 hw35 => ?_)
    subst hw35
    refine J_eq (pc' := 38) (lv' := [(3, .long (lN (2 ^ (40 + g)))), (0, .ref o), (1, .ref o2), (2, .int (nI g))]) (st' := [.int (nI L.length)]) (ws' := [oB o 2 [.int (nI 0), .ref hb, .ref hc], aI Y hb 256 u, oB o2 0 [.ref r2, .int (nI L.length), .long (lN (andL L)), .long (lN (orL L))], aJ Y r2 5040 f]) rfl rfl rfl rfl ?_
    refine J_istore (lv' := [(5, .int (nI L.length)), (3, .long (lN (2 ^ (40 + g)))), (0, .ref o), (1, .ref o2), (2, .int (nI g))]) C dX2_lookAt_38 (by decide) rfl ?_
    refine J_iconst C dX2_lookAt_40 (v := nI 0) (by decide) ?_
    refine J_istore (lv' := [(6, .int (nI 0)), (5, .int (nI L.length)), (3, .long (lN (2 ^ (40 + g)))), (0, .ref o), (1, .ref o2), (2, .int (nI g))]) C dX2_lookAt_41 (by decide) rfl ?_
    refine J_lv (lv' := [(0, .ref o), (1, .ref o2), (2, .int (nI g)), (3, .long (lN (2 ^ (40 + g)))), (5, .int (nI L.length)), (6, .int (nI 0))]) [3, 4, 5, 2, 1, 0] rfl ?_
    refine J_loop (σ := Nat × (Nat → Int32)) (I := fun (k, v) => (k ≤ L.length) ∧ (∀ h, h < 256 → v h = nI (bhN (L.take k) g h))) (μ := fun (k, v) => L.length - k) (lvf := fun (k, v) => [(0, .ref o), (1, .ref o2), (2, .int (nI g)), (3, .long (lN (2 ^ (40 + g)))), (5, .int (nI L.length)), (6, .int (nI k))]) (stf := fun (k, v) => []) (wsf := fun (k, v) => [oB o 2 [.int (nI (stN (L.take k) g)), .ref hb, .ref hc], aI Y hb 256 v, oB o2 0 [.ref r2, .int (nI L.length), .long (lN (andL L)), .long (lN (orL L))], aJ Y r2 5040 f]) ?_ (0, u) ⟨(by omega), (fun h hh => hu h (by omega))⟩ (rfl) rfl (rfl)
    rintro ⟨k, v⟩ ⟨hk, hv⟩ ih43
    refine J_eq (lv' := [(0, .ref o), (1, .ref o2), (2, .int (nI g)), (3, .long (lN (2 ^ (40 + g)))), (5, .int (nI L.length)), (6, .int (nI k))]) (st' := []) (ws' := [oB o 2 [.int (nI (stN (L.take k) g)), .ref hb, .ref hc], aI Y hb 256 v, oB o2 0 [.ref r2, .int (nI L.length), .long (lN (andL L)), .long (lN (orL L))], aJ Y r2 5040 f]) rfl rfl rfl rfl ?_
    refine J_iload C dX2_lookAt_43 5 rfl ?_
    refine J_iload C dX2_lookAt_45 4 rfl ?_
    refine J_icmp_geN (tgt := 116) C dX2_lookAt_47 (by decide) (by omega) (by omega) (fun cq47 => ?_) (fun cq47 => ?_)
    · exact J_vret C hr dX2_lookAt_116 v (fun h hh => by rw [hv h hh, show k = L.length from by omega, List.take_length]) (by rw [show k = L.length from by omega, List.take_length])
    · refine J_aload_n C dX2_lookAt_50 rfl 1 rfl ?_
      refine J_getN (ci := 0) C i0 rfl 0 (by decide) w6 rfl 2 rfl rfl dX2_lookAt_51 ?_
      refine J_iload C dX2_lookAt_54 5 rfl ?_
      refine J_laldN C 3 rfl (by omega) (by omega) dX2_lookAt_56 ?_
      refine J_top (y := .long (lN (L.getD k 0))) (by rw [hr2 k (by omega)]) ?_
      refine J_lstore (lv' := [(7, .long (lN (L.getD k 0))), (0, .ref o), (1, .ref o2), (2, .int (nI g)), (3, .long (lN (2 ^ (40 + g)))), (5, .int (nI L.length)), (6, .int (nI k))]) C dX2_lookAt_57 (by decide) rfl ?_
      refine J_lload C dX2_lookAt_59 0 rfl ?_
      refine J_iload_n C dX2_lookAt_61 rfl 3 rfl ?_
      refine J_callI (wr := [oB o 2 [.int (nI (stN (L.take k) g)), .ref hb, .ref hc], aI Y hb 256 v, oB o2 0 [.ref r2, .int (nI L.length), .long (lN (andL L)), .long (lN (orL L))], aJ Y r2 5040 f]) C (R_S (st := []) (wc := []) C (kX0_cardsAt ll Y (L.getD k 0) g (Nat.lt_trans (getD_lt hB (by omega)) (by decide)) (by omega)) (va_cwS 2 C.t gX2_lookAt_X0_cardsAt rfl rfl rfl (by decide +kernel) ⟨by decide, by decide⟩) rfl [] rfl (by decide) rfl (Nat.le_of_ble_eq_true rfl) dX2_lookAt_62 ⟨Nat.le_of_ble_eq_true rfl, Nat.le_of_ble_eq_true rfl⟩) [] [0, 1, 2, 3] rfl rfl (by decide) (by decide) (fun r62 u62 hw62 => ?_)
      subst hw62
      refine J_eq (pc' := 65) (lv' := [(7, .long (lN (L.getD k 0))), (0, .ref o), (1, .ref o2), (2, .int (nI g)), (3, .long (lN (2 ^ (40 + g)))), (5, .int (nI L.length)), (6, .int (nI k))]) (st' := [.int (nI (hAt (L.getD k 0) g))]) (ws' := [oB o 2 [.int (nI (stN (L.take k) g)), .ref hb, .ref hc], aI Y hb 256 v, oB o2 0 [.ref r2, .int (nI L.length), .long (lN (andL L)), .long (lN (orL L))], aJ Y r2 5040 f]) rfl rfl rfl rfl ?_
      refine J_istore (lv' := [(9, .int (nI (hAt (L.getD k 0) g))), (7, .long (lN (L.getD k 0))), (0, .ref o), (1, .ref o2), (2, .int (nI g)), (3, .long (lN (2 ^ (40 + g)))), (5, .int (nI L.length)), (6, .int (nI k))]) C dX2_lookAt_65 (by decide) rfl ?_
      refine J_lload C dX2_lookAt_67 1 rfl ?_
      refine J_lload_n C dX2_lookAt_69 rfl 5 rfl ?_
      refine J_landN C dX2_lookAt_70 ?_
      refine J_lconst C dX2_lookAt_71 (v := lN 0) rfl ?_
      refine J_lcmp C dX2_lookAt_72 ?_
      refine J_if_neL (tgt := 89) C dX2_lookAt_73 (by decide) (and_p2 _ (by omega)) (by decide) (fun cq73 => ?_) (fun cq73 => ?_)
      · refine J_iload C dX2_lookAt_89 0 rfl ?_
        refine J_aload_n C dX2_lookAt_91 rfl 2 rfl ?_
        refine J_get (ci := 2) C i2 rfl 1 (by decide) w1 rfl 0 rfl rfl dX2_lookAt_92 ?_
        refine J_alenI C 1 rfl dX2_lookAt_95 ?_
        refine J_icmp_geN (tgt := 110) C dX2_lookAt_96 (by decide) (Nat.lt_trans (hAt_lt _ _) (by decide)) (by decide) (fun cq96 => ?_) (fun cq96 => ?_)
        · exact absurd cq96 (Nat.not_le.mpr (hAt_lt _ _))
        · refine J_aload_n C dX2_lookAt_99 rfl 2 rfl ?_
          refine J_get (ci := 2) C i2 rfl 1 (by decide) w1 rfl 0 rfl rfl dX2_lookAt_100 ?_
          refine J_iload C dX2_lookAt_103 0 rfl ?_
          refine J_dup2 C dX2_lookAt_105 rfl rfl ?_
          refine J_ialdN C 1 rfl (hAt_lt _ _) (by decide) dX2_lookAt_106 ?_
          refine J_top (y := .int (nI (bhN (L.take k) g (hAt (L.getD k 0) g)))) (by rw [hv _ (hAt_lt _ _)]) ?_
          refine J_iconst C dX2_lookAt_107 (v := nI 1) (by decide) ?_
          refine J_iaddN C dX2_lookAt_108 ?_
          refine J_iastN (ws' := [oB o 2 [.int (nI (stN (L.take k) g)), .ref hb, .ref hc], aI Y hb 256 (upd v (hAt (L.getD k 0) g) (nI ((bhN (L.take k) g (hAt (L.getD k 0) g)) + 1))), oB o2 0 [.ref r2, .int (nI L.length), .long (lN (andL L)), .long (lN (orL L))], aJ Y r2 5040 f]) C 1 rfl (hAt_lt _ _) (by decide) dX2_lookAt_109 rfl ?_
          refine J_iinc (j := 7) (v := nI (k + 1)) (lv' := [(6, .int (nI (k + 1))), (9, .int (nI (hAt (L.getD k 0) g))), (7, .long (lN (L.getD k 0))), (0, .ref o), (1, .ref o2), (2, .int (nI g)), (3, .long (lN (2 ^ (40 + g)))), (5, .int (nI L.length))]) C dX2_lookAt_110 rfl (nI_1 _) (by decide) rfl ?_
          refine J_goto (tgt := 43) C dX2_lookAt_113 (by decide) ?_
          refine J_lv (lv' := [(0, .ref o), (1, .ref o2), (2, .int (nI g)), (3, .long (lN (2 ^ (40 + g)))), (5, .int (nI L.length)), (6, .int (nI (k + 1)))]) [3, 4, 5, 6, 7, 0] rfl ?_
          rw [← stN_f (by omega) cq73]
          exact ih43 (k + 1, upd v (hAt (L.getD k 0) g) (nI ((bhN (L.take k) g (hAt (L.getD k 0) g)) + 1))) ⟨(by omega), (bh_up (by omega) cq73 hv)⟩ (show L.length - (k + 1) < L.length - k from by omega)
      · refine J_aload_n C dX2_lookAt_76 rfl 2 rfl ?_
        refine J_dup C dX2_lookAt_77 rfl ?_
        refine J_get (ci := 2) C i2 rfl 0 (by decide) w0 rfl 0 rfl rfl dX2_lookAt_78 ?_
        refine J_iconst C dX2_lookAt_81 (v := nI 1) (by decide) ?_
        refine J_iaddN C dX2_lookAt_82 ?_
        refine J_put (ci := 2) (ty := .int) (ws' := [oB o 2 [.int (nI ((stN (L.take k) g) + 1)), .ref hb, .ref hc], aI Y hb 256 v, oB o2 0 [.ref r2, .int (nI L.length), .long (lN (andL L)), .long (lN (orL L))], aJ Y r2 5040 f]) C i2 tyX2 tyX2_ok nmX2 rfl 0 (by decide) w0 rfl rfl (by decide +kernel) (rfl) (rfl) 0 rfl (Nat.le_of_ble_eq_true rfl) dX2_lookAt_83 rfl ?_
        refine J_goto (tgt := 110) C dX2_lookAt_86 (by decide) ?_
        refine J_iinc (j := 7) (v := nI (k + 1)) (lv' := [(6, .int (nI (k + 1))), (9, .int (nI (hAt (L.getD k 0) g))), (7, .long (lN (L.getD k 0))), (0, .ref o), (1, .ref o2), (2, .int (nI g)), (3, .long (lN (2 ^ (40 + g)))), (5, .int (nI L.length))]) C dX2_lookAt_110 rfl (nI_1 _) (by decide) rfl ?_
        refine J_goto (tgt := 43) C dX2_lookAt_113 (by decide) ?_
        refine J_lv (lv' := [(0, .ref o), (1, .ref o2), (2, .int (nI g)), (3, .long (lN (2 ^ (40 + g)))), (5, .int (nI L.length)), (6, .int (nI (k + 1)))]) [3, 4, 5, 6, 7, 0] rfl ?_
        rw [← stN_t (by omega) cq73]
        exact ih43 (k + 1, v) ⟨(by omega), (bh_keep (by omega) cq73 hv)⟩ (show L.length - (k + 1) < L.length - k from by omega)
  · refine J_aload_n C dX2_lookAt_16 rfl 0 rfl ?_
    refine J_get (ci := 2) C i2 rfl 1 (by decide) w1 rfl 0 rfl rfl dX2_lookAt_17 ?_
    refine J_iload_n C dX2_lookAt_20 rfl 3 rfl ?_
    refine J_iconst C dX2_lookAt_21 (v := nI 0) (by decide) ?_
    refine J_iastN (ws' := [oB o 2 [.int (nI 0), .ref hb, .ref hc], aI Y hb 256 (upd u i (nI 0)), oB o2 0 [.ref r2, .int (nI L.length), .long (lN (andL L)), .long (lN (orL L))], aJ Y r2 5040 f]) C 1 rfl (by omega) (by omega) dX2_lookAt_22 rfl ?_
    refine J_iinc (j := 3) (v := nI (i + 1)) (lv' := [(3, .int (nI (i + 1))), (0, .ref o), (1, .ref o2), (2, .int (nI g))]) C dX2_lookAt_23 rfl (nI_1 _) (by decide) rfl ?_
    refine J_goto (tgt := 7) C dX2_lookAt_26 (by decide) ?_
    refine J_lv (lv' := [(0, .ref o), (1, .ref o2), (2, .int (nI g)), (3, .int (nI (i + 1)))]) [1, 2, 3, 0] rfl ?_
    exact ih7 (i + 1, upd u i (nI 0)) ⟨(by omega), (zero_up hu)⟩ (show 256 - (i + 1) < 256 - i from by omega)

set_option maxHeartbeats 4000000 in
set_option maxRecDepth 100000 in
theorem kX2_leftBehind (ll : Launch) (Y : GY) (o : Nat) (hb : Nat) (hc : Nat) (sv : Nat) (bh : Nat → Int32) (B : Nat → Nat) (cards : Nat) (ans : Nat) (hu : ∀ h, h < 256 → bh h = nI (B h)) (hcs : cards < 256) (han : ans ≤ 8) : CT ll yX2_leftBehind wsX2_leftBehind { frames := 1, cells := 0, slots := 0, locals := 20 } Y [.ref o, .int (nI cards), .int (nI ans)] [oB o 2 [.int (nI sv), .ref hb, .ref hc], aI Y hb 256 bh] (QI Y (fun (r : Int32) (_ : Unit) => r = nI (sv + lbN B cards ans 256)) (fun _ => [oB o 2 [.int (nI sv), .ref hb, .ref hc], aI Y hb 256 bh])) 0 0 := by
  refine CT_of (cc := cX2_leftBehind) (maxL := 5) (ret := (some .int)) (by decide) rfl (Nat.le_of_ble_eq_true rfl) ?_
  intro pp ee ss mm bl mt cc AA C hr hnm
  have w0 := C.t _ (List.mem_of_getElem? (i := 1) (show wsX2_leftBehind[1]? = some (Cond.fieldLink RX2 18 "SecretDinner$Outlook" "staying" "I") from rfl))
  have w1 := C.t _ (List.mem_of_getElem? (i := 2) (show wsX2_leftBehind[2]? = some (Cond.fieldLink RX2 9 "SecretDinner$Outlook" "byHand" "[I") from rfl))
  have i2 : ∀ w ∈ wsX20, w ∈ wsX2_leftBehind := inPlaces [10, 11, 12] (by decide +kernel)
  refine J_eq (lv' := [(0, .ref o), (1, .int (nI cards)), (2, .int (nI ans))]) (ws' := [oB o 2 [.int (nI sv), .ref hb, .ref hc], aI Y hb 256 bh]) rfl rfl rfl rfl ?_
  refine J_aload_n C dX2_leftBehind_0 rfl 0 rfl ?_
  refine J_get (ci := 2) C i2 rfl 0 (by decide) w0 rfl 0 rfl rfl dX2_leftBehind_1 ?_
  refine J_istore_n (lv' := [(3, .int (nI sv)), (0, .ref o), (1, .int (nI cards)), (2, .int (nI ans))]) C dX2_leftBehind_4 rfl (by decide) rfl ?_
  refine J_iconst C dX2_leftBehind_5 (v := nI 0) (by decide) ?_
  refine J_istore (lv' := [(4, .int (nI 0)), (3, .int (nI sv)), (0, .ref o), (1, .int (nI cards)), (2, .int (nI ans))]) C dX2_leftBehind_6 (by decide) rfl ?_
  refine J_lv (lv' := [(0, .ref o), (1, .int (nI cards)), (2, .int (nI ans)), (3, .int (nI sv)), (4, .int (nI 0))]) [2, 3, 4, 1, 0] rfl ?_
  refine J_loop (σ := Nat) (I := fun (i : Nat) => (i ≤ 256)) (μ := fun (i : Nat) => 256 - i) (lvf := fun (i : Nat) => [(0, .ref o), (1, .int (nI cards)), (2, .int (nI ans)), (3, .int (nI (sv + lbN B cards ans i))), (4, .int (nI i))]) (stf := fun (i : Nat) => []) (wsf := fun (i : Nat) => [oB o 2 [.int (nI sv), .ref hb, .ref hc], aI Y hb 256 bh]) ?_ (0) (by omega) (rfl) rfl (rfl)
  rintro i hi ih8
  refine J_eq (lv' := [(0, .ref o), (1, .int (nI cards)), (2, .int (nI ans)), (3, .int (nI (sv + lbN B cards ans i))), (4, .int (nI i))]) (st' := []) (ws' := [oB o 2 [.int (nI sv), .ref hb, .ref hc], aI Y hb 256 bh]) rfl rfl rfl rfl ?_
  refine J_iload C dX2_leftBehind_8 4 rfl ?_
  refine J_aload_n C dX2_leftBehind_10 rfl 0 rfl ?_
  refine J_get (ci := 2) C i2 rfl 1 (by decide) w1 rfl 0 rfl rfl dX2_leftBehind_11 ?_
  refine J_alenI C 1 rfl dX2_leftBehind_14 ?_
  refine J_icmp_geN (tgt := 45) C dX2_leftBehind_15 (by decide) (by omega) (by omega) (fun cq15 => ?_) (fun cq15 => ?_)
  · refine J_iload_n C dX2_leftBehind_45 rfl 3 rfl ?_
    exact J_iret C hr dX2_leftBehind_46 (()) (by rw [show i = 256 from by omega]) (rfl)
  · refine J_iload C dX2_leftBehind_18 4 rfl ?_
    refine J_iload_n C dX2_leftBehind_20 rfl 1 rfl ?_
    refine J_iandN C dX2_leftBehind_21 ?_
    refine J_callI (wr := [oB o 2 [.int (nI sv), .ref hb, .ref hc], aI Y hb 256 bh]) C (R_S (st := []) (wc := []) C (kJ6_bitCount_0f7a4 ll Y (i &&& cards) (Nat.lt_of_le_of_lt Nat.and_le_left (by omega))) (va_cwS 1 C.t gX2_leftBehind_J6_bitCount_0f7a4 rfl rfl rfl (by decide +kernel) ⟨by decide, by decide⟩) rfl [] rfl (by decide) rfl (Nat.le_of_ble_eq_true rfl) dX2_leftBehind_22 ⟨Nat.le_of_ble_eq_true rfl, Nat.le_of_ble_eq_true rfl⟩) [] [0, 1] rfl rfl (by decide) (by decide) (fun r22 u22 hw22 => ?_)
    subst hw22
    refine J_eq (pc' := 25) (lv' := [(0, .ref o), (1, .int (nI cards)), (2, .int (nI ans)), (3, .int (nI (sv + lbN B cards ans i))), (4, .int (nI i))]) (st' := [.int (nI (pc8 (i &&& cards)))]) (ws' := [oB o 2 [.int (nI sv), .ref hb, .ref hc], aI Y hb 256 bh]) rfl rfl rfl rfl ?_
    refine J_iload_n C dX2_leftBehind_25 rfl 2 rfl ?_
    refine J_icmp_neN (tgt := 39) C dX2_leftBehind_26 (by decide) (Nat.lt_of_le_of_lt (pc8_le _) (by decide)) (by omega) (fun cq26 => ?_) (fun cq26 => ?_)
    · refine J_iinc (j := 4) (v := nI (i + 1)) (lv' := [(4, .int (nI (i + 1))), (0, .ref o), (1, .int (nI cards)), (2, .int (nI ans)), (3, .int (nI (sv + lbN B cards ans i)))]) C dX2_leftBehind_39 rfl (nI_1 _) (by decide) rfl ?_
      refine J_goto (tgt := 8) C dX2_leftBehind_42 (by decide) ?_
      refine J_lv (lv' := [(0, .ref o), (1, .int (nI cards)), (2, .int (nI ans)), (3, .int (nI (sv + lbN B cards ans i))), (4, .int (nI (i + 1)))]) [1, 2, 3, 4, 0] rfl ?_
      rw [← lbN_f cq26]
      exact ih8 (i + 1) (by omega) (show 256 - (i + 1) < 256 - i from by omega)
    · refine J_iload_n C dX2_leftBehind_29 rfl 3 rfl ?_
      refine J_aload_n C dX2_leftBehind_30 rfl 0 rfl ?_
      refine J_get (ci := 2) C i2 rfl 1 (by decide) w1 rfl 0 rfl rfl dX2_leftBehind_31 ?_
      refine J_iload C dX2_leftBehind_34 4 rfl ?_
      refine J_ialdN C 1 rfl (by omega) (by omega) dX2_leftBehind_36 ?_
      refine J_top (y := .int (nI (B i))) (by rw [hu i (by omega)]) ?_
      refine J_iaddN C dX2_leftBehind_37 ?_
      refine J_istore_n (lv' := [(3, .int (nI ((sv + lbN B cards ans i) + (B i)))), (0, .ref o), (1, .int (nI cards)), (2, .int (nI ans)), (4, .int (nI i))]) C dX2_leftBehind_38 rfl (by decide) rfl ?_
      refine J_iinc (j := 4) (v := nI (i + 1)) (lv' := [(4, .int (nI (i + 1))), (3, .int (nI ((sv + lbN B cards ans i) + (B i)))), (0, .ref o), (1, .int (nI cards)), (2, .int (nI ans))]) C dX2_leftBehind_39 rfl (nI_1 _) (by decide) rfl ?_
      refine J_goto (tgt := 8) C dX2_leftBehind_42 (by decide) ?_
      refine J_lv (lv' := [(0, .ref o), (1, .int (nI cards)), (2, .int (nI ans)), (3, .int (nI ((sv + lbN B cards ans i) + (B i)))), (4, .int (nI (i + 1)))]) [2, 3, 4, 1, 0] rfl ?_
      rw [Nat.add_assoc, ← lbN_t cq26]
      exact ih8 (i + 1) (by omega) (show 256 - (i + 1) < 256 - i from by omega)

set_option maxHeartbeats 4000000 in
set_option maxRecDepth 100000 in
theorem kX2_mostLeft (ll : Launch) (Y : GY) (o : Nat) (hb : Nat) (hc : Nat) (sv : Nat) (bh : Nat → Int32) (B : Nat → Nat) (ba : Nat → Int32) (cards : Nat) (hu : ∀ h, h < 256 → bh h = nI (B h)) (hBs : fb_sm B 256 ≤ 5040) (hsv : sv ≤ 5040) (hcs : cards < 256) : CT ll yX2_mostLeft wsX2_mostLeft { frames := 1, cells := 0, slots := 0, locals := 21 } Y [.ref o, .int (nI cards)] [oB o 2 [.int (nI sv), .ref hb, .ref hc], aI Y hb 256 bh, aI Y hc 9 ba] (QI (S := Nat → Int32) Y (fun r _ => r = nI (wsN sv B cards)) (fun u => [oB o 2 [.int (nI sv), .ref hb, .ref hc], aI Y hb 256 bh, aI Y hc 9 u])) 0 0 := by
  refine CT_of (cc := cX2_mostLeft) (maxL := 4) (ret := (some .int)) (by decide) rfl (Nat.le_of_ble_eq_true rfl) ?_
  intro pp ee ss mm bl mt cc AA C hr hnm
  have w0 := C.t _ (List.mem_of_getElem? (i := 1) (show wsX2_mostLeft[1]? = some (Cond.fieldLink RX2 15 "SecretDinner$Outlook" "byAnswer" "[I") from rfl))
  have w1 := C.t _ (List.mem_of_getElem? (i := 2) (show wsX2_mostLeft[2]? = some (Cond.fieldLink RX2 9 "SecretDinner$Outlook" "byHand" "[I") from rfl))
  have w2 := C.t _ (List.mem_of_getElem? (i := 7) (show wsX2_mostLeft[7]? = some (Cond.fieldLink RX2 18 "SecretDinner$Outlook" "staying" "I") from rfl))
  have w3 := C.t _ (List.mem_of_getElem? (i := 3) (show wsX2_mostLeft[3]? = some (Cond.methodLink RX2 46 Lib.Math.max.name) from rfl))
  have w4 := C.t _ (List.mem_of_getElem? (i := 4) (show wsX2_mostLeft[4]? = some (Cond.static Lib.Math.max.name) from rfl))
  have w5 := C.t _ (List.mem_of_getElem? (i := 5) (show wsX2_mostLeft[5]? = some (Cond.initialized "java/lang/Math") from rfl))
  have w6 := C.t _ (List.mem_of_getElem? (i := 6) (show wsX2_mostLeft[6]? = some (Cond.code Lib.Math.max.name Lib.Math.max.code 2 (some .int)) from rfl))
  have i2 : ∀ w ∈ wsX20, w ∈ wsX2_mostLeft := inPlaces [15, 16, 17] (by decide +kernel)
  refine J_eq (lv' := [(0, .ref o), (1, .int (nI cards))]) (ws' := [oB o 2 [.int (nI sv), .ref hb, .ref hc], aI Y hb 256 bh, aI Y hc 9 ba]) rfl rfl rfl rfl ?_
  refine J_iconst C dX2_mostLeft_0 (v := nI 0) (by decide) ?_
  refine J_istore_n (lv' := [(2, .int (nI 0)), (0, .ref o), (1, .int (nI cards))]) C dX2_mostLeft_1 rfl (by decide) rfl ?_
  refine J_lv (lv' := [(0, .ref o), (1, .int (nI cards)), (2, .int (nI 0))]) [1, 2, 0] rfl ?_
  refine J_loop (σ := Nat × (Nat → Int32)) (I := fun (i, u) => (i ≤ 9) ∧ (∀ j, j < i → u j = nI 0)) (μ := fun (i, u) => 9 - i) (lvf := fun (i, u) => [(0, .ref o), (1, .int (nI cards)), (2, .int (nI i))]) (stf := fun (i, u) => []) (wsf := fun (i, u) => [oB o 2 [.int (nI sv), .ref hb, .ref hc], aI Y hb 256 bh, aI Y hc 9 u]) ?_ (0, ba) ⟨(by omega), (fun j hj => absurd hj (Nat.not_lt_zero j))⟩ (rfl) rfl (rfl)
  rintro ⟨i, u⟩ ⟨hi, hz⟩ ih2
  refine J_eq (lv' := [(0, .ref o), (1, .int (nI cards)), (2, .int (nI i))]) (st' := []) (ws' := [oB o 2 [.int (nI sv), .ref hb, .ref hc], aI Y hb 256 bh, aI Y hc 9 u]) rfl rfl rfl rfl ?_
  refine J_iload_n C dX2_mostLeft_2 rfl 2 rfl ?_
  refine J_aload_n C dX2_mostLeft_3 rfl 0 rfl ?_
  refine J_get (ci := 2) C i2 rfl 2 (by decide) w0 rfl 0 rfl rfl dX2_mostLeft_4 ?_
  refine J_alenI C 2 rfl dX2_mostLeft_7 ?_
  refine J_icmp_geN (tgt := 24) C dX2_mostLeft_8 (by decide) (by omega) (by omega) (fun cq8 => ?_) (fun cq8 => ?_)
  · refine J_iconst C dX2_mostLeft_24 (v := nI 0) (by decide) ?_
    refine J_istore_n (lv' := [(2, .int (nI 0)), (0, .ref o), (1, .int (nI cards))]) C dX2_mostLeft_25 rfl (by decide) rfl ?_
    refine J_lv (lv' := [(0, .ref o), (1, .int (nI cards)), (2, .int (nI 0))]) [1, 2, 0] rfl ?_
    refine J_loop (σ := Nat × (Nat → Int32)) (I := fun (k, v) => (k ≤ 256) ∧ (∀ a, a < 9 → v a = nI (lbN B cards a k))) (μ := fun (k, v) => 256 - k) (lvf := fun (k, v) => [(0, .ref o), (1, .int (nI cards)), (2, .int (nI k))]) (stf := fun (k, v) => []) (wsf := fun (k, v) => [oB o 2 [.int (nI sv), .ref hb, .ref hc], aI Y hb 256 bh, aI Y hc 9 v]) ?_ (0, u) ⟨(by omega), (fun a ha => hz a (by omega))⟩ (rfl) rfl (rfl)
    rintro ⟨k, v⟩ ⟨hk, hv⟩ ih26
    refine J_eq (lv' := [(0, .ref o), (1, .int (nI cards)), (2, .int (nI k))]) (st' := []) (ws' := [oB o 2 [.int (nI sv), .ref hb, .ref hc], aI Y hb 256 bh, aI Y hc 9 v]) rfl rfl rfl rfl ?_
    refine J_iload_n C dX2_mostLeft_26 rfl 2 rfl ?_
    refine J_aload_n C dX2_mostLeft_27 rfl 0 rfl ?_
    refine J_get (ci := 2) C i2 rfl 1 (by decide) w1 rfl 0 rfl rfl dX2_mostLeft_28 ?_
    refine J_alenI C 1 rfl dX2_mostLeft_31 ?_
    refine J_icmp_geN (tgt := 72) C dX2_mostLeft_32 (by decide) (by omega) (by omega) (fun cq32 => ?_) (fun cq32 => ?_)
    · refine J_iconst C dX2_mostLeft_72 (v := nI 0) (by decide) ?_
      refine J_istore_n (lv' := [(2, .int (nI 0)), (0, .ref o), (1, .int (nI cards))]) C dX2_mostLeft_73 rfl (by decide) rfl ?_
      refine J_iconst C dX2_mostLeft_74 (v := nI 0) (by decide) ?_
      refine J_istore_n (lv' := [(3, .int (nI 0)), (2, .int (nI 0)), (0, .ref o), (1, .int (nI cards))]) C dX2_mostLeft_75 rfl (by decide) rfl ?_
      refine J_lv (lv' := [(0, .ref o), (1, .int (nI cards)), (2, .int (nI 0)), (3, .int (nI 0))]) [2, 3, 1, 0] rfl ?_
      refine J_loop (σ := Nat) (I := fun (a : Nat) => (a ≤ 9)) (μ := fun (a : Nat) => 9 - a) (lvf := fun (a : Nat) => [(0, .ref o), (1, .int (nI cards)), (2, .int (nI (mxN (fun a => lbN B cards a 256) a))), (3, .int (nI a))]) (stf := fun (a : Nat) => []) (wsf := fun (a : Nat) => [oB o 2 [.int (nI sv), .ref hb, .ref hc], aI Y hb 256 bh, aI Y hc 9 v]) ?_ (0) (by omega) (rfl) rfl (rfl)
      rintro a ha ih76
      refine J_eq (lv' := [(0, .ref o), (1, .int (nI cards)), (2, .int (nI (mxN (fun a => lbN B cards a 256) a))), (3, .int (nI a))]) (st' := []) (ws' := [oB o 2 [.int (nI sv), .ref hb, .ref hc], aI Y hb 256 bh, aI Y hc 9 v]) rfl rfl rfl rfl ?_
      refine J_iload_n C dX2_mostLeft_76 rfl 3 rfl ?_
      refine J_aload_n C dX2_mostLeft_77 rfl 0 rfl ?_
      refine J_get (ci := 2) C i2 rfl 2 (by decide) w0 rfl 0 rfl rfl dX2_mostLeft_78 ?_
      refine J_alenI C 2 rfl dX2_mostLeft_81 ?_
      refine J_icmp_geN (tgt := 102) C dX2_mostLeft_82 (by decide) (by omega) (by omega) (fun cq82 => ?_) (fun cq82 => ?_)
      · refine J_aload_n C dX2_mostLeft_102 rfl 0 rfl ?_
        refine J_get (ci := 2) C i2 rfl 0 (by decide) w2 rfl 0 rfl rfl dX2_mostLeft_103 ?_
        refine J_iload_n C dX2_mostLeft_106 rfl 2 rfl ?_
        refine J_iaddN C dX2_mostLeft_107 ?_
        exact J_iret C hr dX2_mostLeft_108 v (by rw [show a = 9 from by omega]; rfl) (rfl)
      · refine J_iload_n C dX2_mostLeft_85 rfl 2 rfl ?_
        refine J_aload_n C dX2_mostLeft_86 rfl 0 rfl ?_
        refine J_get (ci := 2) C i2 rfl 2 (by decide) w0 rfl 0 rfl rfl dX2_mostLeft_87 ?_
        refine J_iload_n C dX2_mostLeft_90 rfl 3 rfl ?_
        refine J_ialdN C 2 rfl (by omega) (by omega) dX2_mostLeft_91 ?_
        refine J_top (y := .int (nI (lbN B cards a 256))) (by rw [hv a (by omega), show k = 256 from by omega]) ?_
        refine J_mmaxN C w3 w4 w5 w6 (Nat.le_of_ble_eq_true rfl) (Nat.le_of_ble_eq_true rfl) (Nat.le_of_ble_eq_true rfl) (Nat.le_of_ble_eq_true rfl) (Nat.lt_of_le_of_lt (mxN_le (fun a => lbN_le (Nat.le_refl _) hBs) a) (by decide)) (Nat.lt_of_le_of_lt (lbN_le (Nat.le_refl _) hBs) (by decide)) dX2_mostLeft_92 ?_
        refine J_istore_n (lv' := [(2, .int (nI (Nat.max (mxN (fun a => lbN B cards a 256) a) (lbN B cards a 256)))), (0, .ref o), (1, .int (nI cards)), (3, .int (nI a))]) C dX2_mostLeft_95 rfl (by decide) rfl ?_
        refine J_iinc (j := 3) (v := nI (a + 1)) (lv' := [(3, .int (nI (a + 1))), (2, .int (nI (Nat.max (mxN (fun a => lbN B cards a 256) a) (lbN B cards a 256)))), (0, .ref o), (1, .int (nI cards))]) C dX2_mostLeft_96 rfl (nI_1 _) (by decide) rfl ?_
        refine J_goto (tgt := 76) C dX2_mostLeft_99 (by decide) ?_
        refine J_lv (lv' := [(0, .ref o), (1, .int (nI cards)), (2, .int (nI (Nat.max (mxN (fun a => lbN B cards a 256) a) (lbN B cards a 256)))), (3, .int (nI (a + 1)))]) [2, 3, 1, 0] rfl ?_
        exact ih76 (a + 1) (by omega) (show 9 - (a + 1) < 9 - a from by omega)
    · refine J_iload_n C dX2_mostLeft_35 rfl 2 rfl ?_
      refine J_iload_n C dX2_mostLeft_36 rfl 1 rfl ?_
      refine J_iandN C dX2_mostLeft_37 ?_
      refine J_callI (wr := [oB o 2 [.int (nI sv), .ref hb, .ref hc], aI Y hb 256 bh, aI Y hc 9 v]) C (R_S (st := []) (wc := []) C (kJ6_bitCount_0f7a4 ll Y (k &&& cards) (Nat.lt_of_le_of_lt Nat.and_le_left (by omega))) (va_cwS 1 C.t gX2_mostLeft_J6_bitCount_0f7a4 rfl rfl rfl (by decide +kernel) ⟨by decide, by decide⟩) rfl [] rfl (by decide) rfl (Nat.le_of_ble_eq_true rfl) dX2_mostLeft_38 ⟨Nat.le_of_ble_eq_true rfl, Nat.le_of_ble_eq_true rfl⟩) [] [0, 1, 2] rfl rfl (by decide) (by decide) (fun r38 u38 hw38 => ?_)
      subst hw38
      refine J_eq (pc' := 41) (lv' := [(0, .ref o), (1, .int (nI cards)), (2, .int (nI k))]) (st' := [.int (nI (pc8 (k &&& cards)))]) (ws' := [oB o 2 [.int (nI sv), .ref hb, .ref hc], aI Y hb 256 bh, aI Y hc 9 v]) rfl rfl rfl rfl ?_
      refine J_istore_n (lv' := [(3, .int (nI (pc8 (k &&& cards)))), (0, .ref o), (1, .int (nI cards)), (2, .int (nI k))]) C dX2_mostLeft_41 rfl (by decide) rfl ?_
      refine J_iload_n C dX2_mostLeft_42 rfl 0 rfl ?_
      refine J_aload_n C dX2_mostLeft_43 rfl 1 rfl ?_
      refine J_get (ci := 2) C i2 rfl 2 (by decide) w0 rfl 0 rfl rfl dX2_mostLeft_44 ?_
      refine J_alenI C 2 rfl dX2_mostLeft_47 ?_
      refine J_icmp_geN (tgt := 66) C dX2_mostLeft_48 (by decide) (Nat.lt_of_le_of_lt (pc8_le _) (by decide)) (by decide) (fun cq48 => ?_) (fun cq48 => ?_)
      · exact absurd cq48 (Nat.not_le.mpr (Nat.lt_of_le_of_lt (pc8_le _) (by decide)))
      · refine J_aload_n C dX2_mostLeft_51 rfl 1 rfl ?_
        refine J_get (ci := 2) C i2 rfl 2 (by decide) w0 rfl 0 rfl rfl dX2_mostLeft_52 ?_
        refine J_iload_n C dX2_mostLeft_55 rfl 0 rfl ?_
        refine J_dup2 C dX2_mostLeft_56 rfl rfl ?_
        refine J_ialdN C 2 rfl (Nat.lt_of_le_of_lt (pc8_le _) (by decide)) (by decide) dX2_mostLeft_57 ?_
        refine J_top (y := .int (nI (lbN B cards (pc8 (k &&& cards)) k))) (by rw [hv _ (Nat.lt_of_le_of_lt (pc8_le _) (by decide))]) ?_
        refine J_aload_n C dX2_mostLeft_58 rfl 1 rfl ?_
        refine J_get (ci := 2) C i2 rfl 1 (by decide) w1 rfl 0 rfl rfl dX2_mostLeft_59 ?_
        refine J_iload_n C dX2_mostLeft_62 rfl 3 rfl ?_
        refine J_ialdN C 1 rfl (by omega) (by omega) dX2_mostLeft_63 ?_
        refine J_top (y := .int (nI (B k))) (by rw [hu k (by omega)]) ?_
        refine J_iaddN C dX2_mostLeft_64 ?_
        refine J_iastN (ws' := [oB o 2 [.int (nI sv), .ref hb, .ref hc], aI Y hb 256 bh, aI Y hc 9 (upd v (pc8 (k &&& cards)) (nI ((lbN B cards (pc8 (k &&& cards)) k) + (B k))))]) C 2 rfl (Nat.lt_of_le_of_lt (pc8_le _) (by decide)) (by decide) dX2_mostLeft_65 rfl ?_
        refine J_iinc (j := 3) (v := nI (k + 1)) (lv' := [(2, .int (nI (k + 1))), (3, .int (nI (pc8 (k &&& cards)))), (0, .ref o), (1, .int (nI cards))]) C dX2_mostLeft_66 rfl (nI_1 _) (by decide) rfl ?_
        refine J_goto (tgt := 26) C dX2_mostLeft_69 (by decide) ?_
        refine J_lv (lv' := [(0, .ref o), (1, .int (nI cards)), (2, .int (nI (k + 1)))]) [2, 3, 0] rfl ?_
        exact ih26 (k + 1, upd v (pc8 (k &&& cards)) (nI ((lbN B cards (pc8 (k &&& cards)) k) + (B k)))) ⟨(by omega), (an_up hv)⟩ (show 256 - (k + 1) < 256 - k from by omega)
  · refine J_aload_n C dX2_mostLeft_11 rfl 0 rfl ?_
    refine J_get (ci := 2) C i2 rfl 2 (by decide) w0 rfl 0 rfl rfl dX2_mostLeft_12 ?_
    refine J_iload_n C dX2_mostLeft_15 rfl 2 rfl ?_
    refine J_iconst C dX2_mostLeft_16 (v := nI 0) (by decide) ?_
    refine J_iastN (ws' := [oB o 2 [.int (nI sv), .ref hb, .ref hc], aI Y hb 256 bh, aI Y hc 9 (upd u i (nI 0))]) C 2 rfl (by omega) (by omega) dX2_mostLeft_17 rfl ?_
    refine J_iinc (j := 2) (v := nI (i + 1)) (lv' := [(2, .int (nI (i + 1))), (0, .ref o), (1, .int (nI cards))]) C dX2_mostLeft_18 rfl (nI_1 _) (by decide) rfl ?_
    refine J_goto (tgt := 2) C dX2_mostLeft_21 (by decide) ?_
    refine J_lv (lv' := [(0, .ref o), (1, .int (nI cards)), (2, .int (nI (i + 1)))]) [1, 2, 0] rfl ?_
    exact ih2 (i + 1, upd u i (nI 0)) ⟨(by omega), (zero_up hz)⟩ (show 9 - (i + 1) < 9 - i from by omega)

set_option maxHeartbeats 4000000 in
set_option maxRecDepth 100000 in
theorem kX2_bestQuestion (ll : Launch) (Y : GY) (o : Nat) (hb : Nat) (hc : Nat) (sv : Nat) (bh : Nat → Int32) (B : Nat → Nat) (ba : Nat → Int32) (hu : ∀ h, h < 256 → bh h = nI (B h)) (hBs : fb_sm B 256 ≤ 5040) (hsv : sv ≤ 5040) : CT ll yX2_bestQuestion wsX2_bestQuestion { frames := 2, cells := 0, slots := 0, locals := 44 } Y [.ref o] [oB o 2 [.int (nI sv), .ref hb, .ref hc], aI Y hb 256 bh, aI Y hc 9 ba] (QI (S := Nat → Int32) Y (fun r _ => r = nI (bqN (wsN sv B) 254).1) (fun u => [oB o 2 [.int (nI sv), .ref hb, .ref hc], aI Y hb 256 bh, aI Y hc 9 u])) 0 0 := by
  refine CT_of (cc := cX2_bestQuestion) (maxL := 5) (ret := (some .int)) (by decide) rfl (Nat.le_of_ble_eq_true rfl) ?_
  intro pp ee ss mm bl mt cc AA C hr hnm
  refine J_eq (lv' := [(0, .ref o)]) (ws' := [oB o 2 [.int (nI sv), .ref hb, .ref hc], aI Y hb 256 bh, aI Y hc 9 ba]) rfl rfl rfl rfl ?_
  refine J_iconst C dX2_bestQuestion_0 (v := nI 1) (by decide) ?_
  refine J_istore_n (lv' := [(1, .int (nI 1)), (0, .ref o)]) C dX2_bestQuestion_1 rfl (by decide) rfl ?_
  refine J_aload_n C dX2_bestQuestion_2 rfl 1 rfl ?_
  refine J_iload_n C dX2_bestQuestion_3 rfl 0 rfl ?_
  refine J_callI (wr := []) C (R_V (st := []) (wc := [oB o 2 [.int (nI sv), .ref hb, .ref hc], aI Y hb 256 bh, aI Y hc 9 ba]) C (kX2_mostLeft ll Y o hb hc sv bh B ba 1 (by first | assumption | omega) (by first | assumption | omega) (by first | assumption | omega) (by decide)) (cwV 1 C.t gX2_bestQuestion_X2_mostLeft rfl rfl rfl (by decide +kernel) ⟨by decide, by decide⟩) rfl [0, 1, 2] rfl (by decide) ⟨0, 2, _, _, rfl, rfl, rfl⟩ rfl (Nat.le_of_ble_eq_true rfl) dX2_bestQuestion_4 ⟨Nat.le_of_ble_eq_true rfl, Nat.le_of_ble_eq_true rfl⟩) [0, 1, 2] [] rfl rfl (by decide) (by decide) (fun r4 u4 hw4 => ?_)
  subst hw4
  refine J_eq (pc' := 7) (lv' := [(1, .int (nI 1)), (0, .ref o)]) (st' := [.int (nI (wsN sv B 1))]) (ws' := [oB o 2 [.int (nI sv), .ref hb, .ref hc], aI Y hb 256 bh, aI Y hc 9 u4]) rfl rfl rfl rfl ?_
  refine J_istore_n (lv' := [(2, .int (nI (wsN sv B 1))), (1, .int (nI 1)), (0, .ref o)]) C dX2_bestQuestion_7 rfl (by decide) rfl ?_
  refine J_iconst C dX2_bestQuestion_8 (v := nI 2) (by decide) ?_
  refine J_istore_n (lv' := [(3, .int (nI 2)), (2, .int (nI (wsN sv B 1))), (1, .int (nI 1)), (0, .ref o)]) C dX2_bestQuestion_9 rfl (by decide) rfl ?_
  refine J_lv (lv' := [(0, .ref o), (1, .int (nI 1)), (2, .int (nI (wsN sv B 1))), (3, .int (nI 2))]) [3, 2, 1, 0] rfl ?_
  refine J_loop (σ := Nat × (Nat → Int32)) (I := fun (k, v) => (k ≤ 254)) (μ := fun (k, v) => 254 - k) (lvf := fun (k, v) => [(0, .ref o), (1, .int (nI ((bqN (wsN sv B) k).1))), (2, .int (nI ((bqN (wsN sv B) k).2))), (3, .int (nI (k + 2)))]) (stf := fun (k, v) => []) (wsf := fun (k, v) => [oB o 2 [.int (nI sv), .ref hb, .ref hc], aI Y hb 256 bh, aI Y hc 9 v]) ?_ (0, u4) (by omega) (rfl) rfl (rfl)
  rintro ⟨k, v⟩ hk ih10
  refine J_eq (lv' := [(0, .ref o), (1, .int (nI ((bqN (wsN sv B) k).1))), (2, .int (nI ((bqN (wsN sv B) k).2))), (3, .int (nI (k + 2)))]) (st' := []) (ws' := [oB o 2 [.int (nI sv), .ref hb, .ref hc], aI Y hb 256 bh, aI Y hc 9 v]) rfl rfl rfl rfl ?_
  refine J_iload_n C dX2_bestQuestion_10 rfl 3 rfl ?_
  refine J_sipush C dX2_bestQuestion_11 (v := nI 255) (by decide) ?_
  refine J_icmp_gtN (tgt := 49) C dX2_bestQuestion_14 (by decide) (by omega) (by decide) (fun cq14 => ?_) (fun cq14 => ?_)
  · refine J_iload_n C dX2_bestQuestion_49 rfl 1 rfl ?_
    exact J_iret C hr dX2_bestQuestion_50 v (by rw [show k = 254 from by omega]) (rfl)
  · refine J_iload_n C dX2_bestQuestion_17 rfl 3 rfl ?_
    refine J_callI (wr := [oB o 2 [.int (nI sv), .ref hb, .ref hc], aI Y hb 256 bh, aI Y hc 9 v]) C (R_S (st := []) (wc := []) C (kJ6_bitCount_0f7a4 ll Y (k + 2) (by omega)) (va_cwS 1 C.t gX2_bestQuestion_J6_bitCount_0f7a4 rfl rfl rfl (by decide +kernel) ⟨by decide, by decide⟩) rfl [] rfl (by decide) rfl (Nat.le_of_ble_eq_true rfl) dX2_bestQuestion_18 ⟨Nat.le_of_ble_eq_true rfl, Nat.le_of_ble_eq_true rfl⟩) [] [0, 1, 2] rfl rfl (by decide) (by decide) (fun r18 u18 hw18 => ?_)
    subst hw18
    refine J_eq (pc' := 21) (lv' := [(0, .ref o), (1, .int (nI ((bqN (wsN sv B) k).1))), (2, .int (nI ((bqN (wsN sv B) k).2))), (3, .int (nI (k + 2)))]) (st' := [.int (nI (pc8 (k + 2)))]) (ws' := [oB o 2 [.int (nI sv), .ref hb, .ref hc], aI Y hb 256 bh, aI Y hc 9 v]) rfl rfl rfl rfl ?_
    refine J_iconst C dX2_bestQuestion_21 (v := nI 2) (by decide) ?_
    refine J_icmp_gtN (tgt := 43) C dX2_bestQuestion_22 (by decide) (Nat.lt_of_le_of_lt (pc8_le _) (by decide)) (by decide) (fun cq22 => ?_) (fun cq22 => ?_)
    · refine J_iinc (j := 3) (v := nI (k + 2 + 1)) (lv' := [(3, .int (nI (k + 2 + 1))), (0, .ref o), (1, .int (nI ((bqN (wsN sv B) k).1))), (2, .int (nI ((bqN (wsN sv B) k).2)))]) C dX2_bestQuestion_43 rfl (nI_1 _) (by decide) rfl ?_
      refine J_goto (tgt := 10) C dX2_bestQuestion_46 (by decide) ?_
      refine J_lv (lv' := [(0, .ref o), (1, .int (nI ((bqN (wsN sv B) k).1))), (2, .int (nI ((bqN (wsN sv B) k).2))), (3, .int (nI (k + 2 + 1)))]) [1, 2, 3, 0] rfl ?_
      have e0 := bqN_f (M := wsN sv B) (k := k) (by omega)
      refine J_eq (lv' := [(0, .ref o), (1, .int (nI ((bqN (wsN sv B) (k + 1)).1))), (2, .int (nI ((bqN (wsN sv B) (k + 1)).2))), (3, .int (nI ((k + 1) + 2)))]) (ws' := [oB o 2 [.int (nI sv), .ref hb, .ref hc], aI Y hb 256 bh, aI Y hc 9 v]) rfl (by rw [e0]) rfl (rfl) ?_
      exact ih10 (k + 1, v) (by omega) (show 254 - (k + 1) < 254 - k from by omega)
    · refine J_aload_n C dX2_bestQuestion_25 rfl 0 rfl ?_
      refine J_iload_n C dX2_bestQuestion_26 rfl 3 rfl ?_
      refine J_callI (wr := []) C (R_V (st := []) (wc := [oB o 2 [.int (nI sv), .ref hb, .ref hc], aI Y hb 256 bh, aI Y hc 9 v]) C (kX2_mostLeft ll Y o hb hc sv bh B v (k + 2) (by first | assumption | omega) (by first | assumption | omega) (by first | assumption | omega) (by omega)) (cwV 1 C.t gX2_bestQuestion_X2_mostLeft rfl rfl rfl (by decide +kernel) ⟨by decide, by decide⟩) rfl [0, 1, 2] rfl (by decide) ⟨0, 2, _, _, rfl, rfl, rfl⟩ rfl (Nat.le_of_ble_eq_true rfl) dX2_bestQuestion_27 ⟨Nat.le_of_ble_eq_true rfl, Nat.le_of_ble_eq_true rfl⟩) [0, 1, 2] [] rfl rfl (by decide) (by decide) (fun r27 u27 hw27 => ?_)
      subst hw27
      refine J_eq (pc' := 30) (lv' := [(0, .ref o), (1, .int (nI ((bqN (wsN sv B) k).1))), (2, .int (nI ((bqN (wsN sv B) k).2))), (3, .int (nI (k + 2)))]) (st' := [.int (nI (wsN sv B (k + 2)))]) (ws' := [oB o 2 [.int (nI sv), .ref hb, .ref hc], aI Y hb 256 bh, aI Y hc 9 u27]) rfl rfl rfl rfl ?_
      refine J_istore (lv' := [(4, .int (nI (wsN sv B (k + 2)))), (0, .ref o), (1, .int (nI ((bqN (wsN sv B) k).1))), (2, .int (nI ((bqN (wsN sv B) k).2))), (3, .int (nI (k + 2)))]) C dX2_bestQuestion_30 (by decide) rfl ?_
      refine J_iload C dX2_bestQuestion_32 0 rfl ?_
      refine J_iload_n C dX2_bestQuestion_34 rfl 3 rfl ?_
      refine J_icmp_geN (tgt := 43) C dX2_bestQuestion_35 (by decide) (wsN_lt hBs hsv _) (Nat.lt_of_le_of_lt (bqN_le (wsN_le hBs hsv) k) (by decide)) (fun cq35 => ?_) (fun cq35 => ?_)
      · refine J_iinc (j := 4) (v := nI (k + 2 + 1)) (lv' := [(3, .int (nI (k + 2 + 1))), (4, .int (nI (wsN sv B (k + 2)))), (0, .ref o), (1, .int (nI ((bqN (wsN sv B) k).1))), (2, .int (nI ((bqN (wsN sv B) k).2)))]) C dX2_bestQuestion_43 rfl (nI_1 _) (by decide) rfl ?_
        refine J_goto (tgt := 10) C dX2_bestQuestion_46 (by decide) ?_
        refine J_lv (lv' := [(0, .ref o), (1, .int (nI ((bqN (wsN sv B) k).1))), (2, .int (nI ((bqN (wsN sv B) k).2))), (3, .int (nI (k + 2 + 1)))]) [2, 3, 4, 0] rfl ?_
        have e0 := bqN_f (M := wsN sv B) (k := k) (by omega)
        refine J_eq (lv' := [(0, .ref o), (1, .int (nI ((bqN (wsN sv B) (k + 1)).1))), (2, .int (nI ((bqN (wsN sv B) (k + 1)).2))), (3, .int (nI ((k + 1) + 2)))]) (ws' := [oB o 2 [.int (nI sv), .ref hb, .ref hc], aI Y hb 256 bh, aI Y hc 9 u27]) rfl (by rw [e0]) rfl (rfl) ?_
        exact ih10 (k + 1, u27) (by omega) (show 254 - (k + 1) < 254 - k from by omega)
      · refine J_iload C dX2_bestQuestion_38 0 rfl ?_
        refine J_istore_n (lv' := [(2, .int (nI (wsN sv B (k + 2)))), (4, .int (nI (wsN sv B (k + 2)))), (0, .ref o), (1, .int (nI ((bqN (wsN sv B) k).1))), (3, .int (nI (k + 2)))]) C dX2_bestQuestion_40 rfl (by decide) rfl ?_
        refine J_iload_n C dX2_bestQuestion_41 rfl 4 rfl ?_
        refine J_istore_n (lv' := [(1, .int (nI (k + 2))), (2, .int (nI (wsN sv B (k + 2)))), (4, .int (nI (wsN sv B (k + 2)))), (0, .ref o), (3, .int (nI (k + 2)))]) C dX2_bestQuestion_42 rfl (by decide) rfl ?_
        refine J_iinc (j := 4) (v := nI (k + 2 + 1)) (lv' := [(3, .int (nI (k + 2 + 1))), (1, .int (nI (k + 2))), (2, .int (nI (wsN sv B (k + 2)))), (4, .int (nI (wsN sv B (k + 2)))), (0, .ref o)]) C dX2_bestQuestion_43 rfl (nI_1 _) (by decide) rfl ?_
        refine J_goto (tgt := 10) C dX2_bestQuestion_46 (by decide) ?_
        refine J_lv (lv' := [(0, .ref o), (1, .int (nI (k + 2))), (2, .int (nI (wsN sv B (k + 2)))), (3, .int (nI (k + 2 + 1)))]) [4, 1, 2, 0] rfl ?_
        have e0 := bqN_t (M := wsN sv B) (k := k) cq22 cq35
        refine J_eq (lv' := [(0, .ref o), (1, .int (nI ((bqN (wsN sv B) (k + 1)).1))), (2, .int (nI ((bqN (wsN sv B) (k + 1)).2))), (3, .int (nI ((k + 1) + 2)))]) (ws' := [oB o 2 [.int (nI sv), .ref hb, .ref hc], aI Y hb 256 bh, aI Y hc 9 u27]) rfl (by rw [e0]) rfl (rfl) ?_
        exact ih10 (k + 1, u27) (by omega) (show 254 - (k + 1) < 254 - k from by omega)

