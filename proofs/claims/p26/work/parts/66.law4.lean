set_option maxHeartbeats 4000000 in
set_option maxRecDepth 100000 in
theorem kO_isAsked (ll : Launch) (Y : GY) (hl0 : ll.stackTraces = false) (h : Nat → Nat) (a : Nat → Nat) (S : ST) (O : OT) (b : Nat) (k : Nat) (c : Nat) (Lp : Prop) [Decidable Lp] (hG : G b S) (hbd : b ≤ 1000) (hk : k < dX (stD S) 1) (hc : 1 ≤ c ∧ c ≤ 255) : CH ll yL_isAsked wsL_isAsked { frames := 9, cells := 161, slots := 966, locals := 270 } Y [.ref (h 0), .int (nI k), .int (nI c), .int (p2i (Lp))] (HW Y h a S O) (QI (S := ST × OT) Y (fun (r : Int32) (v : ST × OT) => r = nI 1 ∧ stD v.1 = stD S ∧ G b v.1) (fun (u : ST × OT) => HW Y h a u.1 u.2)) 161 966 := by
  refine CP_of (cc := cL_isAsked) (maxL := 13) (ret := (some .boolean)) (by decide) rfl (Nat.le_of_ble_eq_true rfl) ?_
  intro pp ee ss mm bl mt cc AA C hr hXS
  have w0 := C.t _ (List.mem_of_getElem? (i := 1) (show wsL_isAsked[1]? = some (Cond.constant RL 20 (-5000002)) from rfl))
  refine J_eq (lv' := [(0, .ref (h 0)), (1, .int (nI k)), (2, .int (nI c)), (3, .int (p2i (Lp)))]) (ws' := HW Y h a S O) rfl rfl rfl rfl ?_
  rcases Decidable.em ((dX (stD S) 2 = 1 ∧ k < dX (stD S) 1 ∧ dX (stD S) 7 / 2 ^ k &&& 1 = 1) ∧ dX (stD S) 12 < 20 ∧ ¬ (Lp ∧ dX (stD S) 8 / 2 ^ k &&& 1 = 1)) with hcan | hcan
  · have hn4 := EI_4 (G_E hG)
    have hL5 := EI_len (G_E hG)
    have hD5 : ∀ w, dif (dL (stD S)) k c w < 2 ^ 31 := fun w => Nat.lt_of_le_of_lt (Nat.le_trans (dif_le _ _ _ _) hL5) (by decide)
    have hm31 : ∀ n, mxN (fun w => dif (dL (stD S)) k c w) n < 2 ^ 31 := fun n => Nat.lt_of_le_of_lt (Nat.le_trans (mxN_le (fun w => dif_le (dL (stD S)) k c w) n) hL5) (by decide)
    have hA8 : ansN (dHd (stD S) k) (szH (dX (stD S) 1) k) c Lp ≤ 8 := ansN_le (szH_le _ _)
    refine J_aload_n C dL_isAsked_0 rfl 0 rfl ?_
    refine J_callI (wr := []) C (R_V (st := []) (wc := HW Y h a S O) C (kV_deals ll Y hl0 h a S O b (hG) (by omega)) (cwV 0 C.t gL_isAsked_X4_deals rfl rfl rfl (by decide +kernel) ⟨by decide, by decide⟩) rfl (List.range 49) (HW_all Y h a S O) rng_nd49 ⟨0, 4, _, _, rfl, rfl, rfl⟩ rfl (Nat.le_of_ble_eq_true rfl) dL_isAsked_1 ⟨Nat.le_of_ble_eq_true rfl, Nat.le_of_ble_eq_true rfl⟩) (List.range 49) [] (HW_all Y h a S O) rfl (by decide) (by decide) (fun r1 u1 hw1 => ?_)
    subst hw1
    refine J_eq (pc' := 4) (lv' := [(0, .ref (h 0)), (1, .int (nI k)), (2, .int (nI c)), (3, .int (p2i (Lp)))]) (st' := [.int (nI ((dL (stD S)).length))]) (ws' := HW Y h a S O) rfl rfl rfl rfl ?_
    refine J_istore (lv' := [(4, .int (nI ((dL (stD S)).length))), (0, .ref (h 0)), (1, .int (nI k)), (2, .int (nI c)), (3, .int (p2i (Lp)))]) C dL_isAsked_4 (by decide) rfl ?_
    refine J_aload_n C dL_isAsked_6 rfl 1 rfl ?_
    refine J_iload_n C dL_isAsked_7 rfl 2 rfl ?_
    refine J_iload_n C dL_isAsked_8 rfl 3 rfl ?_
    refine J_callI (wr := []) C (R_H (st := []) (wc := HW Y h a S O) C hXS (kW_worst ll Y hl0 h a S O b k c (hG) (by omega) (hk) (hc)) (vx_cwSW 3 C.t gL_isAsked_L_worst rfl rfl rfl (by decide +kernel) ⟨by decide, by decide⟩) rfl (List.range 49) (HW_all Y h a S O) rng_nd49 rfl (Nat.le_of_ble_eq_true rfl) dL_isAsked_9 ⟨Nat.le_of_ble_eq_true rfl, Nat.le_of_ble_eq_true rfl⟩) (List.range 49) [] (HW_all Y h a S O) rfl (by decide) (by decide) (fun r9 u9 hw9 => ?_)
    subst hw9
    refine J_eq (pc' := 12) (lv' := [(4, .int (nI ((dL (stD S)).length))), (0, .ref (h 0)), (1, .int (nI k)), (2, .int (nI c)), (3, .int (p2i (Lp)))]) (st' := [.int (nI (wsN (stN (dL (stD S)) k) (bhN (dL (stD S)) k) c))]) (ws' := HW Y h a S u9) rfl rfl rfl rfl ?_
    refine J_top (y := .int (nI (wst (dL (stD S)) k c))) (rfl) ?_
    refine J_istore (lv' := [(5, .int (nI (wst (dL (stD S)) k c))), (4, .int (nI ((dL (stD S)).length))), (0, .ref (h 0)), (1, .int (nI k)), (2, .int (nI c)), (3, .int (p2i (Lp)))]) C dL_isAsked_12 (by decide) rfl ?_
    refine J_iconst C dL_isAsked_14 (v := nI 0) (by decide) ?_
    refine J_istore (lv' := [(6, .int (nI 0)), (5, .int (nI (wst (dL (stD S)) k c))), (4, .int (nI ((dL (stD S)).length))), (0, .ref (h 0)), (1, .int (nI k)), (2, .int (nI c)), (3, .int (p2i (Lp)))]) C dL_isAsked_15 (by decide) rfl ?_
    refine J_iconst C dL_isAsked_17 (v := nI 1) (by decide) ?_
    refine J_istore (lv' := [(7, .int (nI 1)), (6, .int (nI 0)), (5, .int (nI (wst (dL (stD S)) k c))), (4, .int (nI ((dL (stD S)).length))), (0, .ref (h 0)), (1, .int (nI k)), (2, .int (nI c)), (3, .int (p2i (Lp)))]) C dL_isAsked_18 (by decide) rfl ?_
    refine J_iconst C dL_isAsked_20 (v := nI 0) (by decide) ?_
    refine J_istore (lv' := [(8, .int (nI 0)), (7, .int (nI 1)), (6, .int (nI 0)), (5, .int (nI (wst (dL (stD S)) k c))), (4, .int (nI ((dL (stD S)).length))), (0, .ref (h 0)), (1, .int (nI k)), (2, .int (nI c)), (3, .int (p2i (Lp)))]) C dL_isAsked_21 (by decide) rfl ?_
    refine J_lv (lv' := [(0, .ref (h 0)), (1, .int (nI k)), (2, .int (nI c)), (3, .int (p2i (Lp))), (4, .int (nI ((dL (stD S)).length))), (5, .int (nI (wst (dL (stD S)) k c))), (6, .int (nI 0)), (7, .int (nI 1)), (8, .int (nI 0))]) [5, 6, 7, 8, 4, 3, 2, 1, 0] rfl ?_
    refine J_loop (σ := Nat × OT) (I := fun (j, oo) => (j ≤ 9)) (μ := fun (j, oo) => 9 - j) (lvf := fun (j, oo) => [(0, .ref (h 0)), (1, .int (nI k)), (2, .int (nI c)), (3, .int (p2i (Lp))), (4, .int (nI ((dL (stD S)).length))), (5, .int (nI (wst (dL (stD S)) k c))), (6, .int (nI (mxN (fun w => dif (dL (stD S)) k c w) j))), (7, .int (nI 1)), (8, .int (nI j))]) (stf := fun (j, oo) => []) (wsf := fun (j, oo) => HW Y h a S oo) ?_ (0, u9) (by omega) (rfl) rfl (rfl)
    rintro ⟨j, oo⟩ hj ih23
    refine J_eq (lv' := [(0, .ref (h 0)), (1, .int (nI k)), (2, .int (nI c)), (3, .int (p2i (Lp))), (4, .int (nI ((dL (stD S)).length))), (5, .int (nI (wst (dL (stD S)) k c))), (6, .int (nI (mxN (fun w => dif (dL (stD S)) k c w) j))), (7, .int (nI 1)), (8, .int (nI j))]) (st' := []) (ws' := HW Y h a S oo) rfl rfl rfl rfl ?_
    refine J_iload C dL_isAsked_23 8 rfl ?_
    refine J_bipush C dL_isAsked_25 (v := nI 9) (by decide) ?_
    refine J_icmp_geN (tgt := 86) C dL_isAsked_27 (by decide) (by omega) (by omega) (fun cq27 => ?_) (fun cq27 => ?_)
    · refine J_eq (lv' := [(0, .ref (h 0)), (1, .int (nI k)), (2, .int (nI c)), (3, .int (p2i (Lp))), (4, .int (nI ((dL (stD S)).length))), (5, .int (nI (wst (dL (stD S)) k c))), (6, .int (nI (wst (dL (stD S)) k c))), (7, .int (nI 1)), (8, .int (nI j))]) rfl (by rw [show j = 9 from by omega, mx_wst]) rfl rfl ?_
      refine J_iload C dL_isAsked_86 7 rfl ?_
      refine J_if_eqN (tgt := 102) C dL_isAsked_88 (by decide) (by omega) (fun cq88 => ?_) (fun cq88 => ?_)
      · exact absurd cq88 (by omega)
      · refine J_iload C dL_isAsked_91 5 rfl ?_
        refine J_iload C dL_isAsked_93 6 rfl ?_
        refine J_icmp_ne (tgt := 102) C dL_isAsked_95 (by decide) (fun cq95 => ?_) (fun cq95 => ?_)
        · exact absurd rfl cq95
        · refine J_iconst C dL_isAsked_98 (v := nI 1) (by decide) ?_
          refine J_goto (tgt := 103) C dL_isAsked_99 (by decide) ?_
          refine J_istore (lv' := [(7, .int (nI 1)), (0, .ref (h 0)), (1, .int (nI k)), (2, .int (nI c)), (3, .int (p2i (Lp))), (4, .int (nI ((dL (stD S)).length))), (5, .int (nI (wst (dL (stD S)) k c))), (6, .int (nI (wst (dL (stD S)) k c))), (8, .int (nI j))]) C dL_isAsked_103 (by decide) rfl ?_
          refine J_aload_n C dL_isAsked_105 rfl 1 rfl ?_
          refine J_callL (wr := []) C (R_P (st := []) (wc := HW Y h a S oo) C hXS (kO_print ll Y hl0 h a S oo b (hG) (by omega)) (va_cwS 1 C.t gL_isAsked_L_print rfl rfl rfl (by decide +kernel) ⟨by decide, by decide⟩) rfl (List.range 49) (HW_all Y h a S oo) rng_nd49 rfl (Nat.le_of_ble_eq_true rfl) dL_isAsked_106 ⟨Nat.le_of_ble_eq_true rfl, Nat.le_of_ble_eq_true rfl⟩) (List.range 49) [] (HW_all Y h a S oo) rfl (by decide) (by decide) (fun r106 u106 hw106 => ?_)
          subst hw106
          refine J_eq (pc' := 109) (lv' := [(7, .int (nI 1)), (0, .ref (h 0)), (1, .int (nI k)), (2, .int (nI c)), (3, .int (p2i (Lp))), (4, .int (nI ((dL (stD S)).length))), (5, .int (nI (wst (dL (stD S)) k c))), (6, .int (nI (wst (dL (stD S)) k c))), (8, .int (nI j))]) (st' := [.long (prF (stD S))]) (ws' := HW Y h a S oo) rfl rfl rfl rfl ?_
          refine J_lstore (lv' := [(8, .long (prF (stD S))), (7, .int (nI 1)), (0, .ref (h 0)), (1, .int (nI k)), (2, .int (nI c)), (3, .int (p2i (Lp))), (4, .int (nI ((dL (stD S)).length))), (5, .int (nI (wst (dL (stD S)) k c))), (6, .int (nI (wst (dL (stD S)) k c)))]) C dL_isAsked_109 (by decide) rfl ?_
          refine J_aload_n C dL_isAsked_111 rfl 2 rfl ?_
          refine J_iconst C dL_isAsked_112 (v := nI 2) (by decide) ?_
          refine J_callI (wr := []) C (R_H (st := []) (wc := HW Y h a S oo) C hXS (kW_value ll Y hl0 h a S oo b 2 (hG) (by omega) (by decide)) (vx_cwSW 2 C.t gL_isAsked_L_value rfl rfl rfl (by decide +kernel) ⟨by decide, by decide⟩) rfl (List.range 49) (HW_all Y h a S oo) rng_nd49 rfl (Nat.le_of_ble_eq_true rfl) dL_isAsked_113 ⟨Nat.le_of_ble_eq_true rfl, Nat.le_of_ble_eq_true rfl⟩) (List.range 49) [] (HW_all Y h a S oo) rfl (by decide) (by decide) (fun r113 u113 hw113 => ?_)
          subst hw113
          refine J_eq (pc' := 116) (lv' := [(8, .long (prF (stD S))), (7, .int (nI 1)), (0, .ref (h 0)), (1, .int (nI k)), (2, .int (nI c)), (3, .int (p2i (Lp))), (4, .int (nI ((dL (stD S)).length))), (5, .int (nI (wst (dL (stD S)) k c))), (6, .int (nI (wst (dL (stD S)) k c)))]) (st' := [.int (nI (abH (dX (stD S)) 2))]) (ws' := HW Y h a S oo) rfl rfl rfl rfl ?_
          refine J_top (y := .int (nI (dX (stD S) 12))) (rfl) ?_
          refine J_istore (lv' := [(10, .int (nI (dX (stD S) 12))), (8, .long (prF (stD S))), (7, .int (nI 1)), (0, .ref (h 0)), (1, .int (nI k)), (2, .int (nI c)), (3, .int (p2i (Lp))), (4, .int (nI ((dL (stD S)).length))), (5, .int (nI (wst (dL (stD S)) k c))), (6, .int (nI (wst (dL (stD S)) k c)))]) C dL_isAsked_116 (by decide) rfl ?_
          refine J_aload_n C dL_isAsked_118 rfl 3 rfl ?_
          refine J_iload_n C dL_isAsked_119 rfl 4 rfl ?_
          refine J_iload_n C dL_isAsked_120 rfl 5 rfl ?_
          refine J_iload_n C dL_isAsked_121 rfl 6 rfl ?_
          refine J_callI (wr := []) C (R_H (st := []) (wc := HW Y h a S oo) C hXS (kW_ask ll Y hl0 h a S oo b k c Lp (hG) (by omega) (hk) (hc) (hcan)) (vx_cwSW 4 C.t gL_isAsked_L_ask rfl rfl rfl (by decide +kernel) ⟨by decide, by decide⟩) rfl (List.range 49) (HW_all Y h a S oo) rng_nd49 rfl (Nat.le_of_ble_eq_true rfl) dL_isAsked_122 ⟨Nat.le_of_ble_eq_true rfl, Nat.le_of_ble_eq_true rfl⟩) (List.range 49) [] (HW_all Y h a S oo) rfl (by decide) (by decide) (fun r122 u122 hw122 => ?_)
          obtain ⟨rfl, he122, hG122, hV122⟩ := hw122
          refine J_eq (pc' := 125) (lv' := [(10, .int (nI (dX (stD S) 12))), (8, .long (prF (stD S))), (7, .int (nI 1)), (0, .ref (h 0)), (1, .int (nI k)), (2, .int (nI c)), (3, .int (p2i (Lp))), (4, .int (nI ((dL (stD S)).length))), (5, .int (nI (wst (dL (stD S)) k c))), (6, .int (nI (wst (dL (stD S)) k c)))]) (st' := [.int (nI (ansN (dHd (stD S) k) (szH ((dX (stD S)) 1) k) c Lp))]) (ws' := HW Y h a u122 oo) rfl rfl rfl rfl ?_
          refine J_top (y := .int (nI (ansN (dHd (stD S) k) (szH (dX (stD S) 1) k) c Lp))) (rfl) ?_
          refine J_istore (lv' := [(11, .int (nI (ansN (dHd (stD S) k) (szH (dX (stD S) 1) k) c Lp))), (10, .int (nI (dX (stD S) 12))), (8, .long (prF (stD S))), (7, .int (nI 1)), (0, .ref (h 0)), (1, .int (nI k)), (2, .int (nI c)), (3, .int (p2i (Lp))), (4, .int (nI ((dL (stD S)).length))), (5, .int (nI (wst (dL (stD S)) k c))), (6, .int (nI (wst (dL (stD S)) k c)))]) C dL_isAsked_125 (by decide) rfl ?_
          refine J_iload C dL_isAsked_127 0 rfl ?_
          refine J_ldc C dL_isAsked_129 (v := (-5000002)) w0 ?_
          refine J_icmp_ne (tgt := 155) C dL_isAsked_131 (by decide) (fun cq131 => ?_) (fun cq131 => ?_)
          · have hlp : 0 < dif (dL (stD S)) k c (ansN (dHd (stD S) k) (szH (dX (stD S) 1) k) c Lp) := by
              have z9 := E1_len (EI_g (G_E hG122) (by rw [he122]; exact hcan.1.1))
              rw [he122] at z9; exact z9
            refine J_aload_n C dL_isAsked_155 rfl 4 rfl ?_
            refine J_callI (wr := []) C (R_V (st := []) (wc := HW Y h a u122 oo) C (kV_deals ll Y hl0 h a u122 oo b (hG122) (by omega)) (cwV 0 C.t gL_isAsked_X4_deals rfl rfl rfl (by decide +kernel) ⟨by decide, by decide⟩) rfl (List.range 49) (HW_all Y h a u122 oo) rng_nd49 ⟨0, 4, _, _, rfl, rfl, rfl⟩ rfl (Nat.le_of_ble_eq_true rfl) dL_isAsked_156 ⟨Nat.le_of_ble_eq_true rfl, Nat.le_of_ble_eq_true rfl⟩) (List.range 49) [] (HW_all Y h a u122 oo) rfl (by decide) (by decide) (fun r156 u156 hw156 => ?_)
            subst hw156
            refine J_eq (pc' := 159) (lv' := [(11, .int (nI (ansN (dHd (stD S) k) (szH (dX (stD S) 1) k) c Lp))), (10, .int (nI (dX (stD S) 12))), (8, .long (prF (stD S))), (7, .int (nI 1)), (0, .ref (h 0)), (1, .int (nI k)), (2, .int (nI c)), (3, .int (p2i (Lp))), (4, .int (nI ((dL (stD S)).length))), (5, .int (nI (wst (dL (stD S)) k c))), (6, .int (nI (wst (dL (stD S)) k c)))]) (st' := [.int (nI ((dL (stD u122)).length))]) (ws' := HW Y h a u122 oo) rfl rfl rfl rfl ?_
            refine J_top (y := .int (nI (dif (dL (stD S)) k c (ansN (dHd (stD S) k) (szH (dX (stD S) 1) k) c Lp)))) (by rw [he122]; rfl) ?_
            refine J_istore (lv' := [(12, .int (nI (dif (dL (stD S)) k c (ansN (dHd (stD S) k) (szH (dX (stD S) 1) k) c Lp)))), (11, .int (nI (ansN (dHd (stD S) k) (szH (dX (stD S) 1) k) c Lp))), (10, .int (nI (dX (stD S) 12))), (8, .long (prF (stD S))), (7, .int (nI 1)), (0, .ref (h 0)), (1, .int (nI k)), (2, .int (nI c)), (3, .int (p2i (Lp))), (4, .int (nI ((dL (stD S)).length))), (5, .int (nI (wst (dL (stD S)) k c))), (6, .int (nI (wst (dL (stD S)) k c)))]) C dL_isAsked_159 (by decide) rfl ?_
            refine J_iload C dL_isAsked_161 4 rfl ?_
            refine J_if_eqN (tgt := 235) C dL_isAsked_163 (by decide) (by omega) (fun cq163 => ?_) (fun cq163 => ?_)
            · exact absurd cq163 (by omega)
            · refine J_aload_n C dL_isAsked_166 rfl 5 rfl ?_
              refine J_iconst C dL_isAsked_167 (v := nI 2) (by decide) ?_
              refine J_callI (wr := []) C (R_H (st := []) (wc := HW Y h a u122 oo) C hXS (kW_value ll Y hl0 h a u122 oo b 2 (hG122) (by omega) (by decide)) (vx_cwSW 2 C.t gL_isAsked_L_value rfl rfl rfl (by decide +kernel) ⟨by decide, by decide⟩) rfl (List.range 49) (HW_all Y h a u122 oo) rng_nd49 rfl (Nat.le_of_ble_eq_true rfl) dL_isAsked_168 ⟨Nat.le_of_ble_eq_true rfl, Nat.le_of_ble_eq_true rfl⟩) (List.range 49) [] (HW_all Y h a u122 oo) rfl (by decide) (by decide) (fun r168 u168 hw168 => ?_)
              subst hw168
              refine J_eq (pc' := 171) (lv' := [(12, .int (nI (dif (dL (stD S)) k c (ansN (dHd (stD S) k) (szH (dX (stD S) 1) k) c Lp)))), (11, .int (nI (ansN (dHd (stD S) k) (szH (dX (stD S) 1) k) c Lp))), (10, .int (nI (dX (stD S) 12))), (8, .long (prF (stD S))), (7, .int (nI 1)), (0, .ref (h 0)), (1, .int (nI k)), (2, .int (nI c)), (3, .int (p2i (Lp))), (4, .int (nI ((dL (stD S)).length))), (5, .int (nI (wst (dL (stD S)) k c))), (6, .int (nI (wst (dL (stD S)) k c)))]) (st' := [.int (nI (abH (dX (stD u122)) 2))]) (ws' := HW Y h a u122 oo) rfl rfl rfl rfl ?_
              refine J_top (y := .int (nI ((dX (stD S) 12) + 1))) (by rw [he122]; rfl) ?_
              refine J_iload C dL_isAsked_171 2 rfl ?_
              refine J_iconst C dL_isAsked_173 (v := nI 1) (by decide) ?_
              refine J_iaddN C dL_isAsked_174 ?_
              refine J_icmp_ne (tgt := 235) C dL_isAsked_175 (by decide) (fun cq175 => ?_) (fun cq175 => ?_)
              · exact absurd rfl cq175
              · refine J_aload_n C dL_isAsked_178 rfl 5 rfl ?_
                refine J_iload C dL_isAsked_179 2 rfl ?_
                refine J_iconst C dL_isAsked_181 (v := nI 0) (by decide) ?_
                refine J_callI (wr := []) C (R_H (st := []) (wc := HW Y h a u122 oo) C hXS (kW_question ll Y hl0 h a u122 oo b (dX (stD S) 12) 0 (hG122) (by omega) (by rw [he122]; exact Nat.lt_succ_self _) (by decide)) (vx_cwSW 3 C.t gL_isAsked_L_question rfl rfl rfl (by decide +kernel) ⟨by decide, by decide⟩) rfl (List.range 49) (HW_all Y h a u122 oo) rng_nd49 rfl (Nat.le_of_ble_eq_true rfl) dL_isAsked_182 ⟨Nat.le_of_ble_eq_true rfl, Nat.le_of_ble_eq_true rfl⟩) (List.range 49) [] (HW_all Y h a u122 oo) rfl (by decide) (by decide) (fun r182 u182 hw182 => ?_)
                subst hw182
                refine J_eq (pc' := 185) (lv' := [(12, .int (nI (dif (dL (stD S)) k c (ansN (dHd (stD S) k) (szH (dX (stD S) 1) k) c Lp)))), (11, .int (nI (ansN (dHd (stD S) k) (szH (dX (stD S) 1) k) c Lp))), (10, .int (nI (dX (stD S) 12))), (8, .long (prF (stD S))), (7, .int (nI 1)), (0, .ref (h 0)), (1, .int (nI k)), (2, .int (nI c)), (3, .int (p2i (Lp))), (4, .int (nI ((dL (stD S)).length))), (5, .int (nI (wst (dL (stD S)) k c))), (6, .int (nI (wst (dL (stD S)) k c)))]) (st' := [.int (nI (abQ (dAg (stD u122)) (dAc (stD u122)) (dAn (stD u122)) (dX (stD S) 12) 0))]) (ws' := HW Y h a u122 oo) rfl rfl rfl rfl ?_
                refine J_top (y := .int (nI k)) (by rw [he122, ask_q0]) ?_
                refine J_iload_n C dL_isAsked_185 rfl 6 rfl ?_
                refine J_icmp_ne (tgt := 235) C dL_isAsked_186 (by decide) (fun cq186 => ?_) (fun cq186 => ?_)
                · exact absurd rfl cq186
                · refine J_aload_n C dL_isAsked_189 rfl 5 rfl ?_
                  refine J_iload C dL_isAsked_190 2 rfl ?_
                  refine J_iconst C dL_isAsked_192 (v := nI 1) (by decide) ?_
                  refine J_callI (wr := []) C (R_H (st := []) (wc := HW Y h a u122 oo) C hXS (kW_question ll Y hl0 h a u122 oo b (dX (stD S) 12) 1 (hG122) (by omega) (by rw [he122]; exact Nat.lt_succ_self _) (by decide)) (vx_cwSW 3 C.t gL_isAsked_L_question rfl rfl rfl (by decide +kernel) ⟨by decide, by decide⟩) rfl (List.range 49) (HW_all Y h a u122 oo) rng_nd49 rfl (Nat.le_of_ble_eq_true rfl) dL_isAsked_193 ⟨Nat.le_of_ble_eq_true rfl, Nat.le_of_ble_eq_true rfl⟩) (List.range 49) [] (HW_all Y h a u122 oo) rfl (by decide) (by decide) (fun r193 u193 hw193 => ?_)
                  subst hw193
                  refine J_eq (pc' := 196) (lv' := [(12, .int (nI (dif (dL (stD S)) k c (ansN (dHd (stD S) k) (szH (dX (stD S) 1) k) c Lp)))), (11, .int (nI (ansN (dHd (stD S) k) (szH (dX (stD S) 1) k) c Lp))), (10, .int (nI (dX (stD S) 12))), (8, .long (prF (stD S))), (7, .int (nI 1)), (0, .ref (h 0)), (1, .int (nI k)), (2, .int (nI c)), (3, .int (p2i (Lp))), (4, .int (nI ((dL (stD S)).length))), (5, .int (nI (wst (dL (stD S)) k c))), (6, .int (nI (wst (dL (stD S)) k c)))]) (st' := [.int (nI (abQ (dAg (stD u122)) (dAc (stD u122)) (dAn (stD u122)) (dX (stD S) 12) 1))]) (ws' := HW Y h a u122 oo) rfl rfl rfl rfl ?_
                  refine J_top (y := .int (nI c)) (by rw [he122, ask_q1]) ?_
                  refine J_iload_n C dL_isAsked_196 rfl 7 rfl ?_
                  refine J_icmp_ne (tgt := 235) C dL_isAsked_197 (by decide) (fun cq197 => ?_) (fun cq197 => ?_)
                  · exact absurd rfl cq197
                  · refine J_aload_n C dL_isAsked_200 rfl 5 rfl ?_
                    refine J_iload C dL_isAsked_201 2 rfl ?_
                    refine J_iconst C dL_isAsked_203 (v := nI 2) (by decide) ?_
                    refine J_callI (wr := []) C (R_H (st := []) (wc := HW Y h a u122 oo) C hXS (kW_question ll Y hl0 h a u122 oo b (dX (stD S) 12) 2 (hG122) (by omega) (by rw [he122]; exact Nat.lt_succ_self _) (by decide)) (vx_cwSW 3 C.t gL_isAsked_L_question rfl rfl rfl (by decide +kernel) ⟨by decide, by decide⟩) rfl (List.range 49) (HW_all Y h a u122 oo) rng_nd49 rfl (Nat.le_of_ble_eq_true rfl) dL_isAsked_204 ⟨Nat.le_of_ble_eq_true rfl, Nat.le_of_ble_eq_true rfl⟩) (List.range 49) [] (HW_all Y h a u122 oo) rfl (by decide) (by decide) (fun r204 u204 hw204 => ?_)
                    subst hw204
                    refine J_eq (pc' := 207) (lv' := [(12, .int (nI (dif (dL (stD S)) k c (ansN (dHd (stD S) k) (szH (dX (stD S) 1) k) c Lp)))), (11, .int (nI (ansN (dHd (stD S) k) (szH (dX (stD S) 1) k) c Lp))), (10, .int (nI (dX (stD S) 12))), (8, .long (prF (stD S))), (7, .int (nI 1)), (0, .ref (h 0)), (1, .int (nI k)), (2, .int (nI c)), (3, .int (p2i (Lp))), (4, .int (nI ((dL (stD S)).length))), (5, .int (nI (wst (dL (stD S)) k c))), (6, .int (nI (wst (dL (stD S)) k c)))]) (st' := [.int (nI (abQ (dAg (stD u122)) (dAc (stD u122)) (dAn (stD u122)) (dX (stD S) 12) 2))]) (ws' := HW Y h a u122 oo) rfl rfl rfl rfl ?_
                    refine J_top (y := .int (nI (ansN (dHd (stD S) k) (szH (dX (stD S) 1) k) c Lp))) (by rw [he122, ask_q2]) ?_
                    refine J_iload C dL_isAsked_207 1 rfl ?_
                    refine J_icmp_ne (tgt := 235) C dL_isAsked_209 (by decide) (fun cq209 => ?_) (fun cq209 => ?_)
                    · exact absurd rfl cq209
                    · refine J_iload C dL_isAsked_212 0 rfl ?_
                      refine J_if_leN (tgt := 235) C dL_isAsked_214 (by decide) (hD5 _) (fun cq214 => ?_) (fun cq214 => ?_)
                      · exact absurd cq214 (by omega)
                      · refine J_iload C dL_isAsked_217 0 rfl ?_
                        refine J_iload C dL_isAsked_219 10 rfl ?_
                        refine J_icmp_gtN (tgt := 235) C dL_isAsked_221 (by decide) (hD5 _) (wst_lt hL5 _ _) (fun cq221 => ?_) (fun cq221 => ?_)
                        · exact absurd (dif_wst hA8) (Nat.not_le.mpr cq221)
                        · refine J_aload_n C dL_isAsked_224 rfl 5 rfl ?_
                          refine J_callI (wr := []) C (R_H (st := []) (wc := HW Y h a u122 oo) C hXS (kW_undo ll Y hl0 h a u122 oo b (hG122) (by omega) (stD S) (hV122) (G_E hG) (b) (G_b hG)) (vx_cwSW 1 C.t gL_isAsked_L_undo rfl rfl rfl (by decide +kernel) ⟨by decide, by decide⟩) rfl (List.range 49) (HW_all Y h a u122 oo) rng_nd49 rfl (Nat.le_of_ble_eq_true rfl) dL_isAsked_225 ⟨Nat.le_of_ble_eq_true rfl, Nat.le_of_ble_eq_true rfl⟩) (List.range 49) [] (HW_all Y h a u122 oo) rfl (by decide) (by decide) (fun r225 u225 hw225 => ?_)
                          obtain ⟨rfl, he225, hG225⟩ := hw225
                          refine J_eq (pc' := 228) (lv' := [(12, .int (nI (dif (dL (stD S)) k c (ansN (dHd (stD S) k) (szH (dX (stD S) 1) k) c Lp)))), (11, .int (nI (ansN (dHd (stD S) k) (szH (dX (stD S) 1) k) c Lp))), (10, .int (nI (dX (stD S) 12))), (8, .long (prF (stD S))), (7, .int (nI 1)), (0, .ref (h 0)), (1, .int (nI k)), (2, .int (nI c)), (3, .int (p2i (Lp))), (4, .int (nI ((dL (stD S)).length))), (5, .int (nI (wst (dL (stD S)) k c))), (6, .int (nI (wst (dL (stD S)) k c)))]) (st' := [.int (nI (stSc u122 - 1))]) (ws' := HW Y h a u225 oo) rfl rfl rfl rfl ?_
                          refine J_if_ltN (tgt := 235) C dL_isAsked_228 (by decide) (by have := G_sc hG122; omega) ?_
                          refine J_iconst C dL_isAsked_231 (v := nI 1) (by decide) ?_
                          refine J_goto (tgt := 236) C dL_isAsked_232 (by decide) ?_
                          refine J_istore (lv' := [(7, .int (nI 1)), (12, .int (nI (dif (dL (stD S)) k c (ansN (dHd (stD S) k) (szH (dX (stD S) 1) k) c Lp)))), (11, .int (nI (ansN (dHd (stD S) k) (szH (dX (stD S) 1) k) c Lp))), (10, .int (nI (dX (stD S) 12))), (8, .long (prF (stD S))), (0, .ref (h 0)), (1, .int (nI k)), (2, .int (nI c)), (3, .int (p2i (Lp))), (4, .int (nI ((dL (stD S)).length))), (5, .int (nI (wst (dL (stD S)) k c))), (6, .int (nI (wst (dL (stD S)) k c)))]) C dL_isAsked_236 (by decide) rfl ?_
                          refine J_iload C dL_isAsked_238 0 rfl ?_
                          refine J_if_eqN (tgt := 270) C dL_isAsked_240 (by decide) (by omega) (fun cq240 => ?_) (fun cq240 => ?_)
                          · exact absurd cq240 (by omega)
                          · refine J_aload_n C dL_isAsked_243 rfl 5 rfl ?_
                            refine J_iload_n C dL_isAsked_244 rfl 6 rfl ?_
                            refine J_iload_n C dL_isAsked_245 rfl 7 rfl ?_
                            refine J_iload C dL_isAsked_246 2 rfl ?_
                            refine J_callI (wr := []) C (R_H (st := []) (wc := HW Y h a u225 oo) C hXS (kW_dealsIf ll Y hl0 h a u225 oo b k c (ansN (dHd (stD S) k) (szH (dX (stD S) 1) k) c Lp) (hG225) (by omega) (by rw [he225]; exact hk) (hc) (hA8)) (vx_cwSW 4 C.t gL_isAsked_L_dealsIf rfl rfl rfl (by decide +kernel) ⟨by decide, by decide⟩) rfl (List.range 49) (HW_all Y h a u225 oo) rng_nd49 rfl (Nat.le_of_ble_eq_true rfl) dL_isAsked_248 ⟨Nat.le_of_ble_eq_true rfl, Nat.le_of_ble_eq_true rfl⟩) (List.range 49) [] (HW_all Y h a u225 oo) rfl (by decide) (by decide) (fun r248 u248 hw248 => ?_)
                            subst hw248
                            refine J_eq (pc' := 251) (lv' := [(7, .int (nI 1)), (12, .int (nI (dif (dL (stD S)) k c (ansN (dHd (stD S) k) (szH (dX (stD S) 1) k) c Lp)))), (11, .int (nI (ansN (dHd (stD S) k) (szH (dX (stD S) 1) k) c Lp))), (10, .int (nI (dX (stD S) 12))), (8, .long (prF (stD S))), (0, .ref (h 0)), (1, .int (nI k)), (2, .int (nI c)), (3, .int (p2i (Lp))), (4, .int (nI ((dL (stD S)).length))), (5, .int (nI (wst (dL (stD S)) k c))), (6, .int (nI (wst (dL (stD S)) k c)))]) (st' := [.int (nI (((dL (stD u225)).filterMap (stA k c (ansN (dHd (stD S) k) (szH (dX (stD S) 1) k) c Lp))).length))]) (ws' := HW Y h a u225 u248) rfl rfl rfl rfl ?_
                            refine J_top (y := .int (nI (dif (dL (stD S)) k c (ansN (dHd (stD S) k) (szH (dX (stD S) 1) k) c Lp)))) (by rw [he225]; rfl) ?_
                            refine J_iload C dL_isAsked_251 1 rfl ?_
                            refine J_icmp_ne (tgt := 270) C dL_isAsked_253 (by decide) (fun cq253 => ?_) (fun cq253 => ?_)
                            · exact absurd rfl cq253
                            · refine J_aload_n C dL_isAsked_256 rfl 5 rfl ?_
                              refine J_callL (wr := []) C (R_P (st := []) (wc := HW Y h a u225 u248) C hXS (kO_print ll Y hl0 h a u225 u248 b (hG225) (by omega)) (va_cwS 1 C.t gL_isAsked_L_print rfl rfl rfl (by decide +kernel) ⟨by decide, by decide⟩) rfl (List.range 49) (HW_all Y h a u225 u248) rng_nd49 rfl (Nat.le_of_ble_eq_true rfl) dL_isAsked_257 ⟨Nat.le_of_ble_eq_true rfl, Nat.le_of_ble_eq_true rfl⟩) (List.range 49) [] (HW_all Y h a u225 u248) rfl (by decide) (by decide) (fun r257 u257 hw257 => ?_)
                              subst hw257
                              refine J_eq (pc' := 260) (lv' := [(7, .int (nI 1)), (12, .int (nI (dif (dL (stD S)) k c (ansN (dHd (stD S) k) (szH (dX (stD S) 1) k) c Lp)))), (11, .int (nI (ansN (dHd (stD S) k) (szH (dX (stD S) 1) k) c Lp))), (10, .int (nI (dX (stD S) 12))), (8, .long (prF (stD S))), (0, .ref (h 0)), (1, .int (nI k)), (2, .int (nI c)), (3, .int (p2i (Lp))), (4, .int (nI ((dL (stD S)).length))), (5, .int (nI (wst (dL (stD S)) k c))), (6, .int (nI (wst (dL (stD S)) k c)))]) (st' := [.long (prF (stD u225))]) (ws' := HW Y h a u225 u248) rfl rfl rfl rfl ?_
                              refine J_top (y := .long (prF (stD S))) (by rw [he225]) ?_
                              refine J_lload C dL_isAsked_260 4 rfl ?_
                              refine J_lcmp C dL_isAsked_262 ?_
                              refine J_top (y := .int (nI 0)) (by rw [lcs]) ?_
                              refine J_if_neN (tgt := 270) C dL_isAsked_263 (by decide) (by omega) (fun cq263 => ?_) (fun cq263 => ?_)
                              · exact absurd cq263 (by omega)
                              · refine J_iconst C dL_isAsked_266 (v := nI 1) (by decide) ?_
                                refine J_goto (tgt := 271) C dL_isAsked_267 (by decide) ?_
                                refine J_wd (k' := 161) (n' := 966) (Nat.le_of_ble_eq_true rfl) (Nat.le_of_ble_eq_true rfl) ?_
                                exact J_zret C hr (by decide) dL_isAsked_271 ((u225, u248)) (⟨rfl, he225, hG225⟩) (rfl)
          · exact absurd cq131 (nn_neg (Nat.lt_of_le_of_lt hA8 (by decide)) (by decide +kernel))
    · refine J_iload C dL_isAsked_30 7 rfl ?_
      refine J_if_eqN (tgt := 86) C dL_isAsked_32 (by decide) (by omega) (fun cq32 => ?_) (fun cq32 => ?_)
      · exact absurd cq32 (by omega)
      · refine J_aload_n C dL_isAsked_35 rfl 0 rfl ?_
        refine J_iload_n C dL_isAsked_36 rfl 1 rfl ?_
        refine J_iload_n C dL_isAsked_37 rfl 2 rfl ?_
        refine J_iload C dL_isAsked_38 8 rfl ?_
        refine J_callI (wr := []) C (R_H (st := []) (wc := HW Y h a S oo) C hXS (kW_dealsIf ll Y hl0 h a S oo b k c j (hG) (by omega) (hk) (hc) (by omega)) (vx_cwSW 4 C.t gL_isAsked_L_dealsIf rfl rfl rfl (by decide +kernel) ⟨by decide, by decide⟩) rfl (List.range 49) (HW_all Y h a S oo) rng_nd49 rfl (Nat.le_of_ble_eq_true rfl) dL_isAsked_40 ⟨Nat.le_of_ble_eq_true rfl, Nat.le_of_ble_eq_true rfl⟩) (List.range 49) [] (HW_all Y h a S oo) rfl (by decide) (by decide) (fun r40 u40 hw40 => ?_)
        subst hw40
        refine J_eq (pc' := 43) (lv' := [(0, .ref (h 0)), (1, .int (nI k)), (2, .int (nI c)), (3, .int (p2i (Lp))), (4, .int (nI ((dL (stD S)).length))), (5, .int (nI (wst (dL (stD S)) k c))), (6, .int (nI (mxN (fun w => dif (dL (stD S)) k c w) j))), (7, .int (nI 1)), (8, .int (nI j))]) (st' := [.int (nI (((dL (stD S)).filterMap (stA k c j)).length))]) (ws' := HW Y h a S u40) rfl rfl rfl rfl ?_
        refine J_top (y := .int (nI (dif (dL (stD S)) k c j))) (rfl) ?_
        refine J_istore (lv' := [(9, .int (nI (dif (dL (stD S)) k c j))), (0, .ref (h 0)), (1, .int (nI k)), (2, .int (nI c)), (3, .int (p2i (Lp))), (4, .int (nI ((dL (stD S)).length))), (5, .int (nI (wst (dL (stD S)) k c))), (6, .int (nI (mxN (fun w => dif (dL (stD S)) k c w) j))), (7, .int (nI 1)), (8, .int (nI j))]) C dL_isAsked_43 (by decide) rfl ?_
        refine J_cut (pc' := 59) (lv' := [(9, .int (nI (dif (dL (stD S)) k c j))), (0, .ref (h 0)), (1, .int (nI k)), (2, .int (nI c)), (3, .int (p2i (Lp))), (4, .int (nI ((dL (stD S)).length))), (5, .int (nI (wst (dL (stD S)) k c))), (6, .int (nI (mxN (fun w => dif (dL (stD S)) k c w) j))), (7, .int (nI 1)), (8, .int (nI j))]) (st' := [.int (nI (mxN (fun w => dif (dL (stD S)) k c w) (j + 1)))]) (ws' := HW Y h a S u40) (True) (fun _hT => ?_) (fun jn59 => ?_)
        · refine J_istore (lv' := [(6, .int (nI (mxN (fun w => dif (dL (stD S)) k c w) (j + 1)))), (9, .int (nI (dif (dL (stD S)) k c j))), (0, .ref (h 0)), (1, .int (nI k)), (2, .int (nI c)), (3, .int (p2i (Lp))), (4, .int (nI ((dL (stD S)).length))), (5, .int (nI (wst (dL (stD S)) k c))), (7, .int (nI 1)), (8, .int (nI j))]) C dL_isAsked_59 (by decide) rfl ?_
          refine J_iload C dL_isAsked_61 1 rfl ?_
          refine J_if_ltN (tgt := 77) C dL_isAsked_63 (by decide) (hD5 _) ?_
          refine J_iload C dL_isAsked_66 1 rfl ?_
          refine J_iload C dL_isAsked_68 6 rfl ?_
          refine J_icmp_gtN (tgt := 77) C dL_isAsked_70 (by decide) (hD5 _) (by omega) (fun cq70 => ?_) (fun cq70 => ?_)
          · exact absurd (dif_le _ _ _ _) (Nat.not_le.mpr cq70)
          · refine J_iconst C dL_isAsked_73 (v := nI 1) (by decide) ?_
            refine J_goto (tgt := 78) C dL_isAsked_74 (by decide) ?_
            refine J_istore (lv' := [(7, .int (nI 1)), (6, .int (nI (mxN (fun w => dif (dL (stD S)) k c w) (j + 1)))), (9, .int (nI (dif (dL (stD S)) k c j))), (0, .ref (h 0)), (1, .int (nI k)), (2, .int (nI c)), (3, .int (p2i (Lp))), (4, .int (nI ((dL (stD S)).length))), (5, .int (nI (wst (dL (stD S)) k c))), (8, .int (nI j))]) C dL_isAsked_78 (by decide) rfl ?_
            refine J_iinc (j := 9) (v := nI (j + 1)) (lv' := [(8, .int (nI (j + 1))), (7, .int (nI 1)), (6, .int (nI (mxN (fun w => dif (dL (stD S)) k c w) (j + 1)))), (9, .int (nI (dif (dL (stD S)) k c j))), (0, .ref (h 0)), (1, .int (nI k)), (2, .int (nI c)), (3, .int (p2i (Lp))), (4, .int (nI ((dL (stD S)).length))), (5, .int (nI (wst (dL (stD S)) k c)))]) C dL_isAsked_80 rfl (nI_1 _) (by decide) rfl ?_
            refine J_goto (tgt := 23) C dL_isAsked_83 (by decide) ?_
            refine J_lv (lv' := [(0, .ref (h 0)), (1, .int (nI k)), (2, .int (nI c)), (3, .int (p2i (Lp))), (4, .int (nI ((dL (stD S)).length))), (5, .int (nI (wst (dL (stD S)) k c))), (6, .int (nI (mxN (fun w => dif (dL (stD S)) k c w) (j + 1)))), (7, .int (nI 1)), (8, .int (nI (j + 1)))]) [4, 5, 6, 7, 8, 9, 2, 1, 0] rfl ?_
            exact ih23 (j + 1, u40) (by omega) (show 9 - (j + 1) < 9 - j from by omega)
        · refine J_iload C dL_isAsked_45 0 rfl ?_
          refine J_iload C dL_isAsked_47 7 rfl ?_
          refine J_icmp_leN (tgt := 57) C dL_isAsked_49 (by decide) (hD5 _) (hm31 _) (fun cq49 => ?_) (fun cq49 => ?_)
          · refine J_iload C dL_isAsked_57 7 rfl ?_
            refine J_top (y := .int (nI (mxN (fun w => dif (dL (stD S)) k c w) (j + 1)))) (by rw [mx_n (f := fun w => dif (dL (stD S)) k c w) cq49]) ?_
            refine J_istore (lv' := [(6, .int (nI (mxN (fun w => dif (dL (stD S)) k c w) (j + 1)))), (9, .int (nI (dif (dL (stD S)) k c j))), (0, .ref (h 0)), (1, .int (nI k)), (2, .int (nI c)), (3, .int (p2i (Lp))), (4, .int (nI ((dL (stD S)).length))), (5, .int (nI (wst (dL (stD S)) k c))), (7, .int (nI 1)), (8, .int (nI j))]) C dL_isAsked_59 (by decide) rfl ?_
            refine J_iload C dL_isAsked_61 1 rfl ?_
            refine J_if_ltN (tgt := 77) C dL_isAsked_63 (by decide) (hD5 _) ?_
            refine J_iload C dL_isAsked_66 1 rfl ?_
            refine J_iload C dL_isAsked_68 6 rfl ?_
            refine J_icmp_gtN (tgt := 77) C dL_isAsked_70 (by decide) (hD5 _) (by omega) (fun cq70 => ?_) (fun cq70 => ?_)
            · exact absurd (dif_le _ _ _ _) (Nat.not_le.mpr cq70)
            · refine J_iconst C dL_isAsked_73 (v := nI 1) (by decide) ?_
              refine J_goto (tgt := 78) C dL_isAsked_74 (by decide) ?_
              refine J_istore (lv' := [(7, .int (nI 1)), (6, .int (nI (mxN (fun w => dif (dL (stD S)) k c w) (j + 1)))), (9, .int (nI (dif (dL (stD S)) k c j))), (0, .ref (h 0)), (1, .int (nI k)), (2, .int (nI c)), (3, .int (p2i (Lp))), (4, .int (nI ((dL (stD S)).length))), (5, .int (nI (wst (dL (stD S)) k c))), (8, .int (nI j))]) C dL_isAsked_78 (by decide) rfl ?_
              refine J_iinc (j := 9) (v := nI (j + 1)) (lv' := [(8, .int (nI (j + 1))), (7, .int (nI 1)), (6, .int (nI (mxN (fun w => dif (dL (stD S)) k c w) (j + 1)))), (9, .int (nI (dif (dL (stD S)) k c j))), (0, .ref (h 0)), (1, .int (nI k)), (2, .int (nI c)), (3, .int (p2i (Lp))), (4, .int (nI ((dL (stD S)).length))), (5, .int (nI (wst (dL (stD S)) k c)))]) C dL_isAsked_80 rfl (nI_1 _) (by decide) rfl ?_
              refine J_goto (tgt := 23) C dL_isAsked_83 (by decide) ?_
              refine J_lv (lv' := [(0, .ref (h 0)), (1, .int (nI k)), (2, .int (nI c)), (3, .int (p2i (Lp))), (4, .int (nI ((dL (stD S)).length))), (5, .int (nI (wst (dL (stD S)) k c))), (6, .int (nI (mxN (fun w => dif (dL (stD S)) k c w) (j + 1)))), (7, .int (nI 1)), (8, .int (nI (j + 1)))]) [4, 5, 6, 7, 8, 9, 2, 1, 0] rfl ?_
              exact ih23 (j + 1, u40) (by omega) (show 9 - (j + 1) < 9 - j from by omega)
          · refine J_iload C dL_isAsked_52 0 rfl ?_
            refine J_top (y := .int (nI (mxN (fun w => dif (dL (stD S)) k c w) (j + 1)))) (by rw [mx_y (f := fun w => dif (dL (stD S)) k c w) cq49]) ?_
            refine J_goto (tgt := 59) C dL_isAsked_54 (by decide) ?_
            exact jn59 (trivial)
  · have hn4 := EI_4 (G_E hG)
    have hL5 := EI_len (G_E hG)
    have hD5 : ∀ w, dif (dL (stD S)) k c w < 2 ^ 31 := fun w => Nat.lt_of_le_of_lt (Nat.le_trans (dif_le _ _ _ _) hL5) (by decide)
    have hm31 : ∀ n, mxN (fun w => dif (dL (stD S)) k c w) n < 2 ^ 31 := fun n => Nat.lt_of_le_of_lt (Nat.le_trans (mxN_le (fun w => dif_le (dL (stD S)) k c w) n) hL5) (by decide)
    have hA8 : ansN (dHd (stD S) k) (szH (dX (stD S) 1) k) c Lp ≤ 8 := ansN_le (szH_le _ _)
    refine J_aload_n C dL_isAsked_0 rfl 0 rfl ?_
    refine J_callI (wr := []) C (R_V (st := []) (wc := HW Y h a S O) C (kV_deals ll Y hl0 h a S O b (hG) (by omega)) (cwV 0 C.t gL_isAsked_X4_deals rfl rfl rfl (by decide +kernel) ⟨by decide, by decide⟩) rfl (List.range 49) (HW_all Y h a S O) rng_nd49 ⟨0, 4, _, _, rfl, rfl, rfl⟩ rfl (Nat.le_of_ble_eq_true rfl) dL_isAsked_1 ⟨Nat.le_of_ble_eq_true rfl, Nat.le_of_ble_eq_true rfl⟩) (List.range 49) [] (HW_all Y h a S O) rfl (by decide) (by decide) (fun r1 u1 hw1 => ?_)
    subst hw1
    refine J_eq (pc' := 4) (lv' := [(0, .ref (h 0)), (1, .int (nI k)), (2, .int (nI c)), (3, .int (p2i (Lp)))]) (st' := [.int (nI ((dL (stD S)).length))]) (ws' := HW Y h a S O) rfl rfl rfl rfl ?_
    refine J_istore (lv' := [(4, .int (nI ((dL (stD S)).length))), (0, .ref (h 0)), (1, .int (nI k)), (2, .int (nI c)), (3, .int (p2i (Lp)))]) C dL_isAsked_4 (by decide) rfl ?_
    refine J_aload_n C dL_isAsked_6 rfl 1 rfl ?_
    refine J_iload_n C dL_isAsked_7 rfl 2 rfl ?_
    refine J_iload_n C dL_isAsked_8 rfl 3 rfl ?_
    refine J_callI (wr := []) C (R_H (st := []) (wc := HW Y h a S O) C hXS (kW_worst ll Y hl0 h a S O b k c (hG) (by omega) (hk) (hc)) (vx_cwSW 3 C.t gL_isAsked_L_worst rfl rfl rfl (by decide +kernel) ⟨by decide, by decide⟩) rfl (List.range 49) (HW_all Y h a S O) rng_nd49 rfl (Nat.le_of_ble_eq_true rfl) dL_isAsked_9 ⟨Nat.le_of_ble_eq_true rfl, Nat.le_of_ble_eq_true rfl⟩) (List.range 49) [] (HW_all Y h a S O) rfl (by decide) (by decide) (fun r9 u9 hw9 => ?_)
    subst hw9
    refine J_eq (pc' := 12) (lv' := [(4, .int (nI ((dL (stD S)).length))), (0, .ref (h 0)), (1, .int (nI k)), (2, .int (nI c)), (3, .int (p2i (Lp)))]) (st' := [.int (nI (wsN (stN (dL (stD S)) k) (bhN (dL (stD S)) k) c))]) (ws' := HW Y h a S u9) rfl rfl rfl rfl ?_
    refine J_top (y := .int (nI (wst (dL (stD S)) k c))) (rfl) ?_
    refine J_istore (lv' := [(5, .int (nI (wst (dL (stD S)) k c))), (4, .int (nI ((dL (stD S)).length))), (0, .ref (h 0)), (1, .int (nI k)), (2, .int (nI c)), (3, .int (p2i (Lp)))]) C dL_isAsked_12 (by decide) rfl ?_
    refine J_iconst C dL_isAsked_14 (v := nI 0) (by decide) ?_
    refine J_istore (lv' := [(6, .int (nI 0)), (5, .int (nI (wst (dL (stD S)) k c))), (4, .int (nI ((dL (stD S)).length))), (0, .ref (h 0)), (1, .int (nI k)), (2, .int (nI c)), (3, .int (p2i (Lp)))]) C dL_isAsked_15 (by decide) rfl ?_
    refine J_iconst C dL_isAsked_17 (v := nI 1) (by decide) ?_
    refine J_istore (lv' := [(7, .int (nI 1)), (6, .int (nI 0)), (5, .int (nI (wst (dL (stD S)) k c))), (4, .int (nI ((dL (stD S)).length))), (0, .ref (h 0)), (1, .int (nI k)), (2, .int (nI c)), (3, .int (p2i (Lp)))]) C dL_isAsked_18 (by decide) rfl ?_
    refine J_iconst C dL_isAsked_20 (v := nI 0) (by decide) ?_
    refine J_istore (lv' := [(8, .int (nI 0)), (7, .int (nI 1)), (6, .int (nI 0)), (5, .int (nI (wst (dL (stD S)) k c))), (4, .int (nI ((dL (stD S)).length))), (0, .ref (h 0)), (1, .int (nI k)), (2, .int (nI c)), (3, .int (p2i (Lp)))]) C dL_isAsked_21 (by decide) rfl ?_
    refine J_lv (lv' := [(0, .ref (h 0)), (1, .int (nI k)), (2, .int (nI c)), (3, .int (p2i (Lp))), (4, .int (nI ((dL (stD S)).length))), (5, .int (nI (wst (dL (stD S)) k c))), (6, .int (nI 0)), (7, .int (nI 1)), (8, .int (nI 0))]) [5, 6, 7, 8, 4, 3, 2, 1, 0] rfl ?_
    refine J_loop (σ := Nat × OT) (I := fun (j, oo) => (j ≤ 9)) (μ := fun (j, oo) => 9 - j) (lvf := fun (j, oo) => [(0, .ref (h 0)), (1, .int (nI k)), (2, .int (nI c)), (3, .int (p2i (Lp))), (4, .int (nI ((dL (stD S)).length))), (5, .int (nI (wst (dL (stD S)) k c))), (6, .int (nI (mxN (fun w => dif (dL (stD S)) k c w) j))), (7, .int (nI 1)), (8, .int (nI j))]) (stf := fun (j, oo) => []) (wsf := fun (j, oo) => HW Y h a S oo) ?_ (0, u9) (by omega) (rfl) rfl (rfl)
    rintro ⟨j, oo⟩ hj ih23
    refine J_eq (lv' := [(0, .ref (h 0)), (1, .int (nI k)), (2, .int (nI c)), (3, .int (p2i (Lp))), (4, .int (nI ((dL (stD S)).length))), (5, .int (nI (wst (dL (stD S)) k c))), (6, .int (nI (mxN (fun w => dif (dL (stD S)) k c w) j))), (7, .int (nI 1)), (8, .int (nI j))]) (st' := []) (ws' := HW Y h a S oo) rfl rfl rfl rfl ?_
    refine J_iload C dL_isAsked_23 8 rfl ?_
    refine J_bipush C dL_isAsked_25 (v := nI 9) (by decide) ?_
    refine J_icmp_geN (tgt := 86) C dL_isAsked_27 (by decide) (by omega) (by omega) (fun cq27 => ?_) (fun cq27 => ?_)
    · refine J_eq (lv' := [(0, .ref (h 0)), (1, .int (nI k)), (2, .int (nI c)), (3, .int (p2i (Lp))), (4, .int (nI ((dL (stD S)).length))), (5, .int (nI (wst (dL (stD S)) k c))), (6, .int (nI (wst (dL (stD S)) k c))), (7, .int (nI 1)), (8, .int (nI j))]) rfl (by rw [show j = 9 from by omega, mx_wst]) rfl rfl ?_
      refine J_iload C dL_isAsked_86 7 rfl ?_
      refine J_if_eqN (tgt := 102) C dL_isAsked_88 (by decide) (by omega) (fun cq88 => ?_) (fun cq88 => ?_)
      · exact absurd cq88 (by omega)
      · refine J_iload C dL_isAsked_91 5 rfl ?_
        refine J_iload C dL_isAsked_93 6 rfl ?_
        refine J_icmp_ne (tgt := 102) C dL_isAsked_95 (by decide) (fun cq95 => ?_) (fun cq95 => ?_)
        · exact absurd rfl cq95
        · refine J_iconst C dL_isAsked_98 (v := nI 1) (by decide) ?_
          refine J_goto (tgt := 103) C dL_isAsked_99 (by decide) ?_
          refine J_istore (lv' := [(7, .int (nI 1)), (0, .ref (h 0)), (1, .int (nI k)), (2, .int (nI c)), (3, .int (p2i (Lp))), (4, .int (nI ((dL (stD S)).length))), (5, .int (nI (wst (dL (stD S)) k c))), (6, .int (nI (wst (dL (stD S)) k c))), (8, .int (nI j))]) C dL_isAsked_103 (by decide) rfl ?_
          refine J_aload_n C dL_isAsked_105 rfl 1 rfl ?_
          refine J_callL (wr := []) C (R_P (st := []) (wc := HW Y h a S oo) C hXS (kO_print ll Y hl0 h a S oo b (hG) (by omega)) (va_cwS 1 C.t gL_isAsked_L_print rfl rfl rfl (by decide +kernel) ⟨by decide, by decide⟩) rfl (List.range 49) (HW_all Y h a S oo) rng_nd49 rfl (Nat.le_of_ble_eq_true rfl) dL_isAsked_106 ⟨Nat.le_of_ble_eq_true rfl, Nat.le_of_ble_eq_true rfl⟩) (List.range 49) [] (HW_all Y h a S oo) rfl (by decide) (by decide) (fun r106 u106 hw106 => ?_)
          subst hw106
          refine J_eq (pc' := 109) (lv' := [(7, .int (nI 1)), (0, .ref (h 0)), (1, .int (nI k)), (2, .int (nI c)), (3, .int (p2i (Lp))), (4, .int (nI ((dL (stD S)).length))), (5, .int (nI (wst (dL (stD S)) k c))), (6, .int (nI (wst (dL (stD S)) k c))), (8, .int (nI j))]) (st' := [.long (prF (stD S))]) (ws' := HW Y h a S oo) rfl rfl rfl rfl ?_
          refine J_lstore (lv' := [(8, .long (prF (stD S))), (7, .int (nI 1)), (0, .ref (h 0)), (1, .int (nI k)), (2, .int (nI c)), (3, .int (p2i (Lp))), (4, .int (nI ((dL (stD S)).length))), (5, .int (nI (wst (dL (stD S)) k c))), (6, .int (nI (wst (dL (stD S)) k c)))]) C dL_isAsked_109 (by decide) rfl ?_
          refine J_aload_n C dL_isAsked_111 rfl 2 rfl ?_
          refine J_iconst C dL_isAsked_112 (v := nI 2) (by decide) ?_
          refine J_callI (wr := []) C (R_H (st := []) (wc := HW Y h a S oo) C hXS (kW_value ll Y hl0 h a S oo b 2 (hG) (by omega) (by decide)) (vx_cwSW 2 C.t gL_isAsked_L_value rfl rfl rfl (by decide +kernel) ⟨by decide, by decide⟩) rfl (List.range 49) (HW_all Y h a S oo) rng_nd49 rfl (Nat.le_of_ble_eq_true rfl) dL_isAsked_113 ⟨Nat.le_of_ble_eq_true rfl, Nat.le_of_ble_eq_true rfl⟩) (List.range 49) [] (HW_all Y h a S oo) rfl (by decide) (by decide) (fun r113 u113 hw113 => ?_)
          subst hw113
          refine J_eq (pc' := 116) (lv' := [(8, .long (prF (stD S))), (7, .int (nI 1)), (0, .ref (h 0)), (1, .int (nI k)), (2, .int (nI c)), (3, .int (p2i (Lp))), (4, .int (nI ((dL (stD S)).length))), (5, .int (nI (wst (dL (stD S)) k c))), (6, .int (nI (wst (dL (stD S)) k c)))]) (st' := [.int (nI (abH (dX (stD S)) 2))]) (ws' := HW Y h a S oo) rfl rfl rfl rfl ?_
          refine J_top (y := .int (nI (dX (stD S) 12))) (rfl) ?_
          refine J_istore (lv' := [(10, .int (nI (dX (stD S) 12))), (8, .long (prF (stD S))), (7, .int (nI 1)), (0, .ref (h 0)), (1, .int (nI k)), (2, .int (nI c)), (3, .int (p2i (Lp))), (4, .int (nI ((dL (stD S)).length))), (5, .int (nI (wst (dL (stD S)) k c))), (6, .int (nI (wst (dL (stD S)) k c)))]) C dL_isAsked_116 (by decide) rfl ?_
          refine J_aload_n C dL_isAsked_118 rfl 3 rfl ?_
          refine J_iload_n C dL_isAsked_119 rfl 4 rfl ?_
          refine J_iload_n C dL_isAsked_120 rfl 5 rfl ?_
          refine J_iload_n C dL_isAsked_121 rfl 6 rfl ?_
          refine J_callI (wr := []) C (R_H (st := []) (wc := HW Y h a S oo) C hXS (kW_ask_x3 ll Y hl0 h a S oo b k c Lp (hG) (by omega) (hk) (hc) (hcan)) (vx_cwSW 4 C.t gL_isAsked_L_ask rfl rfl rfl (by decide +kernel) ⟨by decide, by decide⟩) rfl (List.range 49) (HW_all Y h a S oo) rng_nd49 rfl (Nat.le_of_ble_eq_true rfl) dL_isAsked_122 ⟨Nat.le_of_ble_eq_true rfl, Nat.le_of_ble_eq_true rfl⟩) (List.range 49) [] (HW_all Y h a S oo) rfl (by decide) (by decide) (fun r122 u122 hw122 => ?_)
          subst hw122
          refine J_eq (pc' := 125) (lv' := [(10, .int (nI (dX (stD S) 12))), (8, .long (prF (stD S))), (7, .int (nI 1)), (0, .ref (h 0)), (1, .int (nI k)), (2, .int (nI c)), (3, .int (p2i (Lp))), (4, .int (nI ((dL (stD S)).length))), (5, .int (nI (wst (dL (stD S)) k c))), (6, .int (nI (wst (dL (stD S)) k c)))]) (st' := [.int ((-5000002))]) (ws' := HW Y h a S oo) rfl rfl rfl rfl ?_
          refine J_istore (lv' := [(11, .int ((-5000002))), (10, .int (nI (dX (stD S) 12))), (8, .long (prF (stD S))), (7, .int (nI 1)), (0, .ref (h 0)), (1, .int (nI k)), (2, .int (nI c)), (3, .int (p2i (Lp))), (4, .int (nI ((dL (stD S)).length))), (5, .int (nI (wst (dL (stD S)) k c))), (6, .int (nI (wst (dL (stD S)) k c)))]) C dL_isAsked_125 (by decide) rfl ?_
          refine J_iload C dL_isAsked_127 0 rfl ?_
          refine J_ldc C dL_isAsked_129 (v := (-5000002)) w0 ?_
          refine J_icmp_ne (tgt := 155) C dL_isAsked_131 (by decide) (fun cq131 => ?_) (fun cq131 => ?_)
          · exact absurd rfl cq131
          · refine J_iload C dL_isAsked_134 3 rfl ?_
            refine J_if_eqN (tgt := 153) C dL_isAsked_136 (by decide) (by omega) (fun cq136 => ?_) (fun cq136 => ?_)
            · exact absurd cq136 (by omega)
            · refine J_aload_n C dL_isAsked_139 rfl 4 rfl ?_
              refine J_callL (wr := []) C (R_P (st := []) (wc := HW Y h a S oo) C hXS (kO_print ll Y hl0 h a S oo b (hG) (by omega)) (va_cwS 1 C.t gL_isAsked_L_print rfl rfl rfl (by decide +kernel) ⟨by decide, by decide⟩) rfl (List.range 49) (HW_all Y h a S oo) rng_nd49 rfl (Nat.le_of_ble_eq_true rfl) dL_isAsked_140 ⟨Nat.le_of_ble_eq_true rfl, Nat.le_of_ble_eq_true rfl⟩) (List.range 49) [] (HW_all Y h a S oo) rfl (by decide) (by decide) (fun r140 u140 hw140 => ?_)
              subst hw140
              refine J_eq (pc' := 143) (lv' := [(11, .int ((-5000002))), (10, .int (nI (dX (stD S) 12))), (8, .long (prF (stD S))), (7, .int (nI 1)), (0, .ref (h 0)), (1, .int (nI k)), (2, .int (nI c)), (3, .int (p2i (Lp))), (4, .int (nI ((dL (stD S)).length))), (5, .int (nI (wst (dL (stD S)) k c))), (6, .int (nI (wst (dL (stD S)) k c)))]) (st' := [.long (prF (stD S))]) (ws' := HW Y h a S oo) rfl rfl rfl rfl ?_
              refine J_lload C dL_isAsked_143 2 rfl ?_
              refine J_lcmp C dL_isAsked_145 ?_
              refine J_top (y := .int (nI 0)) (by rw [lcs]) ?_
              refine J_if_neN (tgt := 153) C dL_isAsked_146 (by decide) (by omega) (fun cq146 => ?_) (fun cq146 => ?_)
              · exact absurd cq146 (by omega)
              · refine J_iconst C dL_isAsked_149 (v := nI 1) (by decide) ?_
                refine J_goto (tgt := 154) C dL_isAsked_150 (by decide) ?_
                exact J_zret C hr (by decide) dL_isAsked_154 ((S, oo)) (⟨rfl, rfl, hG⟩) (rfl)
    · refine J_iload C dL_isAsked_30 7 rfl ?_
      refine J_if_eqN (tgt := 86) C dL_isAsked_32 (by decide) (by omega) (fun cq32 => ?_) (fun cq32 => ?_)
      · exact absurd cq32 (by omega)
      · refine J_aload_n C dL_isAsked_35 rfl 0 rfl ?_
        refine J_iload_n C dL_isAsked_36 rfl 1 rfl ?_
        refine J_iload_n C dL_isAsked_37 rfl 2 rfl ?_
        refine J_iload C dL_isAsked_38 8 rfl ?_
        refine J_callI (wr := []) C (R_H (st := []) (wc := HW Y h a S oo) C hXS (kW_dealsIf ll Y hl0 h a S oo b k c j (hG) (by omega) (hk) (hc) (by omega)) (vx_cwSW 4 C.t gL_isAsked_L_dealsIf rfl rfl rfl (by decide +kernel) ⟨by decide, by decide⟩) rfl (List.range 49) (HW_all Y h a S oo) rng_nd49 rfl (Nat.le_of_ble_eq_true rfl) dL_isAsked_40 ⟨Nat.le_of_ble_eq_true rfl, Nat.le_of_ble_eq_true rfl⟩) (List.range 49) [] (HW_all Y h a S oo) rfl (by decide) (by decide) (fun r40 u40 hw40 => ?_)
        subst hw40
        refine J_eq (pc' := 43) (lv' := [(0, .ref (h 0)), (1, .int (nI k)), (2, .int (nI c)), (3, .int (p2i (Lp))), (4, .int (nI ((dL (stD S)).length))), (5, .int (nI (wst (dL (stD S)) k c))), (6, .int (nI (mxN (fun w => dif (dL (stD S)) k c w) j))), (7, .int (nI 1)), (8, .int (nI j))]) (st' := [.int (nI (((dL (stD S)).filterMap (stA k c j)).length))]) (ws' := HW Y h a S u40) rfl rfl rfl rfl ?_
        refine J_top (y := .int (nI (dif (dL (stD S)) k c j))) (rfl) ?_
        refine J_istore (lv' := [(9, .int (nI (dif (dL (stD S)) k c j))), (0, .ref (h 0)), (1, .int (nI k)), (2, .int (nI c)), (3, .int (p2i (Lp))), (4, .int (nI ((dL (stD S)).length))), (5, .int (nI (wst (dL (stD S)) k c))), (6, .int (nI (mxN (fun w => dif (dL (stD S)) k c w) j))), (7, .int (nI 1)), (8, .int (nI j))]) C dL_isAsked_43 (by decide) rfl ?_
        refine J_cut (pc' := 59) (lv' := [(9, .int (nI (dif (dL (stD S)) k c j))), (0, .ref (h 0)), (1, .int (nI k)), (2, .int (nI c)), (3, .int (p2i (Lp))), (4, .int (nI ((dL (stD S)).length))), (5, .int (nI (wst (dL (stD S)) k c))), (6, .int (nI (mxN (fun w => dif (dL (stD S)) k c w) j))), (7, .int (nI 1)), (8, .int (nI j))]) (st' := [.int (nI (mxN (fun w => dif (dL (stD S)) k c w) (j + 1)))]) (ws' := HW Y h a S u40) (True) (fun _hT => ?_) (fun jn59 => ?_)
        · refine J_istore (lv' := [(6, .int (nI (mxN (fun w => dif (dL (stD S)) k c w) (j + 1)))), (9, .int (nI (dif (dL (stD S)) k c j))), (0, .ref (h 0)), (1, .int (nI k)), (2, .int (nI c)), (3, .int (p2i (Lp))), (4, .int (nI ((dL (stD S)).length))), (5, .int (nI (wst (dL (stD S)) k c))), (7, .int (nI 1)), (8, .int (nI j))]) C dL_isAsked_59 (by decide) rfl ?_
          refine J_iload C dL_isAsked_61 1 rfl ?_
          refine J_if_ltN (tgt := 77) C dL_isAsked_63 (by decide) (hD5 _) ?_
          refine J_iload C dL_isAsked_66 1 rfl ?_
          refine J_iload C dL_isAsked_68 6 rfl ?_
          refine J_icmp_gtN (tgt := 77) C dL_isAsked_70 (by decide) (hD5 _) (by omega) (fun cq70 => ?_) (fun cq70 => ?_)
          · exact absurd (dif_le _ _ _ _) (Nat.not_le.mpr cq70)
          · refine J_iconst C dL_isAsked_73 (v := nI 1) (by decide) ?_
            refine J_goto (tgt := 78) C dL_isAsked_74 (by decide) ?_
            refine J_istore (lv' := [(7, .int (nI 1)), (6, .int (nI (mxN (fun w => dif (dL (stD S)) k c w) (j + 1)))), (9, .int (nI (dif (dL (stD S)) k c j))), (0, .ref (h 0)), (1, .int (nI k)), (2, .int (nI c)), (3, .int (p2i (Lp))), (4, .int (nI ((dL (stD S)).length))), (5, .int (nI (wst (dL (stD S)) k c))), (8, .int (nI j))]) C dL_isAsked_78 (by decide) rfl ?_
            refine J_iinc (j := 9) (v := nI (j + 1)) (lv' := [(8, .int (nI (j + 1))), (7, .int (nI 1)), (6, .int (nI (mxN (fun w => dif (dL (stD S)) k c w) (j + 1)))), (9, .int (nI (dif (dL (stD S)) k c j))), (0, .ref (h 0)), (1, .int (nI k)), (2, .int (nI c)), (3, .int (p2i (Lp))), (4, .int (nI ((dL (stD S)).length))), (5, .int (nI (wst (dL (stD S)) k c)))]) C dL_isAsked_80 rfl (nI_1 _) (by decide) rfl ?_
            refine J_goto (tgt := 23) C dL_isAsked_83 (by decide) ?_
            refine J_lv (lv' := [(0, .ref (h 0)), (1, .int (nI k)), (2, .int (nI c)), (3, .int (p2i (Lp))), (4, .int (nI ((dL (stD S)).length))), (5, .int (nI (wst (dL (stD S)) k c))), (6, .int (nI (mxN (fun w => dif (dL (stD S)) k c w) (j + 1)))), (7, .int (nI 1)), (8, .int (nI (j + 1)))]) [4, 5, 6, 7, 8, 9, 2, 1, 0] rfl ?_
            exact ih23 (j + 1, u40) (by omega) (show 9 - (j + 1) < 9 - j from by omega)
        · refine J_iload C dL_isAsked_45 0 rfl ?_
          refine J_iload C dL_isAsked_47 7 rfl ?_
          refine J_icmp_leN (tgt := 57) C dL_isAsked_49 (by decide) (hD5 _) (hm31 _) (fun cq49 => ?_) (fun cq49 => ?_)
          · refine J_iload C dL_isAsked_57 7 rfl ?_
            refine J_top (y := .int (nI (mxN (fun w => dif (dL (stD S)) k c w) (j + 1)))) (by rw [mx_n (f := fun w => dif (dL (stD S)) k c w) cq49]) ?_
            refine J_istore (lv' := [(6, .int (nI (mxN (fun w => dif (dL (stD S)) k c w) (j + 1)))), (9, .int (nI (dif (dL (stD S)) k c j))), (0, .ref (h 0)), (1, .int (nI k)), (2, .int (nI c)), (3, .int (p2i (Lp))), (4, .int (nI ((dL (stD S)).length))), (5, .int (nI (wst (dL (stD S)) k c))), (7, .int (nI 1)), (8, .int (nI j))]) C dL_isAsked_59 (by decide) rfl ?_
            refine J_iload C dL_isAsked_61 1 rfl ?_
            refine J_if_ltN (tgt := 77) C dL_isAsked_63 (by decide) (hD5 _) ?_
            refine J_iload C dL_isAsked_66 1 rfl ?_
            refine J_iload C dL_isAsked_68 6 rfl ?_
            refine J_icmp_gtN (tgt := 77) C dL_isAsked_70 (by decide) (hD5 _) (by omega) (fun cq70 => ?_) (fun cq70 => ?_)
            · exact absurd (dif_le _ _ _ _) (Nat.not_le.mpr cq70)
            · refine J_iconst C dL_isAsked_73 (v := nI 1) (by decide) ?_
              refine J_goto (tgt := 78) C dL_isAsked_74 (by decide) ?_
              refine J_istore (lv' := [(7, .int (nI 1)), (6, .int (nI (mxN (fun w => dif (dL (stD S)) k c w) (j + 1)))), (9, .int (nI (dif (dL (stD S)) k c j))), (0, .ref (h 0)), (1, .int (nI k)), (2, .int (nI c)), (3, .int (p2i (Lp))), (4, .int (nI ((dL (stD S)).length))), (5, .int (nI (wst (dL (stD S)) k c))), (8, .int (nI j))]) C dL_isAsked_78 (by decide) rfl ?_
              refine J_iinc (j := 9) (v := nI (j + 1)) (lv' := [(8, .int (nI (j + 1))), (7, .int (nI 1)), (6, .int (nI (mxN (fun w => dif (dL (stD S)) k c w) (j + 1)))), (9, .int (nI (dif (dL (stD S)) k c j))), (0, .ref (h 0)), (1, .int (nI k)), (2, .int (nI c)), (3, .int (p2i (Lp))), (4, .int (nI ((dL (stD S)).length))), (5, .int (nI (wst (dL (stD S)) k c)))]) C dL_isAsked_80 rfl (nI_1 _) (by decide) rfl ?_
              refine J_goto (tgt := 23) C dL_isAsked_83 (by decide) ?_
              refine J_lv (lv' := [(0, .ref (h 0)), (1, .int (nI k)), (2, .int (nI c)), (3, .int (p2i (Lp))), (4, .int (nI ((dL (stD S)).length))), (5, .int (nI (wst (dL (stD S)) k c))), (6, .int (nI (mxN (fun w => dif (dL (stD S)) k c w) (j + 1)))), (7, .int (nI 1)), (8, .int (nI (j + 1)))]) [4, 5, 6, 7, 8, 9, 2, 1, 0] rfl ?_
              exact ih23 (j + 1, u40) (by omega) (show 9 - (j + 1) < 9 - j from by omega)
          · refine J_iload C dL_isAsked_52 0 rfl ?_
            refine J_top (y := .int (nI (mxN (fun w => dif (dL (stD S)) k c w) (j + 1)))) (by rw [mx_y (f := fun w => dif (dL (stD S)) k c w) cq49]) ?_
            refine J_goto (tgt := 59) C dL_isAsked_54 (by decide) ?_
            exact jn59 (trivial)

set_option maxHeartbeats 4000000 in
set_option maxRecDepth 100000 in
theorem kO_isBest (ll : Launch) (Y : GY) (hl0 : ll.stackTraces = false) (h : Nat → Nat) (a : Nat → Nat) (S : ST) (O : OT) (b : Nat) (k : Nat) (hG : G b S) (hbd : b ≤ 1000) (hk : k < dX (stD S) 1) : CH ll yL_isBest wsL_isBest { frames := 5, cells := 0, slots := 0, locals := 116 } Y [.ref (h 0), .int (nI k)] (HW Y h a S O) (QI (S := OT) Y (fun (r : Int32) (_ : OT) => r = nI 1) (fun (u : OT) => HW Y h a S u)) 0 0 := by
  refine CP_of (cc := cL_isBest) (maxL := 8) (ret := (some .boolean)) (by decide) rfl (Nat.le_of_ble_eq_true rfl) ?_
  intro pp ee ss mm bl mt cc AA C hr hXS
  refine J_eq (lv' := [(0, .ref (h 0)), (1, .int (nI k))]) (ws' := HW Y h a S O) rfl rfl rfl rfl ?_
  have hL5 := EI_len (G_E hG)
  have hW : ∀ c, wst (dL (stD S)) k c < 2 ^ 31 := fun c => wst_lt hL5 k c
  obtain ⟨hb1, hb2, hb3⟩ := bqB_ok (dL (stD S)) k
  refine J_aload_n C dL_isBest_0 rfl 0 rfl ?_
  refine J_iload_n C dL_isBest_1 rfl 1 rfl ?_
  refine J_callI (wr := []) C (R_H (st := []) (wc := HW Y h a S O) C hXS (kW_bestCards ll Y hl0 h a S O b k (hG) (by omega) (hk)) (vx_cwSW 2 C.t gL_isBest_L_bestCards rfl rfl rfl (by decide +kernel) ⟨by decide, by decide⟩) rfl (List.range 49) (HW_all Y h a S O) rng_nd49 rfl (Nat.le_of_ble_eq_true rfl) dL_isBest_2 ⟨Nat.le_of_ble_eq_true rfl, Nat.le_of_ble_eq_true rfl⟩) (List.range 49) [] (HW_all Y h a S O) rfl (by decide) (by decide) (fun r2 u2 hw2 => ?_)
  subst hw2
  refine J_eq (pc' := 5) (lv' := [(0, .ref (h 0)), (1, .int (nI k))]) (st' := [.int (nI ((bqN (wsN (stN (dL (stD S)) k) (bhN (dL (stD S)) k)) 254).1))]) (ws' := HW Y h a S u2) rfl rfl rfl rfl ?_
  refine J_top (y := .int (nI (bqB (dL (stD S)) k))) (rfl) ?_
  refine J_istore_n (lv' := [(2, .int (nI (bqB (dL (stD S)) k))), (0, .ref (h 0)), (1, .int (nI k))]) C dL_isBest_5 rfl (by decide) rfl ?_
  refine J_aload_n C dL_isBest_6 rfl 1 rfl ?_
  refine J_iload_n C dL_isBest_7 rfl 2 rfl ?_
  refine J_iload_n C dL_isBest_8 rfl 0 rfl ?_
  refine J_callI (wr := []) C (R_H (st := []) (wc := HW Y h a S u2) C hXS (kW_worst ll Y hl0 h a S u2 b k (bqB (dL (stD S)) k) (hG) (by omega) (hk) (⟨hb1, hb2⟩)) (vx_cwSW 3 C.t gL_isBest_L_worst rfl rfl rfl (by decide +kernel) ⟨by decide, by decide⟩) rfl (List.range 49) (HW_all Y h a S u2) rng_nd49 rfl (Nat.le_of_ble_eq_true rfl) dL_isBest_9 ⟨Nat.le_of_ble_eq_true rfl, Nat.le_of_ble_eq_true rfl⟩) (List.range 49) [] (HW_all Y h a S u2) rfl (by decide) (by decide) (fun r9 u9 hw9 => ?_)
  subst hw9
  refine J_eq (pc' := 12) (lv' := [(2, .int (nI (bqB (dL (stD S)) k))), (0, .ref (h 0)), (1, .int (nI k))]) (st' := [.int (nI (wsN (stN (dL (stD S)) k) (bhN (dL (stD S)) k) (bqB (dL (stD S)) k)))]) (ws' := HW Y h a S u9) rfl rfl rfl rfl ?_
  refine J_top (y := .int (nI (wst (dL (stD S)) k (bqB (dL (stD S)) k)))) (rfl) ?_
  refine J_istore_n (lv' := [(3, .int (nI (wst (dL (stD S)) k (bqB (dL (stD S)) k)))), (2, .int (nI (bqB (dL (stD S)) k))), (0, .ref (h 0)), (1, .int (nI k))]) C dL_isBest_12 rfl (by decide) rfl ?_
  refine J_cut (pc' := 29) (lv' := [(3, .int (nI (wst (dL (stD S)) k (bqB (dL (stD S)) k)))), (2, .int (nI (bqB (dL (stD S)) k))), (0, .ref (h 0)), (1, .int (nI k))]) (st' := []) (ws' := HW Y h a S u9) (True) (fun _hT => ?_) (fun jn29 => ?_)
  · refine J_iconst C dL_isBest_29 (v := nI 1) (by decide) ?_
    refine J_goto (tgt := 34) C dL_isBest_30 (by decide) ?_
    refine J_istore (lv' := [(4, .int (nI 1)), (3, .int (nI (wst (dL (stD S)) k (bqB (dL (stD S)) k)))), (2, .int (nI (bqB (dL (stD S)) k))), (0, .ref (h 0)), (1, .int (nI k))]) C dL_isBest_34 (by decide) rfl ?_
    refine J_iconst C dL_isBest_36 (v := nI 0) (by decide) ?_
    refine J_istore (lv' := [(5, .int (nI 0)), (4, .int (nI 1)), (3, .int (nI (wst (dL (stD S)) k (bqB (dL (stD S)) k)))), (2, .int (nI (bqB (dL (stD S)) k))), (0, .ref (h 0)), (1, .int (nI k))]) C dL_isBest_37 (by decide) rfl ?_
    refine J_lv (lv' := [(0, .ref (h 0)), (1, .int (nI k)), (2, .int (nI (bqB (dL (stD S)) k))), (3, .int (nI (wst (dL (stD S)) k (bqB (dL (stD S)) k)))), (4, .int (nI 1)), (5, .int (nI 0))]) [4, 5, 3, 2, 1, 0] rfl ?_
    refine J_loop (σ := Nat × OT) (I := fun (c, oo) => (c ≤ 8)) (μ := fun (c, oo) => 8 - c) (lvf := fun (c, oo) => [(0, .ref (h 0)), (1, .int (nI k)), (2, .int (nI (bqB (dL (stD S)) k))), (3, .int (nI (wst (dL (stD S)) k (bqB (dL (stD S)) k)))), (4, .int (nI 1)), (5, .int (nI c))]) (stf := fun (c, oo) => []) (wsf := fun (c, oo) => HW Y h a S oo) ?_ (0, u9) (by omega) (rfl) rfl (rfl)
    rintro ⟨c, oo⟩ hc ih39
    refine J_eq (lv' := [(0, .ref (h 0)), (1, .int (nI k)), (2, .int (nI (bqB (dL (stD S)) k))), (3, .int (nI (wst (dL (stD S)) k (bqB (dL (stD S)) k)))), (4, .int (nI 1)), (5, .int (nI c))]) (st' := []) (ws' := HW Y h a S oo) rfl rfl rfl rfl ?_
    refine J_iload C dL_isBest_39 5 rfl ?_
    refine J_bipush C dL_isBest_41 (v := nI 8) (by decide) ?_
    refine J_icmp_geN (tgt := 122) C dL_isBest_43 (by decide) (by omega) (by omega) (fun cq43 => ?_) (fun cq43 => ?_)
    · refine J_iload C dL_isBest_122 4 rfl ?_
      exact J_zret C hr (by decide) dL_isBest_124 oo (rfl) (rfl)
    · refine J_iload C dL_isBest_46 4 rfl ?_
      refine J_if_eqN (tgt := 122) C dL_isBest_48 (by decide) (by omega) (fun cq48 => ?_) (fun cq48 => ?_)
      · exact absurd cq48 (by omega)
      · obtain ⟨t1, t2, t3, t4, t5, t6⟩ := two_ok c (by omega)
        obtain ⟨m1, m2⟩ := bqB_min (L := (dL (stD S))) (g := k) t1 t2 t3
        obtain ⟨m3, -⟩ := bqB_min (L := (dL (stD S))) (g := k) t4 t5 t6
        refine J_aload_n C dL_isBest_51 rfl 0 rfl ?_
        refine J_iload_n C dL_isBest_52 rfl 1 rfl ?_
        refine J_iconst C dL_isBest_53 (v := nI 1) (by decide) ?_
        refine J_iload C dL_isBest_54 5 rfl ?_
        refine J_ishlN C dL_isBest_56 (by omega) (Nat.lt_of_le_of_lt (Nat.mul_le_mul_left 1 (Nat.pow_le_pow_right (by decide) (show c ≤ 7 by omega))) (by decide)) ?_
        refine J_callI (wr := []) C (R_H (st := []) (wc := HW Y h a S oo) C hXS (kW_worst ll Y hl0 h a S oo b k (1 * 2 ^ c) (hG) (by omega) (hk) (⟨t1, t2⟩)) (vx_cwSW 3 C.t gL_isBest_L_worst rfl rfl rfl (by decide +kernel) ⟨by decide, by decide⟩) rfl (List.range 49) (HW_all Y h a S oo) rng_nd49 rfl (Nat.le_of_ble_eq_true rfl) dL_isBest_57 ⟨Nat.le_of_ble_eq_true rfl, Nat.le_of_ble_eq_true rfl⟩) (List.range 49) [] (HW_all Y h a S oo) rfl (by decide) (by decide) (fun r57 u57 hw57 => ?_)
        subst hw57
        refine J_eq (pc' := 60) (lv' := [(0, .ref (h 0)), (1, .int (nI k)), (2, .int (nI (bqB (dL (stD S)) k))), (3, .int (nI (wst (dL (stD S)) k (bqB (dL (stD S)) k)))), (4, .int (nI 1)), (5, .int (nI c))]) (st' := [.int (nI (wsN (stN (dL (stD S)) k) (bhN (dL (stD S)) k) (1 * 2 ^ c)))]) (ws' := HW Y h a S u57) rfl rfl rfl rfl ?_
        refine J_top (y := .int (nI (wst (dL (stD S)) k (1 * 2 ^ c)))) (rfl) ?_
        refine J_istore (lv' := [(6, .int (nI (wst (dL (stD S)) k (1 * 2 ^ c)))), (0, .ref (h 0)), (1, .int (nI k)), (2, .int (nI (bqB (dL (stD S)) k))), (3, .int (nI (wst (dL (stD S)) k (bqB (dL (stD S)) k)))), (4, .int (nI 1)), (5, .int (nI c))]) C dL_isBest_60 (by decide) rfl ?_
        refine J_aload_n C dL_isBest_62 rfl 1 rfl ?_
        refine J_iload_n C dL_isBest_63 rfl 2 rfl ?_
        refine J_iconst C dL_isBest_64 (v := nI 1) (by decide) ?_
        refine J_iload C dL_isBest_65 6 rfl ?_
        refine J_ishlN C dL_isBest_67 (by omega) (Nat.lt_of_le_of_lt (Nat.mul_le_mul_left 1 (Nat.pow_le_pow_right (by decide) (show c ≤ 7 by omega))) (by decide)) ?_
        refine J_iconst C dL_isBest_68 (v := nI 1) (by decide) ?_
        refine J_iload C dL_isBest_69 6 rfl ?_
        refine J_iconst C dL_isBest_71 (v := nI 3) (by decide) ?_
        refine J_iaddN C dL_isBest_72 ?_
        refine J_bipush C dL_isBest_73 (v := nI 8) (by decide) ?_
        refine J_iremN C dL_isBest_75 (by omega) (by omega) (by omega) ?_
        refine J_ishlN C dL_isBest_76 (by omega) (Nat.lt_of_le_of_lt (Nat.mul_le_mul_left 1 (Nat.pow_le_pow_right (by decide) (show (c + 3) % 8 ≤ 7 by omega))) (by decide)) ?_
        refine J_iorN C dL_isBest_77 ?_
        refine J_callI (wr := []) C (R_H (st := []) (wc := HW Y h a S u57) C hXS (kW_worst ll Y hl0 h a S u57 b k ((1 * 2 ^ c) ||| (1 * 2 ^ ((c + 3) % 8))) (hG) (by omega) (hk) (⟨t4, t5⟩)) (vx_cwSW 3 C.t gL_isBest_L_worst rfl rfl rfl (by decide +kernel) ⟨by decide, by decide⟩) rfl (List.range 49) (HW_all Y h a S u57) rng_nd49 rfl (Nat.le_of_ble_eq_true rfl) dL_isBest_78 ⟨Nat.le_of_ble_eq_true rfl, Nat.le_of_ble_eq_true rfl⟩) (List.range 49) [] (HW_all Y h a S u57) rfl (by decide) (by decide) (fun r78 u78 hw78 => ?_)
        subst hw78
        refine J_eq (pc' := 81) (lv' := [(6, .int (nI (wst (dL (stD S)) k (1 * 2 ^ c)))), (0, .ref (h 0)), (1, .int (nI k)), (2, .int (nI (bqB (dL (stD S)) k))), (3, .int (nI (wst (dL (stD S)) k (bqB (dL (stD S)) k)))), (4, .int (nI 1)), (5, .int (nI c))]) (st' := [.int (nI (wsN (stN (dL (stD S)) k) (bhN (dL (stD S)) k) ((1 * 2 ^ c) ||| (1 * 2 ^ ((c + 3) % 8)))))]) (ws' := HW Y h a S u78) rfl rfl rfl rfl ?_
        refine J_top (y := .int (nI (wst (dL (stD S)) k (1 * 2 ^ c ||| 1 * 2 ^ ((c + 3) % 8))))) (rfl) ?_
        refine J_istore (lv' := [(7, .int (nI (wst (dL (stD S)) k (1 * 2 ^ c ||| 1 * 2 ^ ((c + 3) % 8))))), (6, .int (nI (wst (dL (stD S)) k (1 * 2 ^ c)))), (0, .ref (h 0)), (1, .int (nI k)), (2, .int (nI (bqB (dL (stD S)) k))), (3, .int (nI (wst (dL (stD S)) k (bqB (dL (stD S)) k)))), (4, .int (nI 1)), (5, .int (nI c))]) C dL_isBest_81 (by decide) rfl ?_
        refine J_iload C dL_isBest_83 1 rfl ?_
        refine J_iload_n C dL_isBest_85 rfl 5 rfl ?_
        refine J_icmp_ltN (tgt := 113) C dL_isBest_86 (by decide) (hW _) (hW _) (fun cq86 => ?_) (fun cq86 => ?_)
        · exact absurd m1 (Nat.not_le.mpr cq86)
        · refine J_iload C dL_isBest_89 1 rfl ?_
          refine J_iload_n C dL_isBest_91 rfl 5 rfl ?_
          refine J_icmp_gtN (tgt := 103) C dL_isBest_92 (by decide) (hW _) (hW _) (fun cq92 => ?_) (fun cq92 => ?_)
          · refine J_iload C dL_isBest_103 0 rfl ?_
            refine J_iload_n C dL_isBest_105 rfl 5 rfl ?_
            refine J_icmp_ltN (tgt := 113) C dL_isBest_106 (by decide) (hW _) (hW _) (fun cq106 => ?_) (fun cq106 => ?_)
            · exact absurd m3 (Nat.not_le.mpr cq106)
            · refine J_iconst C dL_isBest_109 (v := nI 1) (by decide) ?_
              refine J_goto (tgt := 114) C dL_isBest_110 (by decide) ?_
              refine J_istore (lv' := [(4, .int (nI 1)), (7, .int (nI (wst (dL (stD S)) k (1 * 2 ^ c ||| 1 * 2 ^ ((c + 3) % 8))))), (6, .int (nI (wst (dL (stD S)) k (1 * 2 ^ c)))), (0, .ref (h 0)), (1, .int (nI k)), (2, .int (nI (bqB (dL (stD S)) k))), (3, .int (nI (wst (dL (stD S)) k (bqB (dL (stD S)) k)))), (5, .int (nI c))]) C dL_isBest_114 (by decide) rfl ?_
              refine J_iinc (j := 7) (v := nI (c + 1)) (lv' := [(5, .int (nI (c + 1))), (4, .int (nI 1)), (7, .int (nI (wst (dL (stD S)) k (1 * 2 ^ c ||| 1 * 2 ^ ((c + 3) % 8))))), (6, .int (nI (wst (dL (stD S)) k (1 * 2 ^ c)))), (0, .ref (h 0)), (1, .int (nI k)), (2, .int (nI (bqB (dL (stD S)) k))), (3, .int (nI (wst (dL (stD S)) k (bqB (dL (stD S)) k))))]) C dL_isBest_116 rfl (nI_1 _) (by decide) rfl ?_
              refine J_goto (tgt := 39) C dL_isBest_119 (by decide) ?_
              refine J_lv (lv' := [(0, .ref (h 0)), (1, .int (nI k)), (2, .int (nI (bqB (dL (stD S)) k))), (3, .int (nI (wst (dL (stD S)) k (bqB (dL (stD S)) k)))), (4, .int (nI 1)), (5, .int (nI (c + 1)))]) [4, 5, 6, 7, 1, 0] rfl ?_
              exact ih39 (c + 1, u78) (by omega) (show 8 - (c + 1) < 8 - c from by omega)
          · refine J_iconst C dL_isBest_95 (v := nI 1) (by decide) ?_
            refine J_iload C dL_isBest_96 7 rfl ?_
            refine J_ishlN C dL_isBest_98 (by omega) (Nat.lt_of_le_of_lt (Nat.mul_le_mul_left 1 (Nat.pow_le_pow_right (by decide) (show c ≤ 7 by omega))) (by decide)) ?_
            refine J_iload_n C dL_isBest_99 rfl 4 rfl ?_
            refine J_icmp_ltN (tgt := 113) C dL_isBest_100 (by decide) (by omega) (by omega) (fun cq100 => ?_) (fun cq100 => ?_)
            · exact absurd (m2 cq100) (Nat.not_lt.mpr cq92)
            · refine J_iload C dL_isBest_103 0 rfl ?_
              refine J_iload_n C dL_isBest_105 rfl 5 rfl ?_
              refine J_icmp_ltN (tgt := 113) C dL_isBest_106 (by decide) (hW _) (hW _) (fun cq106 => ?_) (fun cq106 => ?_)
              · exact absurd m3 (Nat.not_le.mpr cq106)
              · refine J_iconst C dL_isBest_109 (v := nI 1) (by decide) ?_
                refine J_goto (tgt := 114) C dL_isBest_110 (by decide) ?_
                refine J_istore (lv' := [(4, .int (nI 1)), (7, .int (nI (wst (dL (stD S)) k (1 * 2 ^ c ||| 1 * 2 ^ ((c + 3) % 8))))), (6, .int (nI (wst (dL (stD S)) k (1 * 2 ^ c)))), (0, .ref (h 0)), (1, .int (nI k)), (2, .int (nI (bqB (dL (stD S)) k))), (3, .int (nI (wst (dL (stD S)) k (bqB (dL (stD S)) k)))), (5, .int (nI c))]) C dL_isBest_114 (by decide) rfl ?_
                refine J_iinc (j := 7) (v := nI (c + 1)) (lv' := [(5, .int (nI (c + 1))), (4, .int (nI 1)), (7, .int (nI (wst (dL (stD S)) k (1 * 2 ^ c ||| 1 * 2 ^ ((c + 3) % 8))))), (6, .int (nI (wst (dL (stD S)) k (1 * 2 ^ c)))), (0, .ref (h 0)), (1, .int (nI k)), (2, .int (nI (bqB (dL (stD S)) k))), (3, .int (nI (wst (dL (stD S)) k (bqB (dL (stD S)) k))))]) C dL_isBest_116 rfl (nI_1 _) (by decide) rfl ?_
                refine J_goto (tgt := 39) C dL_isBest_119 (by decide) ?_
                refine J_lv (lv' := [(0, .ref (h 0)), (1, .int (nI k)), (2, .int (nI (bqB (dL (stD S)) k))), (3, .int (nI (wst (dL (stD S)) k (bqB (dL (stD S)) k)))), (4, .int (nI 1)), (5, .int (nI (c + 1)))]) [4, 5, 6, 7, 1, 0] rfl ?_
                exact ih39 (c + 1, u78) (by omega) (show 8 - (c + 1) < 8 - c from by omega)
  · refine J_iload_n C dL_isBest_13 rfl 1 rfl ?_
    refine J_callI (wr := HW Y h a S u9) C (R_S (st := []) (wc := []) C (kL_ones ll Y (bqB (dL (stD S)) k) (by omega)) (va_cwS 1 C.t gL_isBest_L_ones rfl rfl rfl (by decide +kernel) ⟨by decide, by decide⟩) rfl [] rfl (by decide) rfl (Nat.le_of_ble_eq_true rfl) dL_isBest_14 ⟨Nat.le_of_ble_eq_true rfl, Nat.le_of_ble_eq_true rfl⟩) [] (List.range 49) rfl (HW_all Y h a S u9) rng_nd49 (by decide +kernel) (fun r14 u14 hw14 => ?_)
    subst hw14
    refine J_eq (pc' := 17) (lv' := [(3, .int (nI (wst (dL (stD S)) k (bqB (dL (stD S)) k)))), (2, .int (nI (bqB (dL (stD S)) k))), (0, .ref (h 0)), (1, .int (nI k))]) (st' := [.int (nI (pc8 (bqB (dL (stD S)) k)))]) (ws' := HW Y h a S u9) rfl rfl rfl (List.append_nil _) ?_
    refine J_iconst C dL_isBest_17 (v := nI 1) (by decide) ?_
    refine J_icmp_eqN (tgt := 29) C dL_isBest_18 (by decide) (Nat.lt_of_le_of_lt (pc8_le _) (by decide)) (by decide) (fun cq18 => ?_) (fun cq18 => ?_)
    · exact jn29 (trivial)
    · refine J_iload_n C dL_isBest_21 rfl 1 rfl ?_
      refine J_callI (wr := HW Y h a S u9) C (R_S (st := []) (wc := []) C (kL_ones ll Y (bqB (dL (stD S)) k) (by omega)) (va_cwS 1 C.t gL_isBest_L_ones rfl rfl rfl (by decide +kernel) ⟨by decide, by decide⟩) rfl [] rfl (by decide) rfl (Nat.le_of_ble_eq_true rfl) dL_isBest_22 ⟨Nat.le_of_ble_eq_true rfl, Nat.le_of_ble_eq_true rfl⟩) [] (List.range 49) rfl (HW_all Y h a S u9) rng_nd49 (by decide +kernel) (fun r22 u22 hw22 => ?_)
      subst hw22
      refine J_eq (pc' := 25) (lv' := [(3, .int (nI (wst (dL (stD S)) k (bqB (dL (stD S)) k)))), (2, .int (nI (bqB (dL (stD S)) k))), (0, .ref (h 0)), (1, .int (nI k))]) (st' := [.int (nI (pc8 (bqB (dL (stD S)) k)))]) (ws' := HW Y h a S u9) rfl rfl rfl (List.append_nil _) ?_
      refine J_iconst C dL_isBest_25 (v := nI 2) (by decide) ?_
      refine J_icmp_neN (tgt := 33) C dL_isBest_26 (by decide) (Nat.lt_of_le_of_lt (pc8_le _) (by decide)) (by decide) (fun cq26 => ?_) (fun cq26 => ?_)
      · exact absurd cq26 (by omega)
      · exact jn29 (trivial)

set_option maxHeartbeats 4000000 in
set_option maxRecDepth 100000 in
theorem kO_isProved (ll : Launch) (Y : GY) (hl0 : ll.stackTraces = false) (h : Nat → Nat) (a : Nat → Nat) (S : ST) (O : OT) (b : Nat) (k : Nat) (c : Nat) (hG : G b S) (hbd : b ≤ 1000) (hk : k < dX (stD S) 1) (hc : c ≤ 7) : CH ll yL_isProved wsL_isProved { frames := 9, cells := 161, slots := 966, locals := 268 } Y [.ref (h 0), .int (nI k), .int (nI c)] (HW Y h a S O) (QI (S := ST) Y (fun (r : Int32) (v : ST) => r = nI 1 ∧ stD v = stD S ∧ G b v) (fun (u : ST) => HW Y h a u O)) 161 966 := by
  refine CP_of (cc := cL_isProved) (maxL := 12) (ret := (some .boolean)) (by decide) rfl (Nat.le_of_ble_eq_true rfl) ?_
  intro pp ee ss mm bl mt cc AA C hr hXS
  have w0 := C.t _ (List.mem_of_getElem? (i := 1) (show wsL_isProved[1]? = some (Cond.constant RL 20 (-5000002)) from rfl))
  refine J_eq (lv' := [(0, .ref (h 0)), (1, .int (nI k)), (2, .int (nI c))]) (ws' := HW Y h a S O) rfl rfl rfl rfl ?_
  rcases (show ((dX (stD S) 2 = 1 ∧ k < dX (stD S) 1 ∧ dX (stD S) 7 / 2 ^ k &&& 1 = 1) ∧ dHd (stD S) k / 2 ^ c &&& 1 = 1) ∨ ((dX (stD S) 2 = 1 ∧ k < dX (stD S) 1 ∧ dX (stD S) 7 / 2 ^ k &&& 1 = 1) ∧ ¬ dHd (stD S) k / 2 ^ c &&& 1 = 1) ∨ ¬ (dX (stD S) 2 = 1 ∧ k < dX (stD S) 1 ∧ dX (stD S) 7 / 2 ^ k &&& 1 = 1) from (Decidable.em (dX (stD S) 2 = 1 ∧ k < dX (stD S) 1 ∧ dX (stD S) 7 / 2 ^ k &&& 1 = 1)).elim (fun q1 => (Decidable.em (dHd (stD S) k / 2 ^ c &&& 1 = 1)).elim (fun q2 => Or.inl ⟨q1, q2⟩) (fun q2 => Or.inr (Or.inl ⟨q1, q2⟩))) (fun q1 => Or.inr (Or.inr q1))) with ⟨hcan, hh⟩ | ⟨hcan, hh⟩ | hcan
  · have hn4 := EI_4 (G_E hG)
    have hL5 := EI_len (G_E hG)
    have hwl := wD_le (dL (stD S)) k c
    have hl1 := E1_len (EI_y (G_E hG) (by omega))
    have hl9 : 0 < (dL (prvD (stD S) k c)).length := E1_len (EI_g (EI_prv (G_E hG) hk hc hcan.1) hcan.1)
    refine J_aload_n C dL_isProved_0 rfl 0 rfl ?_
    refine J_callL (wr := []) C (R_P (st := []) (wc := HW Y h a S O) C hXS (kO_print ll Y hl0 h a S O b (hG) (by omega)) (va_cwS 1 C.t gL_isProved_L_print rfl rfl rfl (by decide +kernel) ⟨by decide, by decide⟩) rfl (List.range 49) (HW_all Y h a S O) rng_nd49 rfl (Nat.le_of_ble_eq_true rfl) dL_isProved_1 ⟨Nat.le_of_ble_eq_true rfl, Nat.le_of_ble_eq_true rfl⟩) (List.range 49) [] (HW_all Y h a S O) rfl (by decide) (by decide) (fun r1 u1 hw1 => ?_)
    subst hw1
    refine J_eq (pc' := 4) (lv' := [(0, .ref (h 0)), (1, .int (nI k)), (2, .int (nI c))]) (st' := [.long (prF (stD S))]) (ws' := HW Y h a S O) rfl rfl rfl rfl ?_
    refine J_lstore_n (lv' := [(3, .long (prF (stD S))), (0, .ref (h 0)), (1, .int (nI k)), (2, .int (nI c))]) C dL_isProved_4 rfl (by decide) rfl ?_
    refine J_aload_n C dL_isProved_5 rfl 1 rfl ?_
    refine J_callI (wr := []) C (R_V (st := []) (wc := HW Y h a S O) C (kV_deals ll Y hl0 h a S O b (hG) (by omega)) (cwV 0 C.t gL_isProved_X4_deals rfl rfl rfl (by decide +kernel) ⟨by decide, by decide⟩) rfl (List.range 49) (HW_all Y h a S O) rng_nd49 ⟨0, 4, _, _, rfl, rfl, rfl⟩ rfl (Nat.le_of_ble_eq_true rfl) dL_isProved_6 ⟨Nat.le_of_ble_eq_true rfl, Nat.le_of_ble_eq_true rfl⟩) (List.range 49) [] (HW_all Y h a S O) rfl (by decide) (by decide) (fun r6 u6 hw6 => ?_)
    subst hw6
    refine J_eq (pc' := 9) (lv' := [(3, .long (prF (stD S))), (0, .ref (h 0)), (1, .int (nI k)), (2, .int (nI c))]) (st' := [.int (nI ((dL (stD S)).length))]) (ws' := HW Y h a S O) rfl rfl rfl rfl ?_
    refine J_top (y := .int (nI ((dL (stD S)).length))) (rfl) ?_
    refine J_istore (lv' := [(5, .int (nI ((dL (stD S)).length))), (3, .long (prF (stD S))), (0, .ref (h 0)), (1, .int (nI k)), (2, .int (nI c))]) C dL_isProved_9 (by decide) rfl ?_
    refine J_aload_n C dL_isProved_11 rfl 2 rfl ?_
    refine J_iload_n C dL_isProved_12 rfl 3 rfl ?_
    refine J_iload_n C dL_isProved_13 rfl 4 rfl ?_
    refine J_callI (wr := []) C (R_H (st := []) (wc := HW Y h a S O) C hXS (kW_dealsHeld ll Y hl0 h a S O b k c (hG) (by omega) (hk) (hc)) (vx_cwSW 3 C.t gL_isProved_L_dealsHeld rfl rfl rfl (by decide +kernel) ⟨by decide, by decide⟩) rfl (List.range 49) (HW_all Y h a S O) rng_nd49 rfl (Nat.le_of_ble_eq_true rfl) dL_isProved_14 ⟨Nat.le_of_ble_eq_true rfl, Nat.le_of_ble_eq_true rfl⟩) (List.range 49) [] (HW_all Y h a S O) rfl (by decide) (by decide) (fun r14 u14 hw14 => ?_)
    subst hw14
    refine J_eq (pc' := 17) (lv' := [(5, .int (nI ((dL (stD S)).length))), (3, .long (prF (stD S))), (0, .ref (h 0)), (1, .int (nI k)), (2, .int (nI c))]) (st' := [.int (nI ((dL (stD S)).countP (fun d => d.testBit (8 * k + c))))]) (ws' := HW Y h a S O) rfl rfl rfl rfl ?_
    refine J_top (y := .int (nI (wD (dL (stD S)) k c))) (rfl) ?_
    refine J_istore (lv' := [(6, .int (nI (wD (dL (stD S)) k c))), (5, .int (nI ((dL (stD S)).length))), (3, .long (prF (stD S))), (0, .ref (h 0)), (1, .int (nI k)), (2, .int (nI c))]) C dL_isProved_17 (by decide) rfl ?_
    refine J_aload_n C dL_isProved_19 rfl 3 rfl ?_
    refine J_iload_n C dL_isProved_20 rfl 4 rfl ?_
    refine J_iload_n C dL_isProved_21 rfl 5 rfl ?_
    refine J_callD (wr := []) C (R_H (st := []) (wc := HW Y h a S O) C hXS (kW_leftByProof ll Y hl0 h a S O b k c (hG) (by omega) (hk) (hc)) (vx_cwSW 3 C.t gL_isProved_L_leftByProof rfl rfl rfl (by decide +kernel) ⟨by decide, by decide⟩) rfl (List.range 49) (HW_all Y h a S O) rng_nd49 rfl (Nat.le_of_ble_eq_true rfl) dL_isProved_22 ⟨Nat.le_of_ble_eq_true rfl, Nat.le_of_ble_eq_true rfl⟩) (List.range 49) [] (HW_all Y h a S O) rfl (by decide) (by decide) (fun r22 u22 hw22 => ?_)
    obtain hw22 := hw22
    refine J_eq (pc' := 25) (lv' := [(6, .int (nI (wD (dL (stD S)) k c))), (5, .int (nI ((dL (stD S)).length))), (3, .long (prF (stD S))), (0, .ref (h 0)), (1, .int (nI k)), (2, .int (nI c))]) (st' := [.double r22]) (ws' := HW Y h a S O) rfl rfl rfl rfl ?_
    refine J_top (y := .double (shN ((wD (dL (stD S)) k c) * (wD (dL (stD S)) k c) + (((dL (stD S)).length) - (wD (dL (stD S)) k c)) * (((dL (stD S)).length) - (wD (dL (stD S)) k c))) ((dL (stD S)).length))) (by rw [show r22 = shN ((wD (dL (stD S)) k c) * (wD (dL (stD S)) k c) + (((dL (stD S)).length) - (wD (dL (stD S)) k c)) * (((dL (stD S)).length) - (wD (dL (stD S)) k c))) ((dL (stD S)).length) from hw22]) ?_
    refine J_dstore (lv' := [(7, .double (shN ((wD (dL (stD S)) k c) * (wD (dL (stD S)) k c) + (((dL (stD S)).length) - (wD (dL (stD S)) k c)) * (((dL (stD S)).length) - (wD (dL (stD S)) k c))) ((dL (stD S)).length))), (6, .int (nI (wD (dL (stD S)) k c))), (5, .int (nI ((dL (stD S)).length))), (3, .long (prF (stD S))), (0, .ref (h 0)), (1, .int (nI k)), (2, .int (nI c))]) C dL_isProved_25 (by decide) rfl ?_
    refine J_aload_n C dL_isProved_27 rfl 4 rfl ?_
    refine J_iconst C dL_isProved_28 (v := nI 3) (by decide) ?_
    refine J_callI (wr := []) C (R_H (st := []) (wc := HW Y h a S O) C hXS (kW_value ll Y hl0 h a S O b 3 (hG) (by omega) (by decide)) (vx_cwSW 2 C.t gL_isProved_L_value rfl rfl rfl (by decide +kernel) ⟨by decide, by decide⟩) rfl (List.range 49) (HW_all Y h a S O) rng_nd49 rfl (Nat.le_of_ble_eq_true rfl) dL_isProved_29 ⟨Nat.le_of_ble_eq_true rfl, Nat.le_of_ble_eq_true rfl⟩) (List.range 49) [] (HW_all Y h a S O) rfl (by decide) (by decide) (fun r29 u29 hw29 => ?_)
    subst hw29
    refine J_eq (pc' := 32) (lv' := [(7, .double (shN ((wD (dL (stD S)) k c) * (wD (dL (stD S)) k c) + (((dL (stD S)).length) - (wD (dL (stD S)) k c)) * (((dL (stD S)).length) - (wD (dL (stD S)) k c))) ((dL (stD S)).length))), (6, .int (nI (wD (dL (stD S)) k c))), (5, .int (nI ((dL (stD S)).length))), (3, .long (prF (stD S))), (0, .ref (h 0)), (1, .int (nI k)), (2, .int (nI c))]) (st' := [.int (nI (abH (dX (stD S)) 3))]) (ws' := HW Y h a S O) rfl rfl rfl rfl ?_
    refine J_top (y := .int (nI (dX (stD S) 10))) (rfl) ?_
    refine J_istore (lv' := [(9, .int (nI (dX (stD S) 10))), (7, .double (shN ((wD (dL (stD S)) k c) * (wD (dL (stD S)) k c) + (((dL (stD S)).length) - (wD (dL (stD S)) k c)) * (((dL (stD S)).length) - (wD (dL (stD S)) k c))) ((dL (stD S)).length))), (6, .int (nI (wD (dL (stD S)) k c))), (5, .int (nI ((dL (stD S)).length))), (3, .long (prF (stD S))), (0, .ref (h 0)), (1, .int (nI k)), (2, .int (nI c))]) C dL_isProved_32 (by decide) rfl ?_
    refine J_aload_n C dL_isProved_34 rfl 5 rfl ?_
    refine J_iload_n C dL_isProved_35 rfl 6 rfl ?_
    refine J_iload_n C dL_isProved_36 rfl 7 rfl ?_
    refine J_callI (wr := []) C (R_H (st := []) (wc := HW Y h a S O) C hXS (kW_prove ll Y hl0 h a S O b k c (hG) (by omega) (hk) (hc) (hcan)) (vx_cwSW 3 C.t gL_isProved_L_prove rfl rfl rfl (by decide +kernel) ⟨by decide, by decide⟩) rfl (List.range 49) (HW_all Y h a S O) rng_nd49 rfl (Nat.le_of_ble_eq_true rfl) dL_isProved_37 ⟨Nat.le_of_ble_eq_true rfl, Nat.le_of_ble_eq_true rfl⟩) (List.range 49) [] (HW_all Y h a S O) rfl (by decide) (by decide) (fun r37 u37 hw37 => ?_)
    obtain ⟨rfl, he37, hG37, hV37⟩ := hw37
    refine J_eq (pc' := 40) (lv' := [(9, .int (nI (dX (stD S) 10))), (7, .double (shN ((wD (dL (stD S)) k c) * (wD (dL (stD S)) k c) + (((dL (stD S)).length) - (wD (dL (stD S)) k c)) * (((dL (stD S)).length) - (wD (dL (stD S)) k c))) ((dL (stD S)).length))), (6, .int (nI (wD (dL (stD S)) k c))), (5, .int (nI ((dL (stD S)).length))), (3, .long (prF (stD S))), (0, .ref (h 0)), (1, .int (nI k)), (2, .int (nI c))]) (st' := [.int (p2i (dHd (stD S) k / 2 ^ c &&& 1 = 1))]) (ws' := HW Y h a u37 O) rfl rfl rfl rfl ?_
    refine J_top (y := .int (nI 1)) (by rw [p2i_t hh]) ?_
    refine J_istore (lv' := [(10, .int (nI 1)), (9, .int (nI (dX (stD S) 10))), (7, .double (shN ((wD (dL (stD S)) k c) * (wD (dL (stD S)) k c) + (((dL (stD S)).length) - (wD (dL (stD S)) k c)) * (((dL (stD S)).length) - (wD (dL (stD S)) k c))) ((dL (stD S)).length))), (6, .int (nI (wD (dL (stD S)) k c))), (5, .int (nI ((dL (stD S)).length))), (3, .long (prF (stD S))), (0, .ref (h 0)), (1, .int (nI k)), (2, .int (nI c))]) C dL_isProved_40 (by decide) rfl ?_
    refine J_dload C dL_isProved_42 2 rfl ?_
    refine J_iload C dL_isProved_44 3 rfl ?_
    refine J_iload C dL_isProved_46 3 rfl ?_
    refine J_imulN C dL_isProved_48 ?_
    refine J_iload C dL_isProved_49 4 rfl ?_
    refine J_iload C dL_isProved_51 3 rfl ?_
    refine J_isubN C dL_isProved_53 (by omega) ?_
    refine J_iload C dL_isProved_54 4 rfl ?_
    refine J_iload C dL_isProved_56 3 rfl ?_
    refine J_isubN C dL_isProved_58 (by omega) ?_
    refine J_imulN C dL_isProved_59 ?_
    refine J_iaddN C dL_isProved_60 ?_
    refine J_i2d C dL_isProved_61 ?_
    refine J_iload C dL_isProved_62 4 rfl ?_
    refine J_i2d C dL_isProved_64 ?_
    refine J_ddiv C dL_isProved_65 (ddiv_nn _ (by omega) hL5) ?_
    refine J_top (y := .double (shN ((wD (dL (stD S)) k c) * (wD (dL (stD S)) k c) + (((dL (stD S)).length) - (wD (dL (stD S)) k c)) * (((dL (stD S)).length) - (wD (dL (stD S)) k c))) ((dL (stD S)).length))) (by rw [sh_n (by omega)]) ?_
    refine J_dcmpl C dL_isProved_66 ?_
    refine J_top (y := .int (nI 0)) (by rw [dcs (shN_dec _ hL5)]) ?_
    refine J_if_neN (tgt := 74) C dL_isProved_67 (by decide) (by omega) (fun cq67 => ?_) (fun cq67 => ?_)
    · exact absurd cq67 (by omega)
    · refine J_iconst C dL_isProved_70 (v := nI 1) (by decide) ?_
      refine J_goto (tgt := 75) C dL_isProved_71 (by decide) ?_
      refine J_istore (lv' := [(11, .int (nI 1)), (10, .int (nI 1)), (9, .int (nI (dX (stD S) 10))), (7, .double (shN ((wD (dL (stD S)) k c) * (wD (dL (stD S)) k c) + (((dL (stD S)).length) - (wD (dL (stD S)) k c)) * (((dL (stD S)).length) - (wD (dL (stD S)) k c))) ((dL (stD S)).length))), (6, .int (nI (wD (dL (stD S)) k c))), (5, .int (nI ((dL (stD S)).length))), (3, .long (prF (stD S))), (0, .ref (h 0)), (1, .int (nI k)), (2, .int (nI c))]) C dL_isProved_75 (by decide) rfl ?_
      refine J_iload C dL_isProved_77 1 rfl ?_
      refine J_ldc C dL_isProved_79 (v := (-5000002)) w0 ?_
      refine J_icmp_ne (tgt := 104) C dL_isProved_81 (by decide) (fun cq81 => ?_) (fun cq81 => ?_)
      · refine J_iload C dL_isProved_104 0 rfl ?_
        refine J_if_eqN (tgt := 192) C dL_isProved_106 (by decide) (by omega) (fun cq106 => ?_) (fun cq106 => ?_)
        · exact absurd cq106 (by omega)
        · refine J_aload_n C dL_isProved_109 rfl 7 rfl ?_
          refine J_callI (wr := []) C (R_V (st := []) (wc := HW Y h a u37 O) C (kV_deals ll Y hl0 h a u37 O b (hG37) (by omega)) (cwV 0 C.t gL_isProved_X4_deals rfl rfl rfl (by decide +kernel) ⟨by decide, by decide⟩) rfl (List.range 49) (HW_all Y h a u37 O) rng_nd49 ⟨0, 4, _, _, rfl, rfl, rfl⟩ rfl (Nat.le_of_ble_eq_true rfl) dL_isProved_110 ⟨Nat.le_of_ble_eq_true rfl, Nat.le_of_ble_eq_true rfl⟩) (List.range 49) [] (HW_all Y h a u37 O) rfl (by decide) (by decide) (fun r110 u110 hw110 => ?_)
          subst hw110
          refine J_eq (pc' := 113) (lv' := [(11, .int (nI 1)), (10, .int (nI 1)), (9, .int (nI (dX (stD S) 10))), (7, .double (shN ((wD (dL (stD S)) k c) * (wD (dL (stD S)) k c) + (((dL (stD S)).length) - (wD (dL (stD S)) k c)) * (((dL (stD S)).length) - (wD (dL (stD S)) k c))) ((dL (stD S)).length))), (6, .int (nI (wD (dL (stD S)) k c))), (5, .int (nI ((dL (stD S)).length))), (3, .long (prF (stD S))), (0, .ref (h 0)), (1, .int (nI k)), (2, .int (nI c))]) (st' := [.int (nI ((dL (stD u37)).length))]) (ws' := HW Y h a u37 O) rfl rfl rfl rfl ?_
          refine J_top (y := .int (nI (wD (dL (stD S)) k c))) (by rw [he37, prv_len1 hh]) ?_
          refine J_iload C dL_isProved_113 1 rfl ?_
          refine J_iconst C dL_isProved_115 (v := nI 1) (by decide) ?_
          refine J_icmp_neN (tgt := 124) C dL_isProved_116 (by decide) (by omega) (by omega) (fun cq116 => ?_) (fun cq116 => ?_)
          · exact absurd cq116 (by omega)
          · refine J_iload C dL_isProved_119 4 rfl ?_
            refine J_goto (tgt := 129) C dL_isProved_121 (by decide) ?_
            refine J_icmp_ne (tgt := 192) C dL_isProved_129 (by decide) (fun cq129 => ?_) (fun cq129 => ?_)
            · exact absurd rfl cq129
            · refine J_aload_n C dL_isProved_132 rfl 7 rfl ?_
              refine J_callI (wr := []) C (R_V (st := []) (wc := HW Y h a u37 O) C (kV_deals ll Y hl0 h a u37 O b (hG37) (by omega)) (cwV 0 C.t gL_isProved_X4_deals rfl rfl rfl (by decide +kernel) ⟨by decide, by decide⟩) rfl (List.range 49) (HW_all Y h a u37 O) rng_nd49 ⟨0, 4, _, _, rfl, rfl, rfl⟩ rfl (Nat.le_of_ble_eq_true rfl) dL_isProved_133 ⟨Nat.le_of_ble_eq_true rfl, Nat.le_of_ble_eq_true rfl⟩) (List.range 49) [] (HW_all Y h a u37 O) rfl (by decide) (by decide) (fun r133 u133 hw133 => ?_)
              subst hw133
              refine J_eq (pc' := 136) (lv' := [(11, .int (nI 1)), (10, .int (nI 1)), (9, .int (nI (dX (stD S) 10))), (7, .double (shN ((wD (dL (stD S)) k c) * (wD (dL (stD S)) k c) + (((dL (stD S)).length) - (wD (dL (stD S)) k c)) * (((dL (stD S)).length) - (wD (dL (stD S)) k c))) ((dL (stD S)).length))), (6, .int (nI (wD (dL (stD S)) k c))), (5, .int (nI ((dL (stD S)).length))), (3, .long (prF (stD S))), (0, .ref (h 0)), (1, .int (nI k)), (2, .int (nI c))]) (st' := [.int (nI ((dL (stD u37)).length))]) (ws' := HW Y h a u37 O) rfl rfl rfl rfl ?_
              refine J_top (y := .int (nI (wD (dL (stD S)) k c))) (by rw [he37, prv_len1 hh]) ?_
              have hl8 := hl9
              rw [prv_len1 hh] at hl8
              refine J_if_leN (tgt := 192) C dL_isProved_136 (by decide) (by omega) (fun cq136 => ?_) (fun cq136 => ?_)
              · exact absurd cq136 (by omega)
              · refine J_aload_n C dL_isProved_139 rfl 7 rfl ?_
                refine J_iconst C dL_isProved_140 (v := nI 3) (by decide) ?_
                refine J_callI (wr := []) C (R_H (st := []) (wc := HW Y h a u37 O) C hXS (kW_value ll Y hl0 h a u37 O b 3 (hG37) (by omega) (by decide)) (vx_cwSW 2 C.t gL_isProved_L_value rfl rfl rfl (by decide +kernel) ⟨by decide, by decide⟩) rfl (List.range 49) (HW_all Y h a u37 O) rng_nd49 rfl (Nat.le_of_ble_eq_true rfl) dL_isProved_141 ⟨Nat.le_of_ble_eq_true rfl, Nat.le_of_ble_eq_true rfl⟩) (List.range 49) [] (HW_all Y h a u37 O) rfl (by decide) (by decide) (fun r141 u141 hw141 => ?_)
                subst hw141
                refine J_eq (pc' := 144) (lv' := [(11, .int (nI 1)), (10, .int (nI 1)), (9, .int (nI (dX (stD S) 10))), (7, .double (shN ((wD (dL (stD S)) k c) * (wD (dL (stD S)) k c) + (((dL (stD S)).length) - (wD (dL (stD S)) k c)) * (((dL (stD S)).length) - (wD (dL (stD S)) k c))) ((dL (stD S)).length))), (6, .int (nI (wD (dL (stD S)) k c))), (5, .int (nI ((dL (stD S)).length))), (3, .long (prF (stD S))), (0, .ref (h 0)), (1, .int (nI k)), (2, .int (nI c))]) (st' := [.int (nI (abH (dX (stD u37)) 3))]) (ws' := HW Y h a u37 O) rfl rfl rfl rfl ?_
                refine J_top (y := .int (nI ((dX (stD S) 10) + 1))) (by rw [he37]; rfl) ?_
                refine J_iload C dL_isProved_144 2 rfl ?_
                refine J_iconst C dL_isProved_146 (v := nI 1) (by decide) ?_
                refine J_iaddN C dL_isProved_147 ?_
                refine J_icmp_ne (tgt := 192) C dL_isProved_148 (by decide) (fun cq148 => ?_) (fun cq148 => ?_)
                · exact absurd rfl cq148
                · refine J_aload_n C dL_isProved_151 rfl 7 rfl ?_
                  refine J_iload_n C dL_isProved_152 rfl 8 rfl ?_
                  refine J_iconst C dL_isProved_153 (v := nI 5) (by decide) ?_
                  refine J_callI (wr := []) C (R_H (st := []) (wc := HW Y h a u37 O) C hXS (kW_guest ll Y hl0 h a u37 O b k 5 (hG37) (by omega) (by rw [he37]; exact hk) (by decide)) (vx_cwSW 3 C.t gL_isProved_L_guest rfl rfl rfl (by decide +kernel) ⟨by decide, by decide⟩) rfl (List.range 49) (HW_all Y h a u37 O) rng_nd49 rfl (Nat.le_of_ble_eq_true rfl) dL_isProved_154 ⟨Nat.le_of_ble_eq_true rfl, Nat.le_of_ble_eq_true rfl⟩) (List.range 49) [] (HW_all Y h a u37 O) rfl (by decide) (by decide) (fun r154 u154 hw154 => ?_)
                  subst hw154
                  refine J_eq (pc' := 157) (lv' := [(11, .int (nI 1)), (10, .int (nI 1)), (9, .int (nI (dX (stD S) 10))), (7, .double (shN ((wD (dL (stD S)) k c) * (wD (dL (stD S)) k c) + (((dL (stD S)).length) - (wD (dL (stD S)) k c)) * (((dL (stD S)).length) - (wD (dL (stD S)) k c))) ((dL (stD S)).length))), (6, .int (nI (wD (dL (stD S)) k c))), (5, .int (nI ((dL (stD S)).length))), (3, .long (prF (stD S))), (0, .ref (h 0)), (1, .int (nI k)), (2, .int (nI c))]) (st' := [.int (nI (abG (dX (stD u37)) (dHd (stD u37)) (dPb (stD u37)) (dAg (stD u37)) (dL (stD u37)) k 5))]) (ws' := HW Y h a u37 O) rfl rfl rfl rfl ?_
                  refine J_top (y := .int (nI (hAt (orL (dL (prvD (stD S) k c))) k))) (by rw [he37]; rfl) ?_
                  refine J_iload_n C dL_isProved_157 rfl 9 rfl ?_
                  refine J_ishrN C dL_isProved_158 (by omega) (Nat.lt_of_lt_of_le (hAt_lt _ _) (by decide)) ?_
                  refine J_iconst C dL_isProved_159 (v := nI 1) (by decide) ?_
                  refine J_iandN C dL_isProved_160 ?_
                  refine J_top (y := .int (nI 1)) (by rw [prv_some (by omega) (by omega) hl9, decide_eq_true hh, if_pos rfl]) ?_
                  refine J_iload C dL_isProved_161 1 rfl ?_
                  refine J_icmp_neN (tgt := 192) C dL_isProved_163 (by decide) (by omega) (by omega) (fun cq163 => ?_) (fun cq163 => ?_)
                  · exact absurd cq163 (by omega)
                  · refine J_aload_n C dL_isProved_166 rfl 7 rfl ?_
                    refine J_iload_n C dL_isProved_167 rfl 8 rfl ?_
                    refine J_iconst C dL_isProved_168 (v := nI 4) (by decide) ?_
                    refine J_callI (wr := []) C (R_H (st := []) (wc := HW Y h a u37 O) C hXS (kW_guest ll Y hl0 h a u37 O b k 4 (hG37) (by omega) (by rw [he37]; exact hk) (by decide)) (vx_cwSW 3 C.t gL_isProved_L_guest rfl rfl rfl (by decide +kernel) ⟨by decide, by decide⟩) rfl (List.range 49) (HW_all Y h a u37 O) rng_nd49 rfl (Nat.le_of_ble_eq_true rfl) dL_isProved_169 ⟨Nat.le_of_ble_eq_true rfl, Nat.le_of_ble_eq_true rfl⟩) (List.range 49) [] (HW_all Y h a u37 O) rfl (by decide) (by decide) (fun r169 u169 hw169 => ?_)
                    subst hw169
                    refine J_eq (pc' := 172) (lv' := [(11, .int (nI 1)), (10, .int (nI 1)), (9, .int (nI (dX (stD S) 10))), (7, .double (shN ((wD (dL (stD S)) k c) * (wD (dL (stD S)) k c) + (((dL (stD S)).length) - (wD (dL (stD S)) k c)) * (((dL (stD S)).length) - (wD (dL (stD S)) k c))) ((dL (stD S)).length))), (6, .int (nI (wD (dL (stD S)) k c))), (5, .int (nI ((dL (stD S)).length))), (3, .long (prF (stD S))), (0, .ref (h 0)), (1, .int (nI k)), (2, .int (nI c))]) (st' := [.int (nI (abG (dX (stD u37)) (dHd (stD u37)) (dPb (stD u37)) (dAg (stD u37)) (dL (stD u37)) k 4))]) (ws' := HW Y h a u37 O) rfl rfl rfl rfl ?_
                    refine J_top (y := .int (nI (hAt (andL (dL (prvD (stD S) k c))) k))) (by rw [he37]; exact congrArg (fun q => Value.int (nI q)) (if_neg (by omega))) ?_
                    refine J_iload_n C dL_isProved_172 rfl 9 rfl ?_
                    refine J_ishrN C dL_isProved_173 (by omega) (Nat.lt_of_lt_of_le (hAt_lt _ _) (by decide)) ?_
                    refine J_iconst C dL_isProved_174 (v := nI 1) (by decide) ?_
                    refine J_iandN C dL_isProved_175 ?_
                    refine J_top (y := .int (nI 1)) (by rw [prv_all (by omega) (by omega) hl9, decide_eq_true hh, if_pos rfl]) ?_
                    refine J_iload C dL_isProved_176 1 rfl ?_
                    refine J_icmp_neN (tgt := 192) C dL_isProved_178 (by decide) (by omega) (by omega) (fun cq178 => ?_) (fun cq178 => ?_)
                    · exact absurd cq178 (by omega)
                    · refine J_aload_n C dL_isProved_181 rfl 7 rfl ?_
                      refine J_callI (wr := []) C (R_H (st := []) (wc := HW Y h a u37 O) C hXS (kW_undo ll Y hl0 h a u37 O b (hG37) (by omega) (stD S) (hV37) (G_E hG) (b) (G_b hG)) (vx_cwSW 1 C.t gL_isProved_L_undo rfl rfl rfl (by decide +kernel) ⟨by decide, by decide⟩) rfl (List.range 49) (HW_all Y h a u37 O) rng_nd49 rfl (Nat.le_of_ble_eq_true rfl) dL_isProved_182 ⟨Nat.le_of_ble_eq_true rfl, Nat.le_of_ble_eq_true rfl⟩) (List.range 49) [] (HW_all Y h a u37 O) rfl (by decide) (by decide) (fun r182 u182 hw182 => ?_)
                      obtain ⟨rfl, he182, hG182⟩ := hw182
                      refine J_eq (pc' := 185) (lv' := [(11, .int (nI 1)), (10, .int (nI 1)), (9, .int (nI (dX (stD S) 10))), (7, .double (shN ((wD (dL (stD S)) k c) * (wD (dL (stD S)) k c) + (((dL (stD S)).length) - (wD (dL (stD S)) k c)) * (((dL (stD S)).length) - (wD (dL (stD S)) k c))) ((dL (stD S)).length))), (6, .int (nI (wD (dL (stD S)) k c))), (5, .int (nI ((dL (stD S)).length))), (3, .long (prF (stD S))), (0, .ref (h 0)), (1, .int (nI k)), (2, .int (nI c))]) (st' := [.int (nI (stSc u37 - 1))]) (ws' := HW Y h a u182 O) rfl rfl rfl rfl ?_
                      refine J_if_ltN (tgt := 192) C dL_isProved_185 (by decide) (by have := G_sc hG37; omega) ?_
                      refine J_iconst C dL_isProved_188 (v := nI 1) (by decide) ?_
                      refine J_goto (tgt := 193) C dL_isProved_189 (by decide) ?_
                      refine J_istore (lv' := [(11, .int (nI 1)), (10, .int (nI 1)), (9, .int (nI (dX (stD S) 10))), (7, .double (shN ((wD (dL (stD S)) k c) * (wD (dL (stD S)) k c) + (((dL (stD S)).length) - (wD (dL (stD S)) k c)) * (((dL (stD S)).length) - (wD (dL (stD S)) k c))) ((dL (stD S)).length))), (6, .int (nI (wD (dL (stD S)) k c))), (5, .int (nI ((dL (stD S)).length))), (3, .long (prF (stD S))), (0, .ref (h 0)), (1, .int (nI k)), (2, .int (nI c))]) C dL_isProved_193 (by decide) rfl ?_
                      refine J_iload C dL_isProved_195 0 rfl ?_
                      refine J_if_eqN (tgt := 213) C dL_isProved_197 (by decide) (by omega) (fun cq197 => ?_) (fun cq197 => ?_)
                      · exact absurd cq197 (by omega)
                      · refine J_aload_n C dL_isProved_200 rfl 7 rfl ?_
                        refine J_callL (wr := []) C (R_P (st := []) (wc := HW Y h a u182 O) C hXS (kO_print ll Y hl0 h a u182 O b (hG182) (by omega)) (va_cwS 1 C.t gL_isProved_L_print rfl rfl rfl (by decide +kernel) ⟨by decide, by decide⟩) rfl (List.range 49) (HW_all Y h a u182 O) rng_nd49 rfl (Nat.le_of_ble_eq_true rfl) dL_isProved_201 ⟨Nat.le_of_ble_eq_true rfl, Nat.le_of_ble_eq_true rfl⟩) (List.range 49) [] (HW_all Y h a u182 O) rfl (by decide) (by decide) (fun r201 u201 hw201 => ?_)
                        subst hw201
                        refine J_eq (pc' := 204) (lv' := [(11, .int (nI 1)), (10, .int (nI 1)), (9, .int (nI (dX (stD S) 10))), (7, .double (shN ((wD (dL (stD S)) k c) * (wD (dL (stD S)) k c) + (((dL (stD S)).length) - (wD (dL (stD S)) k c)) * (((dL (stD S)).length) - (wD (dL (stD S)) k c))) ((dL (stD S)).length))), (6, .int (nI (wD (dL (stD S)) k c))), (5, .int (nI ((dL (stD S)).length))), (3, .long (prF (stD S))), (0, .ref (h 0)), (1, .int (nI k)), (2, .int (nI c))]) (st' := [.long (prF (stD u182))]) (ws' := HW Y h a u182 O) rfl rfl rfl rfl ?_
                        refine J_top (y := .long (prF (stD S))) (by rw [he182]) ?_
                        refine J_lload_n C dL_isProved_204 rfl 6 rfl ?_
                        refine J_lcmp C dL_isProved_205 ?_
                        refine J_top (y := .int (nI 0)) (by rw [lcs]) ?_
                        refine J_if_neN (tgt := 213) C dL_isProved_206 (by decide) (by omega) (fun cq206 => ?_) (fun cq206 => ?_)
                        · exact absurd cq206 (by omega)
                        · refine J_iconst C dL_isProved_209 (v := nI 1) (by decide) ?_
                          refine J_goto (tgt := 214) C dL_isProved_210 (by decide) ?_
                          refine J_wd (k' := 161) (n' := 966) (Nat.le_of_ble_eq_true rfl) (Nat.le_of_ble_eq_true rfl) ?_
                          exact J_zret C hr (by decide) dL_isProved_214 u182 (⟨rfl, he182, hG182⟩) (rfl)
      · exact absurd cq81 (by decide +kernel)
  · have hn4 := EI_4 (G_E hG)
    have hL5 := EI_len (G_E hG)
    have hwl := wD_le (dL (stD S)) k c
    have hl1 := E1_len (EI_y (G_E hG) (by omega))
    have hl9 : 0 < (dL (prvD (stD S) k c)).length := E1_len (EI_g (EI_prv (G_E hG) hk hc hcan.1) hcan.1)
    refine J_aload_n C dL_isProved_0 rfl 0 rfl ?_
    refine J_callL (wr := []) C (R_P (st := []) (wc := HW Y h a S O) C hXS (kO_print ll Y hl0 h a S O b (hG) (by omega)) (va_cwS 1 C.t gL_isProved_L_print rfl rfl rfl (by decide +kernel) ⟨by decide, by decide⟩) rfl (List.range 49) (HW_all Y h a S O) rng_nd49 rfl (Nat.le_of_ble_eq_true rfl) dL_isProved_1 ⟨Nat.le_of_ble_eq_true rfl, Nat.le_of_ble_eq_true rfl⟩) (List.range 49) [] (HW_all Y h a S O) rfl (by decide) (by decide) (fun r1 u1 hw1 => ?_)
    subst hw1
    refine J_eq (pc' := 4) (lv' := [(0, .ref (h 0)), (1, .int (nI k)), (2, .int (nI c))]) (st' := [.long (prF (stD S))]) (ws' := HW Y h a S O) rfl rfl rfl rfl ?_
    refine J_lstore_n (lv' := [(3, .long (prF (stD S))), (0, .ref (h 0)), (1, .int (nI k)), (2, .int (nI c))]) C dL_isProved_4 rfl (by decide) rfl ?_
    refine J_aload_n C dL_isProved_5 rfl 1 rfl ?_
    refine J_callI (wr := []) C (R_V (st := []) (wc := HW Y h a S O) C (kV_deals ll Y hl0 h a S O b (hG) (by omega)) (cwV 0 C.t gL_isProved_X4_deals rfl rfl rfl (by decide +kernel) ⟨by decide, by decide⟩) rfl (List.range 49) (HW_all Y h a S O) rng_nd49 ⟨0, 4, _, _, rfl, rfl, rfl⟩ rfl (Nat.le_of_ble_eq_true rfl) dL_isProved_6 ⟨Nat.le_of_ble_eq_true rfl, Nat.le_of_ble_eq_true rfl⟩) (List.range 49) [] (HW_all Y h a S O) rfl (by decide) (by decide) (fun r6 u6 hw6 => ?_)
    subst hw6
    refine J_eq (pc' := 9) (lv' := [(3, .long (prF (stD S))), (0, .ref (h 0)), (1, .int (nI k)), (2, .int (nI c))]) (st' := [.int (nI ((dL (stD S)).length))]) (ws' := HW Y h a S O) rfl rfl rfl rfl ?_
    refine J_top (y := .int (nI ((dL (stD S)).length))) (rfl) ?_
    refine J_istore (lv' := [(5, .int (nI ((dL (stD S)).length))), (3, .long (prF (stD S))), (0, .ref (h 0)), (1, .int (nI k)), (2, .int (nI c))]) C dL_isProved_9 (by decide) rfl ?_
    refine J_aload_n C dL_isProved_11 rfl 2 rfl ?_
    refine J_iload_n C dL_isProved_12 rfl 3 rfl ?_
    refine J_iload_n C dL_isProved_13 rfl 4 rfl ?_
    refine J_callI (wr := []) C (R_H (st := []) (wc := HW Y h a S O) C hXS (kW_dealsHeld ll Y hl0 h a S O b k c (hG) (by omega) (hk) (hc)) (vx_cwSW 3 C.t gL_isProved_L_dealsHeld rfl rfl rfl (by decide +kernel) ⟨by decide, by decide⟩) rfl (List.range 49) (HW_all Y h a S O) rng_nd49 rfl (Nat.le_of_ble_eq_true rfl) dL_isProved_14 ⟨Nat.le_of_ble_eq_true rfl, Nat.le_of_ble_eq_true rfl⟩) (List.range 49) [] (HW_all Y h a S O) rfl (by decide) (by decide) (fun r14 u14 hw14 => ?_)
    subst hw14
    refine J_eq (pc' := 17) (lv' := [(5, .int (nI ((dL (stD S)).length))), (3, .long (prF (stD S))), (0, .ref (h 0)), (1, .int (nI k)), (2, .int (nI c))]) (st' := [.int (nI ((dL (stD S)).countP (fun d => d.testBit (8 * k + c))))]) (ws' := HW Y h a S O) rfl rfl rfl rfl ?_
    refine J_top (y := .int (nI (wD (dL (stD S)) k c))) (rfl) ?_
    refine J_istore (lv' := [(6, .int (nI (wD (dL (stD S)) k c))), (5, .int (nI ((dL (stD S)).length))), (3, .long (prF (stD S))), (0, .ref (h 0)), (1, .int (nI k)), (2, .int (nI c))]) C dL_isProved_17 (by decide) rfl ?_
    refine J_aload_n C dL_isProved_19 rfl 3 rfl ?_
    refine J_iload_n C dL_isProved_20 rfl 4 rfl ?_
    refine J_iload_n C dL_isProved_21 rfl 5 rfl ?_
    refine J_callD (wr := []) C (R_H (st := []) (wc := HW Y h a S O) C hXS (kW_leftByProof ll Y hl0 h a S O b k c (hG) (by omega) (hk) (hc)) (vx_cwSW 3 C.t gL_isProved_L_leftByProof rfl rfl rfl (by decide +kernel) ⟨by decide, by decide⟩) rfl (List.range 49) (HW_all Y h a S O) rng_nd49 rfl (Nat.le_of_ble_eq_true rfl) dL_isProved_22 ⟨Nat.le_of_ble_eq_true rfl, Nat.le_of_ble_eq_true rfl⟩) (List.range 49) [] (HW_all Y h a S O) rfl (by decide) (by decide) (fun r22 u22 hw22 => ?_)
    obtain hw22 := hw22
    refine J_eq (pc' := 25) (lv' := [(6, .int (nI (wD (dL (stD S)) k c))), (5, .int (nI ((dL (stD S)).length))), (3, .long (prF (stD S))), (0, .ref (h 0)), (1, .int (nI k)), (2, .int (nI c))]) (st' := [.double r22]) (ws' := HW Y h a S O) rfl rfl rfl rfl ?_
    refine J_top (y := .double (shN ((wD (dL (stD S)) k c) * (wD (dL (stD S)) k c) + (((dL (stD S)).length) - (wD (dL (stD S)) k c)) * (((dL (stD S)).length) - (wD (dL (stD S)) k c))) ((dL (stD S)).length))) (by rw [show r22 = shN ((wD (dL (stD S)) k c) * (wD (dL (stD S)) k c) + (((dL (stD S)).length) - (wD (dL (stD S)) k c)) * (((dL (stD S)).length) - (wD (dL (stD S)) k c))) ((dL (stD S)).length) from hw22]) ?_
    refine J_dstore (lv' := [(7, .double (shN ((wD (dL (stD S)) k c) * (wD (dL (stD S)) k c) + (((dL (stD S)).length) - (wD (dL (stD S)) k c)) * (((dL (stD S)).length) - (wD (dL (stD S)) k c))) ((dL (stD S)).length))), (6, .int (nI (wD (dL (stD S)) k c))), (5, .int (nI ((dL (stD S)).length))), (3, .long (prF (stD S))), (0, .ref (h 0)), (1, .int (nI k)), (2, .int (nI c))]) C dL_isProved_25 (by decide) rfl ?_
    refine J_aload_n C dL_isProved_27 rfl 4 rfl ?_
    refine J_iconst C dL_isProved_28 (v := nI 3) (by decide) ?_
    refine J_callI (wr := []) C (R_H (st := []) (wc := HW Y h a S O) C hXS (kW_value ll Y hl0 h a S O b 3 (hG) (by omega) (by decide)) (vx_cwSW 2 C.t gL_isProved_L_value rfl rfl rfl (by decide +kernel) ⟨by decide, by decide⟩) rfl (List.range 49) (HW_all Y h a S O) rng_nd49 rfl (Nat.le_of_ble_eq_true rfl) dL_isProved_29 ⟨Nat.le_of_ble_eq_true rfl, Nat.le_of_ble_eq_true rfl⟩) (List.range 49) [] (HW_all Y h a S O) rfl (by decide) (by decide) (fun r29 u29 hw29 => ?_)
    subst hw29
    refine J_eq (pc' := 32) (lv' := [(7, .double (shN ((wD (dL (stD S)) k c) * (wD (dL (stD S)) k c) + (((dL (stD S)).length) - (wD (dL (stD S)) k c)) * (((dL (stD S)).length) - (wD (dL (stD S)) k c))) ((dL (stD S)).length))), (6, .int (nI (wD (dL (stD S)) k c))), (5, .int (nI ((dL (stD S)).length))), (3, .long (prF (stD S))), (0, .ref (h 0)), (1, .int (nI k)), (2, .int (nI c))]) (st' := [.int (nI (abH (dX (stD S)) 3))]) (ws' := HW Y h a S O) rfl rfl rfl rfl ?_
    refine J_top (y := .int (nI (dX (stD S) 10))) (rfl) ?_
    refine J_istore (lv' := [(9, .int (nI (dX (stD S) 10))), (7, .double (shN ((wD (dL (stD S)) k c) * (wD (dL (stD S)) k c) + (((dL (stD S)).length) - (wD (dL (stD S)) k c)) * (((dL (stD S)).length) - (wD (dL (stD S)) k c))) ((dL (stD S)).length))), (6, .int (nI (wD (dL (stD S)) k c))), (5, .int (nI ((dL (stD S)).length))), (3, .long (prF (stD S))), (0, .ref (h 0)), (1, .int (nI k)), (2, .int (nI c))]) C dL_isProved_32 (by decide) rfl ?_
    refine J_aload_n C dL_isProved_34 rfl 5 rfl ?_
    refine J_iload_n C dL_isProved_35 rfl 6 rfl ?_
    refine J_iload_n C dL_isProved_36 rfl 7 rfl ?_
    refine J_callI (wr := []) C (R_H (st := []) (wc := HW Y h a S O) C hXS (kW_prove ll Y hl0 h a S O b k c (hG) (by omega) (hk) (hc) (hcan)) (vx_cwSW 3 C.t gL_isProved_L_prove rfl rfl rfl (by decide +kernel) ⟨by decide, by decide⟩) rfl (List.range 49) (HW_all Y h a S O) rng_nd49 rfl (Nat.le_of_ble_eq_true rfl) dL_isProved_37 ⟨Nat.le_of_ble_eq_true rfl, Nat.le_of_ble_eq_true rfl⟩) (List.range 49) [] (HW_all Y h a S O) rfl (by decide) (by decide) (fun r37 u37 hw37 => ?_)
    obtain ⟨rfl, he37, hG37, hV37⟩ := hw37
    refine J_eq (pc' := 40) (lv' := [(9, .int (nI (dX (stD S) 10))), (7, .double (shN ((wD (dL (stD S)) k c) * (wD (dL (stD S)) k c) + (((dL (stD S)).length) - (wD (dL (stD S)) k c)) * (((dL (stD S)).length) - (wD (dL (stD S)) k c))) ((dL (stD S)).length))), (6, .int (nI (wD (dL (stD S)) k c))), (5, .int (nI ((dL (stD S)).length))), (3, .long (prF (stD S))), (0, .ref (h 0)), (1, .int (nI k)), (2, .int (nI c))]) (st' := [.int (p2i (dHd (stD S) k / 2 ^ c &&& 1 = 1))]) (ws' := HW Y h a u37 O) rfl rfl rfl rfl ?_
    refine J_top (y := .int (nI 0)) (by rw [p2i_f hh]) ?_
    refine J_istore (lv' := [(10, .int (nI 0)), (9, .int (nI (dX (stD S) 10))), (7, .double (shN ((wD (dL (stD S)) k c) * (wD (dL (stD S)) k c) + (((dL (stD S)).length) - (wD (dL (stD S)) k c)) * (((dL (stD S)).length) - (wD (dL (stD S)) k c))) ((dL (stD S)).length))), (6, .int (nI (wD (dL (stD S)) k c))), (5, .int (nI ((dL (stD S)).length))), (3, .long (prF (stD S))), (0, .ref (h 0)), (1, .int (nI k)), (2, .int (nI c))]) C dL_isProved_40 (by decide) rfl ?_
    refine J_dload C dL_isProved_42 2 rfl ?_
    refine J_iload C dL_isProved_44 3 rfl ?_
    refine J_iload C dL_isProved_46 3 rfl ?_
    refine J_imulN C dL_isProved_48 ?_
    refine J_iload C dL_isProved_49 4 rfl ?_
    refine J_iload C dL_isProved_51 3 rfl ?_
    refine J_isubN C dL_isProved_53 (by omega) ?_
    refine J_iload C dL_isProved_54 4 rfl ?_
    refine J_iload C dL_isProved_56 3 rfl ?_
    refine J_isubN C dL_isProved_58 (by omega) ?_
    refine J_imulN C dL_isProved_59 ?_
    refine J_iaddN C dL_isProved_60 ?_
    refine J_i2d C dL_isProved_61 ?_
    refine J_iload C dL_isProved_62 4 rfl ?_
    refine J_i2d C dL_isProved_64 ?_
    refine J_ddiv C dL_isProved_65 (ddiv_nn _ (by omega) hL5) ?_
    refine J_top (y := .double (shN ((wD (dL (stD S)) k c) * (wD (dL (stD S)) k c) + (((dL (stD S)).length) - (wD (dL (stD S)) k c)) * (((dL (stD S)).length) - (wD (dL (stD S)) k c))) ((dL (stD S)).length))) (by rw [sh_n (by omega)]) ?_
    refine J_dcmpl C dL_isProved_66 ?_
    refine J_top (y := .int (nI 0)) (by rw [dcs (shN_dec _ hL5)]) ?_
    refine J_if_neN (tgt := 74) C dL_isProved_67 (by decide) (by omega) (fun cq67 => ?_) (fun cq67 => ?_)
    · exact absurd cq67 (by omega)
    · refine J_iconst C dL_isProved_70 (v := nI 1) (by decide) ?_
      refine J_goto (tgt := 75) C dL_isProved_71 (by decide) ?_
      refine J_istore (lv' := [(11, .int (nI 1)), (10, .int (nI 0)), (9, .int (nI (dX (stD S) 10))), (7, .double (shN ((wD (dL (stD S)) k c) * (wD (dL (stD S)) k c) + (((dL (stD S)).length) - (wD (dL (stD S)) k c)) * (((dL (stD S)).length) - (wD (dL (stD S)) k c))) ((dL (stD S)).length))), (6, .int (nI (wD (dL (stD S)) k c))), (5, .int (nI ((dL (stD S)).length))), (3, .long (prF (stD S))), (0, .ref (h 0)), (1, .int (nI k)), (2, .int (nI c))]) C dL_isProved_75 (by decide) rfl ?_
      refine J_iload C dL_isProved_77 1 rfl ?_
      refine J_ldc C dL_isProved_79 (v := (-5000002)) w0 ?_
      refine J_icmp_ne (tgt := 104) C dL_isProved_81 (by decide) (fun cq81 => ?_) (fun cq81 => ?_)
      · refine J_iload C dL_isProved_104 0 rfl ?_
        refine J_if_eqN (tgt := 192) C dL_isProved_106 (by decide) (by omega) (fun cq106 => ?_) (fun cq106 => ?_)
        · exact absurd cq106 (by omega)
        · refine J_aload_n C dL_isProved_109 rfl 7 rfl ?_
          refine J_callI (wr := []) C (R_V (st := []) (wc := HW Y h a u37 O) C (kV_deals ll Y hl0 h a u37 O b (hG37) (by omega)) (cwV 0 C.t gL_isProved_X4_deals rfl rfl rfl (by decide +kernel) ⟨by decide, by decide⟩) rfl (List.range 49) (HW_all Y h a u37 O) rng_nd49 ⟨0, 4, _, _, rfl, rfl, rfl⟩ rfl (Nat.le_of_ble_eq_true rfl) dL_isProved_110 ⟨Nat.le_of_ble_eq_true rfl, Nat.le_of_ble_eq_true rfl⟩) (List.range 49) [] (HW_all Y h a u37 O) rfl (by decide) (by decide) (fun r110 u110 hw110 => ?_)
          subst hw110
          refine J_eq (pc' := 113) (lv' := [(11, .int (nI 1)), (10, .int (nI 0)), (9, .int (nI (dX (stD S) 10))), (7, .double (shN ((wD (dL (stD S)) k c) * (wD (dL (stD S)) k c) + (((dL (stD S)).length) - (wD (dL (stD S)) k c)) * (((dL (stD S)).length) - (wD (dL (stD S)) k c))) ((dL (stD S)).length))), (6, .int (nI (wD (dL (stD S)) k c))), (5, .int (nI ((dL (stD S)).length))), (3, .long (prF (stD S))), (0, .ref (h 0)), (1, .int (nI k)), (2, .int (nI c))]) (st' := [.int (nI ((dL (stD u37)).length))]) (ws' := HW Y h a u37 O) rfl rfl rfl rfl ?_
          refine J_top (y := .int (nI (((dL (stD S)).length) - (wD (dL (stD S)) k c)))) (by rw [he37, prv_len0 hh]) ?_
          refine J_iload C dL_isProved_113 1 rfl ?_
          refine J_iconst C dL_isProved_115 (v := nI 1) (by decide) ?_
          refine J_icmp_neN (tgt := 124) C dL_isProved_116 (by decide) (by omega) (by omega) (fun cq116 => ?_) (fun cq116 => ?_)
          · refine J_iload C dL_isProved_124 5 rfl ?_
            refine J_iload C dL_isProved_126 4 rfl ?_
            refine J_isubN C dL_isProved_128 (by omega) ?_
            refine J_icmp_ne (tgt := 192) C dL_isProved_129 (by decide) (fun cq129 => ?_) (fun cq129 => ?_)
            · exact absurd rfl cq129
            · refine J_aload_n C dL_isProved_132 rfl 7 rfl ?_
              refine J_callI (wr := []) C (R_V (st := []) (wc := HW Y h a u37 O) C (kV_deals ll Y hl0 h a u37 O b (hG37) (by omega)) (cwV 0 C.t gL_isProved_X4_deals rfl rfl rfl (by decide +kernel) ⟨by decide, by decide⟩) rfl (List.range 49) (HW_all Y h a u37 O) rng_nd49 ⟨0, 4, _, _, rfl, rfl, rfl⟩ rfl (Nat.le_of_ble_eq_true rfl) dL_isProved_133 ⟨Nat.le_of_ble_eq_true rfl, Nat.le_of_ble_eq_true rfl⟩) (List.range 49) [] (HW_all Y h a u37 O) rfl (by decide) (by decide) (fun r133 u133 hw133 => ?_)
              subst hw133
              refine J_eq (pc' := 136) (lv' := [(11, .int (nI 1)), (10, .int (nI 0)), (9, .int (nI (dX (stD S) 10))), (7, .double (shN ((wD (dL (stD S)) k c) * (wD (dL (stD S)) k c) + (((dL (stD S)).length) - (wD (dL (stD S)) k c)) * (((dL (stD S)).length) - (wD (dL (stD S)) k c))) ((dL (stD S)).length))), (6, .int (nI (wD (dL (stD S)) k c))), (5, .int (nI ((dL (stD S)).length))), (3, .long (prF (stD S))), (0, .ref (h 0)), (1, .int (nI k)), (2, .int (nI c))]) (st' := [.int (nI ((dL (stD u37)).length))]) (ws' := HW Y h a u37 O) rfl rfl rfl rfl ?_
              refine J_top (y := .int (nI (((dL (stD S)).length) - (wD (dL (stD S)) k c)))) (by rw [he37, prv_len0 hh]) ?_
              have hl8 := hl9
              rw [prv_len0 hh] at hl8
              refine J_if_leN (tgt := 192) C dL_isProved_136 (by decide) (by omega) (fun cq136 => ?_) (fun cq136 => ?_)
              · exact absurd cq136 (by omega)
              · refine J_aload_n C dL_isProved_139 rfl 7 rfl ?_
                refine J_iconst C dL_isProved_140 (v := nI 3) (by decide) ?_
                refine J_callI (wr := []) C (R_H (st := []) (wc := HW Y h a u37 O) C hXS (kW_value ll Y hl0 h a u37 O b 3 (hG37) (by omega) (by decide)) (vx_cwSW 2 C.t gL_isProved_L_value rfl rfl rfl (by decide +kernel) ⟨by decide, by decide⟩) rfl (List.range 49) (HW_all Y h a u37 O) rng_nd49 rfl (Nat.le_of_ble_eq_true rfl) dL_isProved_141 ⟨Nat.le_of_ble_eq_true rfl, Nat.le_of_ble_eq_true rfl⟩) (List.range 49) [] (HW_all Y h a u37 O) rfl (by decide) (by decide) (fun r141 u141 hw141 => ?_)
                subst hw141
                refine J_eq (pc' := 144) (lv' := [(11, .int (nI 1)), (10, .int (nI 0)), (9, .int (nI (dX (stD S) 10))), (7, .double (shN ((wD (dL (stD S)) k c) * (wD (dL (stD S)) k c) + (((dL (stD S)).length) - (wD (dL (stD S)) k c)) * (((dL (stD S)).length) - (wD (dL (stD S)) k c))) ((dL (stD S)).length))), (6, .int (nI (wD (dL (stD S)) k c))), (5, .int (nI ((dL (stD S)).length))), (3, .long (prF (stD S))), (0, .ref (h 0)), (1, .int (nI k)), (2, .int (nI c))]) (st' := [.int (nI (abH (dX (stD u37)) 3))]) (ws' := HW Y h a u37 O) rfl rfl rfl rfl ?_
                refine J_top (y := .int (nI ((dX (stD S) 10) + 1))) (by rw [he37]; rfl) ?_
                refine J_iload C dL_isProved_144 2 rfl ?_
                refine J_iconst C dL_isProved_146 (v := nI 1) (by decide) ?_
                refine J_iaddN C dL_isProved_147 ?_
                refine J_icmp_ne (tgt := 192) C dL_isProved_148 (by decide) (fun cq148 => ?_) (fun cq148 => ?_)
                · exact absurd rfl cq148
                · refine J_aload_n C dL_isProved_151 rfl 7 rfl ?_
                  refine J_iload_n C dL_isProved_152 rfl 8 rfl ?_
                  refine J_iconst C dL_isProved_153 (v := nI 5) (by decide) ?_
                  refine J_callI (wr := []) C (R_H (st := []) (wc := HW Y h a u37 O) C hXS (kW_guest ll Y hl0 h a u37 O b k 5 (hG37) (by omega) (by rw [he37]; exact hk) (by decide)) (vx_cwSW 3 C.t gL_isProved_L_guest rfl rfl rfl (by decide +kernel) ⟨by decide, by decide⟩) rfl (List.range 49) (HW_all Y h a u37 O) rng_nd49 rfl (Nat.le_of_ble_eq_true rfl) dL_isProved_154 ⟨Nat.le_of_ble_eq_true rfl, Nat.le_of_ble_eq_true rfl⟩) (List.range 49) [] (HW_all Y h a u37 O) rfl (by decide) (by decide) (fun r154 u154 hw154 => ?_)
                  subst hw154
                  refine J_eq (pc' := 157) (lv' := [(11, .int (nI 1)), (10, .int (nI 0)), (9, .int (nI (dX (stD S) 10))), (7, .double (shN ((wD (dL (stD S)) k c) * (wD (dL (stD S)) k c) + (((dL (stD S)).length) - (wD (dL (stD S)) k c)) * (((dL (stD S)).length) - (wD (dL (stD S)) k c))) ((dL (stD S)).length))), (6, .int (nI (wD (dL (stD S)) k c))), (5, .int (nI ((dL (stD S)).length))), (3, .long (prF (stD S))), (0, .ref (h 0)), (1, .int (nI k)), (2, .int (nI c))]) (st' := [.int (nI (abG (dX (stD u37)) (dHd (stD u37)) (dPb (stD u37)) (dAg (stD u37)) (dL (stD u37)) k 5))]) (ws' := HW Y h a u37 O) rfl rfl rfl rfl ?_
                  refine J_top (y := .int (nI (hAt (orL (dL (prvD (stD S) k c))) k))) (by rw [he37]; rfl) ?_
                  refine J_iload_n C dL_isProved_157 rfl 9 rfl ?_
                  refine J_ishrN C dL_isProved_158 (by omega) (Nat.lt_of_lt_of_le (hAt_lt _ _) (by decide)) ?_
                  refine J_iconst C dL_isProved_159 (v := nI 1) (by decide) ?_
                  refine J_iandN C dL_isProved_160 ?_
                  refine J_top (y := .int (nI 0)) (by rw [prv_some (by omega) (by omega) hl9, decide_eq_false hh, if_neg (by decide)]) ?_
                  refine J_iload C dL_isProved_161 1 rfl ?_
                  refine J_icmp_neN (tgt := 192) C dL_isProved_163 (by decide) (by omega) (by omega) (fun cq163 => ?_) (fun cq163 => ?_)
                  · exact absurd cq163 (by omega)
                  · refine J_aload_n C dL_isProved_166 rfl 7 rfl ?_
                    refine J_iload_n C dL_isProved_167 rfl 8 rfl ?_
                    refine J_iconst C dL_isProved_168 (v := nI 4) (by decide) ?_
                    refine J_callI (wr := []) C (R_H (st := []) (wc := HW Y h a u37 O) C hXS (kW_guest ll Y hl0 h a u37 O b k 4 (hG37) (by omega) (by rw [he37]; exact hk) (by decide)) (vx_cwSW 3 C.t gL_isProved_L_guest rfl rfl rfl (by decide +kernel) ⟨by decide, by decide⟩) rfl (List.range 49) (HW_all Y h a u37 O) rng_nd49 rfl (Nat.le_of_ble_eq_true rfl) dL_isProved_169 ⟨Nat.le_of_ble_eq_true rfl, Nat.le_of_ble_eq_true rfl⟩) (List.range 49) [] (HW_all Y h a u37 O) rfl (by decide) (by decide) (fun r169 u169 hw169 => ?_)
                    subst hw169
                    refine J_eq (pc' := 172) (lv' := [(11, .int (nI 1)), (10, .int (nI 0)), (9, .int (nI (dX (stD S) 10))), (7, .double (shN ((wD (dL (stD S)) k c) * (wD (dL (stD S)) k c) + (((dL (stD S)).length) - (wD (dL (stD S)) k c)) * (((dL (stD S)).length) - (wD (dL (stD S)) k c))) ((dL (stD S)).length))), (6, .int (nI (wD (dL (stD S)) k c))), (5, .int (nI ((dL (stD S)).length))), (3, .long (prF (stD S))), (0, .ref (h 0)), (1, .int (nI k)), (2, .int (nI c))]) (st' := [.int (nI (abG (dX (stD u37)) (dHd (stD u37)) (dPb (stD u37)) (dAg (stD u37)) (dL (stD u37)) k 4))]) (ws' := HW Y h a u37 O) rfl rfl rfl rfl ?_
                    refine J_top (y := .int (nI (hAt (andL (dL (prvD (stD S) k c))) k))) (by rw [he37]; exact congrArg (fun q => Value.int (nI q)) (if_neg (by omega))) ?_
                    refine J_iload_n C dL_isProved_172 rfl 9 rfl ?_
                    refine J_ishrN C dL_isProved_173 (by omega) (Nat.lt_of_lt_of_le (hAt_lt _ _) (by decide)) ?_
                    refine J_iconst C dL_isProved_174 (v := nI 1) (by decide) ?_
                    refine J_iandN C dL_isProved_175 ?_
                    refine J_top (y := .int (nI 0)) (by rw [prv_all (by omega) (by omega) hl9, decide_eq_false hh, if_neg (by decide)]) ?_
                    refine J_iload C dL_isProved_176 1 rfl ?_
                    refine J_icmp_neN (tgt := 192) C dL_isProved_178 (by decide) (by omega) (by omega) (fun cq178 => ?_) (fun cq178 => ?_)
                    · exact absurd cq178 (by omega)
                    · refine J_aload_n C dL_isProved_181 rfl 7 rfl ?_
                      refine J_callI (wr := []) C (R_H (st := []) (wc := HW Y h a u37 O) C hXS (kW_undo ll Y hl0 h a u37 O b (hG37) (by omega) (stD S) (hV37) (G_E hG) (b) (G_b hG)) (vx_cwSW 1 C.t gL_isProved_L_undo rfl rfl rfl (by decide +kernel) ⟨by decide, by decide⟩) rfl (List.range 49) (HW_all Y h a u37 O) rng_nd49 rfl (Nat.le_of_ble_eq_true rfl) dL_isProved_182 ⟨Nat.le_of_ble_eq_true rfl, Nat.le_of_ble_eq_true rfl⟩) (List.range 49) [] (HW_all Y h a u37 O) rfl (by decide) (by decide) (fun r182 u182 hw182 => ?_)
                      obtain ⟨rfl, he182, hG182⟩ := hw182
                      refine J_eq (pc' := 185) (lv' := [(11, .int (nI 1)), (10, .int (nI 0)), (9, .int (nI (dX (stD S) 10))), (7, .double (shN ((wD (dL (stD S)) k c) * (wD (dL (stD S)) k c) + (((dL (stD S)).length) - (wD (dL (stD S)) k c)) * (((dL (stD S)).length) - (wD (dL (stD S)) k c))) ((dL (stD S)).length))), (6, .int (nI (wD (dL (stD S)) k c))), (5, .int (nI ((dL (stD S)).length))), (3, .long (prF (stD S))), (0, .ref (h 0)), (1, .int (nI k)), (2, .int (nI c))]) (st' := [.int (nI (stSc u37 - 1))]) (ws' := HW Y h a u182 O) rfl rfl rfl rfl ?_
                      refine J_if_ltN (tgt := 192) C dL_isProved_185 (by decide) (by have := G_sc hG37; omega) ?_
                      refine J_iconst C dL_isProved_188 (v := nI 1) (by decide) ?_
                      refine J_goto (tgt := 193) C dL_isProved_189 (by decide) ?_
                      refine J_istore (lv' := [(11, .int (nI 1)), (10, .int (nI 0)), (9, .int (nI (dX (stD S) 10))), (7, .double (shN ((wD (dL (stD S)) k c) * (wD (dL (stD S)) k c) + (((dL (stD S)).length) - (wD (dL (stD S)) k c)) * (((dL (stD S)).length) - (wD (dL (stD S)) k c))) ((dL (stD S)).length))), (6, .int (nI (wD (dL (stD S)) k c))), (5, .int (nI ((dL (stD S)).length))), (3, .long (prF (stD S))), (0, .ref (h 0)), (1, .int (nI k)), (2, .int (nI c))]) C dL_isProved_193 (by decide) rfl ?_
                      refine J_iload C dL_isProved_195 0 rfl ?_
                      refine J_if_eqN (tgt := 213) C dL_isProved_197 (by decide) (by omega) (fun cq197 => ?_) (fun cq197 => ?_)
                      · exact absurd cq197 (by omega)
                      · refine J_aload_n C dL_isProved_200 rfl 7 rfl ?_
                        refine J_callL (wr := []) C (R_P (st := []) (wc := HW Y h a u182 O) C hXS (kO_print ll Y hl0 h a u182 O b (hG182) (by omega)) (va_cwS 1 C.t gL_isProved_L_print rfl rfl rfl (by decide +kernel) ⟨by decide, by decide⟩) rfl (List.range 49) (HW_all Y h a u182 O) rng_nd49 rfl (Nat.le_of_ble_eq_true rfl) dL_isProved_201 ⟨Nat.le_of_ble_eq_true rfl, Nat.le_of_ble_eq_true rfl⟩) (List.range 49) [] (HW_all Y h a u182 O) rfl (by decide) (by decide) (fun r201 u201 hw201 => ?_)
                        subst hw201
                        refine J_eq (pc' := 204) (lv' := [(11, .int (nI 1)), (10, .int (nI 0)), (9, .int (nI (dX (stD S) 10))), (7, .double (shN ((wD (dL (stD S)) k c) * (wD (dL (stD S)) k c) + (((dL (stD S)).length) - (wD (dL (stD S)) k c)) * (((dL (stD S)).length) - (wD (dL (stD S)) k c))) ((dL (stD S)).length))), (6, .int (nI (wD (dL (stD S)) k c))), (5, .int (nI ((dL (stD S)).length))), (3, .long (prF (stD S))), (0, .ref (h 0)), (1, .int (nI k)), (2, .int (nI c))]) (st' := [.long (prF (stD u182))]) (ws' := HW Y h a u182 O) rfl rfl rfl rfl ?_
                        refine J_top (y := .long (prF (stD S))) (by rw [he182]) ?_
                        refine J_lload_n C dL_isProved_204 rfl 6 rfl ?_
                        refine J_lcmp C dL_isProved_205 ?_
                        refine J_top (y := .int (nI 0)) (by rw [lcs]) ?_
                        refine J_if_neN (tgt := 213) C dL_isProved_206 (by decide) (by omega) (fun cq206 => ?_) (fun cq206 => ?_)
                        · exact absurd cq206 (by omega)
                        · refine J_iconst C dL_isProved_209 (v := nI 1) (by decide) ?_
                          refine J_goto (tgt := 214) C dL_isProved_210 (by decide) ?_
                          refine J_wd (k' := 161) (n' := 966) (Nat.le_of_ble_eq_true rfl) (Nat.le_of_ble_eq_true rfl) ?_
                          exact J_zret C hr (by decide) dL_isProved_214 u182 (⟨rfl, he182, hG182⟩) (rfl)
          · exact absurd cq116 (by omega)
      · exact absurd cq81 (by decide +kernel)
  · have hn4 := EI_4 (G_E hG)
    have hL5 := EI_len (G_E hG)
    have hwl := wD_le (dL (stD S)) k c
    have hl1 := E1_len (EI_y (G_E hG) (by omega))
    refine J_aload_n C dL_isProved_0 rfl 0 rfl ?_
    refine J_callL (wr := []) C (R_P (st := []) (wc := HW Y h a S O) C hXS (kO_print ll Y hl0 h a S O b (hG) (by omega)) (va_cwS 1 C.t gL_isProved_L_print rfl rfl rfl (by decide +kernel) ⟨by decide, by decide⟩) rfl (List.range 49) (HW_all Y h a S O) rng_nd49 rfl (Nat.le_of_ble_eq_true rfl) dL_isProved_1 ⟨Nat.le_of_ble_eq_true rfl, Nat.le_of_ble_eq_true rfl⟩) (List.range 49) [] (HW_all Y h a S O) rfl (by decide) (by decide) (fun r1 u1 hw1 => ?_)
    subst hw1
    refine J_eq (pc' := 4) (lv' := [(0, .ref (h 0)), (1, .int (nI k)), (2, .int (nI c))]) (st' := [.long (prF (stD S))]) (ws' := HW Y h a S O) rfl rfl rfl rfl ?_
    refine J_lstore_n (lv' := [(3, .long (prF (stD S))), (0, .ref (h 0)), (1, .int (nI k)), (2, .int (nI c))]) C dL_isProved_4 rfl (by decide) rfl ?_
    refine J_aload_n C dL_isProved_5 rfl 1 rfl ?_
    refine J_callI (wr := []) C (R_V (st := []) (wc := HW Y h a S O) C (kV_deals ll Y hl0 h a S O b (hG) (by omega)) (cwV 0 C.t gL_isProved_X4_deals rfl rfl rfl (by decide +kernel) ⟨by decide, by decide⟩) rfl (List.range 49) (HW_all Y h a S O) rng_nd49 ⟨0, 4, _, _, rfl, rfl, rfl⟩ rfl (Nat.le_of_ble_eq_true rfl) dL_isProved_6 ⟨Nat.le_of_ble_eq_true rfl, Nat.le_of_ble_eq_true rfl⟩) (List.range 49) [] (HW_all Y h a S O) rfl (by decide) (by decide) (fun r6 u6 hw6 => ?_)
    subst hw6
    refine J_eq (pc' := 9) (lv' := [(3, .long (prF (stD S))), (0, .ref (h 0)), (1, .int (nI k)), (2, .int (nI c))]) (st' := [.int (nI ((dL (stD S)).length))]) (ws' := HW Y h a S O) rfl rfl rfl rfl ?_
    refine J_top (y := .int (nI ((dL (stD S)).length))) (rfl) ?_
    refine J_istore (lv' := [(5, .int (nI ((dL (stD S)).length))), (3, .long (prF (stD S))), (0, .ref (h 0)), (1, .int (nI k)), (2, .int (nI c))]) C dL_isProved_9 (by decide) rfl ?_
    refine J_aload_n C dL_isProved_11 rfl 2 rfl ?_
    refine J_iload_n C dL_isProved_12 rfl 3 rfl ?_
    refine J_iload_n C dL_isProved_13 rfl 4 rfl ?_
    refine J_callI (wr := []) C (R_H (st := []) (wc := HW Y h a S O) C hXS (kW_dealsHeld ll Y hl0 h a S O b k c (hG) (by omega) (hk) (hc)) (vx_cwSW 3 C.t gL_isProved_L_dealsHeld rfl rfl rfl (by decide +kernel) ⟨by decide, by decide⟩) rfl (List.range 49) (HW_all Y h a S O) rng_nd49 rfl (Nat.le_of_ble_eq_true rfl) dL_isProved_14 ⟨Nat.le_of_ble_eq_true rfl, Nat.le_of_ble_eq_true rfl⟩) (List.range 49) [] (HW_all Y h a S O) rfl (by decide) (by decide) (fun r14 u14 hw14 => ?_)
    subst hw14
    refine J_eq (pc' := 17) (lv' := [(5, .int (nI ((dL (stD S)).length))), (3, .long (prF (stD S))), (0, .ref (h 0)), (1, .int (nI k)), (2, .int (nI c))]) (st' := [.int (nI ((dL (stD S)).countP (fun d => d.testBit (8 * k + c))))]) (ws' := HW Y h a S O) rfl rfl rfl rfl ?_
    refine J_top (y := .int (nI (wD (dL (stD S)) k c))) (rfl) ?_
    refine J_istore (lv' := [(6, .int (nI (wD (dL (stD S)) k c))), (5, .int (nI ((dL (stD S)).length))), (3, .long (prF (stD S))), (0, .ref (h 0)), (1, .int (nI k)), (2, .int (nI c))]) C dL_isProved_17 (by decide) rfl ?_
    refine J_aload_n C dL_isProved_19 rfl 3 rfl ?_
    refine J_iload_n C dL_isProved_20 rfl 4 rfl ?_
    refine J_iload_n C dL_isProved_21 rfl 5 rfl ?_
    refine J_callD (wr := []) C (R_H (st := []) (wc := HW Y h a S O) C hXS (kW_leftByProof ll Y hl0 h a S O b k c (hG) (by omega) (hk) (hc)) (vx_cwSW 3 C.t gL_isProved_L_leftByProof rfl rfl rfl (by decide +kernel) ⟨by decide, by decide⟩) rfl (List.range 49) (HW_all Y h a S O) rng_nd49 rfl (Nat.le_of_ble_eq_true rfl) dL_isProved_22 ⟨Nat.le_of_ble_eq_true rfl, Nat.le_of_ble_eq_true rfl⟩) (List.range 49) [] (HW_all Y h a S O) rfl (by decide) (by decide) (fun r22 u22 hw22 => ?_)
    obtain hw22 := hw22
    refine J_eq (pc' := 25) (lv' := [(6, .int (nI (wD (dL (stD S)) k c))), (5, .int (nI ((dL (stD S)).length))), (3, .long (prF (stD S))), (0, .ref (h 0)), (1, .int (nI k)), (2, .int (nI c))]) (st' := [.double r22]) (ws' := HW Y h a S O) rfl rfl rfl rfl ?_
    refine J_top (y := .double (shN ((wD (dL (stD S)) k c) * (wD (dL (stD S)) k c) + (((dL (stD S)).length) - (wD (dL (stD S)) k c)) * (((dL (stD S)).length) - (wD (dL (stD S)) k c))) ((dL (stD S)).length))) (by rw [show r22 = shN ((wD (dL (stD S)) k c) * (wD (dL (stD S)) k c) + (((dL (stD S)).length) - (wD (dL (stD S)) k c)) * (((dL (stD S)).length) - (wD (dL (stD S)) k c))) ((dL (stD S)).length) from hw22]) ?_
    refine J_dstore (lv' := [(7, .double (shN ((wD (dL (stD S)) k c) * (wD (dL (stD S)) k c) + (((dL (stD S)).length) - (wD (dL (stD S)) k c)) * (((dL (stD S)).length) - (wD (dL (stD S)) k c))) ((dL (stD S)).length))), (6, .int (nI (wD (dL (stD S)) k c))), (5, .int (nI ((dL (stD S)).length))), (3, .long (prF (stD S))), (0, .ref (h 0)), (1, .int (nI k)), (2, .int (nI c))]) C dL_isProved_25 (by decide) rfl ?_
    refine J_aload_n C dL_isProved_27 rfl 4 rfl ?_
    refine J_iconst C dL_isProved_28 (v := nI 3) (by decide) ?_
    refine J_callI (wr := []) C (R_H (st := []) (wc := HW Y h a S O) C hXS (kW_value ll Y hl0 h a S O b 3 (hG) (by omega) (by decide)) (vx_cwSW 2 C.t gL_isProved_L_value rfl rfl rfl (by decide +kernel) ⟨by decide, by decide⟩) rfl (List.range 49) (HW_all Y h a S O) rng_nd49 rfl (Nat.le_of_ble_eq_true rfl) dL_isProved_29 ⟨Nat.le_of_ble_eq_true rfl, Nat.le_of_ble_eq_true rfl⟩) (List.range 49) [] (HW_all Y h a S O) rfl (by decide) (by decide) (fun r29 u29 hw29 => ?_)
    subst hw29
    refine J_eq (pc' := 32) (lv' := [(7, .double (shN ((wD (dL (stD S)) k c) * (wD (dL (stD S)) k c) + (((dL (stD S)).length) - (wD (dL (stD S)) k c)) * (((dL (stD S)).length) - (wD (dL (stD S)) k c))) ((dL (stD S)).length))), (6, .int (nI (wD (dL (stD S)) k c))), (5, .int (nI ((dL (stD S)).length))), (3, .long (prF (stD S))), (0, .ref (h 0)), (1, .int (nI k)), (2, .int (nI c))]) (st' := [.int (nI (abH (dX (stD S)) 3))]) (ws' := HW Y h a S O) rfl rfl rfl rfl ?_
    refine J_top (y := .int (nI (dX (stD S) 10))) (rfl) ?_
    refine J_istore (lv' := [(9, .int (nI (dX (stD S) 10))), (7, .double (shN ((wD (dL (stD S)) k c) * (wD (dL (stD S)) k c) + (((dL (stD S)).length) - (wD (dL (stD S)) k c)) * (((dL (stD S)).length) - (wD (dL (stD S)) k c))) ((dL (stD S)).length))), (6, .int (nI (wD (dL (stD S)) k c))), (5, .int (nI ((dL (stD S)).length))), (3, .long (prF (stD S))), (0, .ref (h 0)), (1, .int (nI k)), (2, .int (nI c))]) C dL_isProved_32 (by decide) rfl ?_
    refine J_aload_n C dL_isProved_34 rfl 5 rfl ?_
    refine J_iload_n C dL_isProved_35 rfl 6 rfl ?_
    refine J_iload_n C dL_isProved_36 rfl 7 rfl ?_
    refine J_callI (wr := []) C (R_H (st := []) (wc := HW Y h a S O) C hXS (kW_prove_x2 ll Y hl0 h a S O b k c (hG) (by omega) (hk) (hc) (hcan)) (vx_cwSW 3 C.t gL_isProved_L_prove rfl rfl rfl (by decide +kernel) ⟨by decide, by decide⟩) rfl (List.range 49) (HW_all Y h a S O) rng_nd49 rfl (Nat.le_of_ble_eq_true rfl) dL_isProved_37 ⟨Nat.le_of_ble_eq_true rfl, Nat.le_of_ble_eq_true rfl⟩) (List.range 49) [] (HW_all Y h a S O) rfl (by decide) (by decide) (fun r37 u37 hw37 => ?_)
    subst hw37
    refine J_eq (pc' := 40) (lv' := [(9, .int (nI (dX (stD S) 10))), (7, .double (shN ((wD (dL (stD S)) k c) * (wD (dL (stD S)) k c) + (((dL (stD S)).length) - (wD (dL (stD S)) k c)) * (((dL (stD S)).length) - (wD (dL (stD S)) k c))) ((dL (stD S)).length))), (6, .int (nI (wD (dL (stD S)) k c))), (5, .int (nI ((dL (stD S)).length))), (3, .long (prF (stD S))), (0, .ref (h 0)), (1, .int (nI k)), (2, .int (nI c))]) (st' := [.int ((-5000002))]) (ws' := HW Y h a S O) rfl rfl rfl rfl ?_
    refine J_istore (lv' := [(10, .int ((-5000002))), (9, .int (nI (dX (stD S) 10))), (7, .double (shN ((wD (dL (stD S)) k c) * (wD (dL (stD S)) k c) + (((dL (stD S)).length) - (wD (dL (stD S)) k c)) * (((dL (stD S)).length) - (wD (dL (stD S)) k c))) ((dL (stD S)).length))), (6, .int (nI (wD (dL (stD S)) k c))), (5, .int (nI ((dL (stD S)).length))), (3, .long (prF (stD S))), (0, .ref (h 0)), (1, .int (nI k)), (2, .int (nI c))]) C dL_isProved_40 (by decide) rfl ?_
    refine J_dload C dL_isProved_42 2 rfl ?_
    refine J_iload C dL_isProved_44 3 rfl ?_
    refine J_iload C dL_isProved_46 3 rfl ?_
    refine J_imulN C dL_isProved_48 ?_
    refine J_iload C dL_isProved_49 4 rfl ?_
    refine J_iload C dL_isProved_51 3 rfl ?_
    refine J_isubN C dL_isProved_53 (by omega) ?_
    refine J_iload C dL_isProved_54 4 rfl ?_
    refine J_iload C dL_isProved_56 3 rfl ?_
    refine J_isubN C dL_isProved_58 (by omega) ?_
    refine J_imulN C dL_isProved_59 ?_
    refine J_iaddN C dL_isProved_60 ?_
    refine J_i2d C dL_isProved_61 ?_
    refine J_iload C dL_isProved_62 4 rfl ?_
    refine J_i2d C dL_isProved_64 ?_
    refine J_ddiv C dL_isProved_65 (ddiv_nn _ (by omega) hL5) ?_
    refine J_top (y := .double (shN ((wD (dL (stD S)) k c) * (wD (dL (stD S)) k c) + (((dL (stD S)).length) - (wD (dL (stD S)) k c)) * (((dL (stD S)).length) - (wD (dL (stD S)) k c))) ((dL (stD S)).length))) (by rw [sh_n (by omega)]) ?_
    refine J_dcmpl C dL_isProved_66 ?_
    refine J_top (y := .int (nI 0)) (by rw [dcs (shN_dec _ hL5)]) ?_
    refine J_if_neN (tgt := 74) C dL_isProved_67 (by decide) (by omega) (fun cq67 => ?_) (fun cq67 => ?_)
    · exact absurd cq67 (by omega)
    · refine J_iconst C dL_isProved_70 (v := nI 1) (by decide) ?_
      refine J_goto (tgt := 75) C dL_isProved_71 (by decide) ?_
      refine J_istore (lv' := [(11, .int (nI 1)), (10, .int ((-5000002))), (9, .int (nI (dX (stD S) 10))), (7, .double (shN ((wD (dL (stD S)) k c) * (wD (dL (stD S)) k c) + (((dL (stD S)).length) - (wD (dL (stD S)) k c)) * (((dL (stD S)).length) - (wD (dL (stD S)) k c))) ((dL (stD S)).length))), (6, .int (nI (wD (dL (stD S)) k c))), (5, .int (nI ((dL (stD S)).length))), (3, .long (prF (stD S))), (0, .ref (h 0)), (1, .int (nI k)), (2, .int (nI c))]) C dL_isProved_75 (by decide) rfl ?_
      refine J_iload C dL_isProved_77 1 rfl ?_
      refine J_ldc C dL_isProved_79 (v := (-5000002)) w0 ?_
      refine J_icmp_ne (tgt := 104) C dL_isProved_81 (by decide) (fun cq81 => ?_) (fun cq81 => ?_)
      · exact absurd rfl cq81
      · refine J_iload C dL_isProved_84 0 rfl ?_
        refine J_if_eqN (tgt := 102) C dL_isProved_86 (by decide) (by omega) (fun cq86 => ?_) (fun cq86 => ?_)
        · exact absurd cq86 (by omega)
        · refine J_aload_n C dL_isProved_89 rfl 7 rfl ?_
          refine J_callL (wr := []) C (R_P (st := []) (wc := HW Y h a S O) C hXS (kO_print ll Y hl0 h a S O b (hG) (by omega)) (va_cwS 1 C.t gL_isProved_L_print rfl rfl rfl (by decide +kernel) ⟨by decide, by decide⟩) rfl (List.range 49) (HW_all Y h a S O) rng_nd49 rfl (Nat.le_of_ble_eq_true rfl) dL_isProved_90 ⟨Nat.le_of_ble_eq_true rfl, Nat.le_of_ble_eq_true rfl⟩) (List.range 49) [] (HW_all Y h a S O) rfl (by decide) (by decide) (fun r90 u90 hw90 => ?_)
          subst hw90
          refine J_eq (pc' := 93) (lv' := [(11, .int (nI 1)), (10, .int ((-5000002))), (9, .int (nI (dX (stD S) 10))), (7, .double (shN ((wD (dL (stD S)) k c) * (wD (dL (stD S)) k c) + (((dL (stD S)).length) - (wD (dL (stD S)) k c)) * (((dL (stD S)).length) - (wD (dL (stD S)) k c))) ((dL (stD S)).length))), (6, .int (nI (wD (dL (stD S)) k c))), (5, .int (nI ((dL (stD S)).length))), (3, .long (prF (stD S))), (0, .ref (h 0)), (1, .int (nI k)), (2, .int (nI c))]) (st' := [.long (prF (stD S))]) (ws' := HW Y h a S O) rfl rfl rfl rfl ?_
          refine J_lload_n C dL_isProved_93 rfl 6 rfl ?_
          refine J_lcmp C dL_isProved_94 ?_
          refine J_top (y := .int (nI 0)) (by rw [lcs]) ?_
          refine J_if_neN (tgt := 102) C dL_isProved_95 (by decide) (by omega) (fun cq95 => ?_) (fun cq95 => ?_)
          · exact absurd cq95 (by omega)
          · refine J_iconst C dL_isProved_98 (v := nI 1) (by decide) ?_
            refine J_goto (tgt := 103) C dL_isProved_99 (by decide) ?_
            exact J_zret C hr (by decide) dL_isProved_103 S (⟨rfl, rfl, hG⟩) (rfl)

set_option maxHeartbeats 4000000 in
set_option maxRecDepth 100000 in
theorem kO_isAccused (ll : Launch) (Y : GY) (hl0 : ll.stackTraces = false) (h : Nat → Nat) (a : Nat → Nat) (S : ST) (O : OT) (b : Nat) (c : Nat) (hG : G b S) (hbd : b ≤ 1000) (hc : c ≤ 7) (hb1 : b + 1 ≤ 1000) : CH ll yL_isAccused wsL_isAccused { frames := 9, cells := 160, slots := 960, locals := 266 } Y [.ref (h 0), .int (nI c)] (HW Y h a S O) (QI (S := ST) Y (fun (r : Int32) (v : ST) => r = nI 1 ∧ stD v = stD S ∧ G b v) (fun (u : ST) => HW Y h a u O)) 160 960 := by
  refine CP_of (cc := cL_isAccused) (maxL := 12) (ret := (some .boolean)) (by decide) rfl (Nat.le_of_ble_eq_true rfl) ?_
  intro pp ee ss mm bl mt cc AA C hr hXS
  refine J_eq (lv' := [(0, .ref (h 0)), (1, .int (nI c))]) (ws' := HW Y h a S O) rfl rfl rfl rfl ?_
  rcases (show (dX (stD S) 2 = 1 ∧ c = dX (stD S) 3) ∨ (dX (stD S) 2 = 1 ∧ ¬ c = dX (stD S) 3) ∨ dX (stD S) 2 = 0 by have := EI_2 (G_E hG); omega) with ⟨hgo, hcc⟩ | ⟨hgo, hcc⟩ | hgo
  · have hn4 := EI_4 (G_E hG)
    have hm20 := EI_12 (G_E hG)
    have hc8 := (G_E hG).1.2.2.1
    have h4b := G_b hG
    have hE := EI_g (G_E hG) hgo
    refine J_aload_n C dL_isAccused_0 rfl 0 rfl ?_
    refine J_iconst C dL_isAccused_1 (v := nI 1) (by decide) ?_
    refine J_callI (wr := []) C (R_H (st := []) (wc := HW Y h a S O) C hXS (kW_value ll Y hl0 h a S O b 1 (hG) (by omega) (by decide)) (vx_cwSW 2 C.t gL_isAccused_L_value rfl rfl rfl (by decide +kernel) ⟨by decide, by decide⟩) rfl (List.range 49) (HW_all Y h a S O) rng_nd49 rfl (Nat.le_of_ble_eq_true rfl) dL_isAccused_2 ⟨Nat.le_of_ble_eq_true rfl, Nat.le_of_ble_eq_true rfl⟩) (List.range 49) [] (HW_all Y h a S O) rfl (by decide) (by decide) (fun r2 u2 hw2 => ?_)
    subst hw2
    refine J_eq (pc' := 5) (lv' := [(0, .ref (h 0)), (1, .int (nI c))]) (st' := [.int (nI (abH (dX (stD S)) 1))]) (ws' := HW Y h a S O) rfl rfl rfl rfl ?_
    refine J_top (y := .int (nI 1)) (by rw [show abH (dX (stD S)) 1 = dX (stD S) 2 from rfl, hgo]) ?_
    refine J_if_neN (tgt := 10) C dL_isAccused_5 (by decide) (by omega) (fun cq5 => ?_) (fun cq5 => ?_)
    · refine J_aload_n C dL_isAccused_10 rfl 0 rfl ?_
      refine J_callL (wr := []) C (R_P (st := []) (wc := HW Y h a S O) C hXS (kO_print ll Y hl0 h a S O b (hG) (by omega)) (va_cwS 1 C.t gL_isAccused_L_print rfl rfl rfl (by decide +kernel) ⟨by decide, by decide⟩) rfl (List.range 49) (HW_all Y h a S O) rng_nd49 rfl (Nat.le_of_ble_eq_true rfl) dL_isAccused_11 ⟨Nat.le_of_ble_eq_true rfl, Nat.le_of_ble_eq_true rfl⟩) (List.range 49) [] (HW_all Y h a S O) rfl (by decide) (by decide) (fun r11 u11 hw11 => ?_)
      subst hw11
      refine J_eq (pc' := 14) (lv' := [(0, .ref (h 0)), (1, .int (nI c))]) (st' := [.long (prF (stD S))]) (ws' := HW Y h a S O) rfl rfl rfl rfl ?_
      refine J_lstore_n (lv' := [(2, .long (prF (stD S))), (0, .ref (h 0)), (1, .int (nI c))]) C dL_isAccused_14 rfl (by decide) rfl ?_
      refine J_aload_n C dL_isAccused_15 rfl 1 rfl ?_
      refine J_bipush C dL_isAccused_16 (v := nI 6) (by decide) ?_
      refine J_callI (wr := []) C (R_H (st := []) (wc := HW Y h a S O) C hXS (kW_value ll Y hl0 h a S O b 6 (hG) (by omega) (by decide)) (vx_cwSW 2 C.t gL_isAccused_L_value rfl rfl rfl (by decide +kernel) ⟨by decide, by decide⟩) rfl (List.range 49) (HW_all Y h a S O) rng_nd49 rfl (Nat.le_of_ble_eq_true rfl) dL_isAccused_18 ⟨Nat.le_of_ble_eq_true rfl, Nat.le_of_ble_eq_true rfl⟩) (List.range 49) [] (HW_all Y h a S O) rfl (by decide) (by decide) (fun r18 u18 hw18 => ?_)
      subst hw18
      refine J_eq (pc' := 21) (lv' := [(2, .long (prF (stD S))), (0, .ref (h 0)), (1, .int (nI c))]) (st' := [.int (nI (abH (dX (stD S)) 6))]) (ws' := HW Y h a S O) rfl rfl rfl rfl ?_
      refine J_top (y := .int (nI (dX (stD S) 6))) (rfl) ?_
      refine J_istore (lv' := [(4, .int (nI (dX (stD S) 6))), (2, .long (prF (stD S))), (0, .ref (h 0)), (1, .int (nI c))]) C dL_isAccused_21 (by decide) rfl ?_
      refine J_aload_n C dL_isAccused_23 rfl 2 rfl ?_
      refine J_iconst C dL_isAccused_24 (v := nI 5) (by decide) ?_
      refine J_callI (wr := []) C (R_H (st := []) (wc := HW Y h a S O) C hXS (kW_value ll Y hl0 h a S O b 5 (hG) (by omega) (by decide)) (vx_cwSW 2 C.t gL_isAccused_L_value rfl rfl rfl (by decide +kernel) ⟨by decide, by decide⟩) rfl (List.range 49) (HW_all Y h a S O) rng_nd49 rfl (Nat.le_of_ble_eq_true rfl) dL_isAccused_25 ⟨Nat.le_of_ble_eq_true rfl, Nat.le_of_ble_eq_true rfl⟩) (List.range 49) [] (HW_all Y h a S O) rfl (by decide) (by decide) (fun r25 u25 hw25 => ?_)
      subst hw25
      refine J_eq (pc' := 28) (lv' := [(4, .int (nI (dX (stD S) 6))), (2, .long (prF (stD S))), (0, .ref (h 0)), (1, .int (nI c))]) (st' := [.int (nI (abH (dX (stD S)) 5))]) (ws' := HW Y h a S O) rfl rfl rfl rfl ?_
      refine J_top (y := .int (nI (dX (stD S) 5))) (rfl) ?_
      refine J_istore (lv' := [(5, .int (nI (dX (stD S) 5))), (4, .int (nI (dX (stD S) 6))), (2, .long (prF (stD S))), (0, .ref (h 0)), (1, .int (nI c))]) C dL_isAccused_28 (by decide) rfl ?_
      refine J_aload_n C dL_isAccused_30 rfl 3 rfl ?_
      refine J_iconst C dL_isAccused_31 (v := nI 4) (by decide) ?_
      refine J_callI (wr := []) C (R_H (st := []) (wc := HW Y h a S O) C hXS (kW_value ll Y hl0 h a S O b 4 (hG) (by omega) (by decide)) (vx_cwSW 2 C.t gL_isAccused_L_value rfl rfl rfl (by decide +kernel) ⟨by decide, by decide⟩) rfl (List.range 49) (HW_all Y h a S O) rng_nd49 rfl (Nat.le_of_ble_eq_true rfl) dL_isAccused_32 ⟨Nat.le_of_ble_eq_true rfl, Nat.le_of_ble_eq_true rfl⟩) (List.range 49) [] (HW_all Y h a S O) rfl (by decide) (by decide) (fun r32 u32 hw32 => ?_)
      subst hw32
      refine J_eq (pc' := 35) (lv' := [(5, .int (nI (dX (stD S) 5))), (4, .int (nI (dX (stD S) 6))), (2, .long (prF (stD S))), (0, .ref (h 0)), (1, .int (nI c))]) (st' := [.int (nI (abH (dX (stD S)) 4))]) (ws' := HW Y h a S O) rfl rfl rfl rfl ?_
      refine J_top (y := .int (nI (dX (stD S) 4))) (rfl) ?_
      refine J_istore (lv' := [(6, .int (nI (dX (stD S) 4))), (5, .int (nI (dX (stD S) 5))), (4, .int (nI (dX (stD S) 6))), (2, .long (prF (stD S))), (0, .ref (h 0)), (1, .int (nI c))]) C dL_isAccused_35 (by decide) rfl ?_
      refine J_aload_n C dL_isAccused_37 rfl 4 rfl ?_
      refine J_callI (wr := []) C (R_V (st := []) (wc := HW Y h a S O) C (kV_culprits ll Y hl0 h a S O b (hG) (by omega)) (cwV 0 C.t gL_isAccused_X4_culprits rfl rfl rfl (by decide +kernel) ⟨by decide, by decide⟩) rfl (List.range 49) (HW_all Y h a S O) rng_nd49 ⟨0, 4, _, _, rfl, rfl, rfl⟩ rfl (Nat.le_of_ble_eq_true rfl) dL_isAccused_38 ⟨Nat.le_of_ble_eq_true rfl, Nat.le_of_ble_eq_true rfl⟩) (List.range 49) [] (HW_all Y h a S O) rfl (by decide) (by decide) (fun r38 u38 hw38 => ?_)
      subst hw38
      refine J_eq (pc' := 41) (lv' := [(6, .int (nI (dX (stD S) 4))), (5, .int (nI (dX (stD S) 5))), (4, .int (nI (dX (stD S) 6))), (2, .long (prF (stD S))), (0, .ref (h 0)), (1, .int (nI c))]) (st' := [.int (nI (hAt (orL (dL (stD S))) 4))]) (ws' := HW Y h a S O) rfl rfl rfl rfl ?_
      refine J_istore (lv' := [(7, .int (nI (hAt (orL (dL (stD S))) 4))), (6, .int (nI (dX (stD S) 4))), (5, .int (nI (dX (stD S) 5))), (4, .int (nI (dX (stD S) 6))), (2, .long (prF (stD S))), (0, .ref (h 0)), (1, .int (nI c))]) C dL_isAccused_41 (by decide) rfl ?_
      refine J_aload_n C dL_isAccused_43 rfl 5 rfl ?_
      refine J_iload_n C dL_isAccused_44 rfl 6 rfl ?_
      refine J_callI (wr := []) C (R_H (st := []) (wc := HW Y h a S O) C hXS (kW_accuse ll Y hl0 h a S O b c (hG) (by omega) (hc) (hgo)) (vx_cwSW 2 C.t gL_isAccused_L_accuse rfl rfl rfl (by decide +kernel) ⟨by decide, by decide⟩) rfl (List.range 49) (HW_all Y h a S O) rng_nd49 rfl (Nat.le_of_ble_eq_true rfl) dL_isAccused_45 ⟨Nat.le_of_ble_eq_true rfl, Nat.le_of_ble_eq_true rfl⟩) (List.range 49) [] (HW_all Y h a S O) rfl (by decide) (by decide) (fun r45 u45 hw45 => ?_)
      obtain ⟨rfl, he45, hG45, hV45⟩ := hw45
      refine J_eq (pc' := 48) (lv' := [(7, .int (nI (hAt (orL (dL (stD S))) 4))), (6, .int (nI (dX (stD S) 4))), (5, .int (nI (dX (stD S) 5))), (4, .int (nI (dX (stD S) 6))), (2, .long (prF (stD S))), (0, .ref (h 0)), (1, .int (nI c))]) (st' := [.int (nI ((dX (stD S)) 3))]) (ws' := HW Y h a u45 O) rfl rfl rfl rfl ?_
      refine J_top (y := .int (nI (dX (stD S) 3))) (rfl) ?_
      refine J_istore (lv' := [(8, .int (nI (dX (stD S) 3))), (7, .int (nI (hAt (orL (dL (stD S))) 4))), (6, .int (nI (dX (stD S) 4))), (5, .int (nI (dX (stD S) 5))), (4, .int (nI (dX (stD S) 6))), (2, .long (prF (stD S))), (0, .ref (h 0)), (1, .int (nI c))]) C dL_isAccused_48 (by decide) rfl ?_
      refine J_iload C dL_isAccused_50 1 rfl ?_
      refine J_iload C dL_isAccused_52 0 rfl ?_
      refine J_ishrN C dL_isAccused_54 (by omega) (Nat.lt_of_lt_of_le (hAt_lt _ _) (by decide)) ?_
      refine J_iconst C dL_isAccused_55 (v := nI 1) (by decide) ?_
      refine J_iandN C dL_isAccused_56 ?_
      refine J_top (y := .int (nI 1)) (by rw [cul_in hE hc8]) ?_
      refine J_iconst C dL_isAccused_57 (v := nI 1) (by decide) ?_
      refine J_icmp_neN (tgt := 156) C dL_isAccused_58 (by decide) (by omega) (by omega) (fun cq58 => ?_) (fun cq58 => ?_)
      · exact absurd cq58 (by omega)
      · refine J_aload_n C dL_isAccused_61 rfl 6 rfl ?_
        refine J_bipush C dL_isAccused_62 (v := nI 9) (by decide) ?_
        refine J_callI (wr := []) C (R_H (st := []) (wc := HW Y h a u45 O) C hXS (kW_value ll Y hl0 h a u45 O ((b + 1)) 9 (hG45) (by omega) (by decide)) (vx_cwSW 2 C.t gL_isAccused_L_value rfl rfl rfl (by decide +kernel) ⟨by decide, by decide⟩) rfl (List.range 49) (HW_all Y h a u45 O) rng_nd49 rfl (Nat.le_of_ble_eq_true rfl) dL_isAccused_64 ⟨Nat.le_of_ble_eq_true rfl, Nat.le_of_ble_eq_true rfl⟩) (List.range 49) [] (HW_all Y h a u45 O) rfl (by decide) (by decide) (fun r64 u64 hw64 => ?_)
        subst hw64
        refine J_eq (pc' := 67) (lv' := [(8, .int (nI (dX (stD S) 3))), (7, .int (nI (hAt (orL (dL (stD S))) 4))), (6, .int (nI (dX (stD S) 4))), (5, .int (nI (dX (stD S) 5))), (4, .int (nI (dX (stD S) 6))), (2, .long (prF (stD S))), (0, .ref (h 0)), (1, .int (nI c))]) (st' := [.int (nI (abH (dX (stD u45)) 9))]) (ws' := HW Y h a u45 O) rfl rfl rfl rfl ?_
        refine J_top (y := .int (nI (dX (stD S) 3))) (by rw [he45, ac_9]) ?_
        refine J_iload C dL_isAccused_67 0 rfl ?_
        refine J_icmp_ne (tgt := 156) C dL_isAccused_69 (by decide) (fun cq69 => ?_) (fun cq69 => ?_)
        · exact absurd rfl cq69
        · refine J_aload_n C dL_isAccused_72 rfl 6 rfl ?_
          refine J_iconst C dL_isAccused_73 (v := nI 4) (by decide) ?_
          refine J_callI (wr := []) C (R_H (st := []) (wc := HW Y h a u45 O) C hXS (kW_value ll Y hl0 h a u45 O ((b + 1)) 4 (hG45) (by omega) (by decide)) (vx_cwSW 2 C.t gL_isAccused_L_value rfl rfl rfl (by decide +kernel) ⟨by decide, by decide⟩) rfl (List.range 49) (HW_all Y h a u45 O) rng_nd49 rfl (Nat.le_of_ble_eq_true rfl) dL_isAccused_74 ⟨Nat.le_of_ble_eq_true rfl, Nat.le_of_ble_eq_true rfl⟩) (List.range 49) [] (HW_all Y h a u45 O) rfl (by decide) (by decide) (fun r74 u74 hw74 => ?_)
          subst hw74
          refine J_eq (pc' := 77) (lv' := [(8, .int (nI (dX (stD S) 3))), (7, .int (nI (hAt (orL (dL (stD S))) 4))), (6, .int (nI (dX (stD S) 4))), (5, .int (nI (dX (stD S) 5))), (4, .int (nI (dX (stD S) 6))), (2, .long (prF (stD S))), (0, .ref (h 0)), (1, .int (nI c))]) (st' := [.int (nI (abH (dX (stD u45)) 4))]) (ws' := HW Y h a u45 O) rfl rfl rfl rfl ?_
          refine J_top (y := .int (nI ((dX (stD S) 4) + 1))) (by rw [he45]; rfl) ?_
          refine J_iload C dL_isAccused_77 2 rfl ?_
          refine J_iconst C dL_isAccused_79 (v := nI 1) (by decide) ?_
          refine J_iaddN C dL_isAccused_80 ?_
          refine J_icmp_ne (tgt := 156) C dL_isAccused_81 (by decide) (fun cq81 => ?_) (fun cq81 => ?_)
          · exact absurd rfl cq81
          · refine J_aload_n C dL_isAccused_84 rfl 6 rfl ?_
            refine J_iconst C dL_isAccused_85 (v := nI 5) (by decide) ?_
            refine J_callI (wr := []) C (R_H (st := []) (wc := HW Y h a u45 O) C hXS (kW_value ll Y hl0 h a u45 O ((b + 1)) 5 (hG45) (by omega) (by decide)) (vx_cwSW 2 C.t gL_isAccused_L_value rfl rfl rfl (by decide +kernel) ⟨by decide, by decide⟩) rfl (List.range 49) (HW_all Y h a u45 O) rng_nd49 rfl (Nat.le_of_ble_eq_true rfl) dL_isAccused_86 ⟨Nat.le_of_ble_eq_true rfl, Nat.le_of_ble_eq_true rfl⟩) (List.range 49) [] (HW_all Y h a u45 O) rfl (by decide) (by decide) (fun r86 u86 hw86 => ?_)
            subst hw86
            refine J_eq (pc' := 89) (lv' := [(8, .int (nI (dX (stD S) 3))), (7, .int (nI (hAt (orL (dL (stD S))) 4))), (6, .int (nI (dX (stD S) 4))), (5, .int (nI (dX (stD S) 5))), (4, .int (nI (dX (stD S) 6))), (2, .long (prF (stD S))), (0, .ref (h 0)), (1, .int (nI c))]) (st' := [.int (nI (abH (dX (stD u45)) 5))]) (ws' := HW Y h a u45 O) rfl rfl rfl rfl ?_
            refine J_top (y := .int (nI ((dX (stD S) 5) + 1))) (by rw [he45]; exact congrArg (fun q => Value.int (nI q)) (if_pos hcc)) ?_
            refine J_iload C dL_isAccused_89 3 rfl ?_
            refine J_iload C dL_isAccused_91 0 rfl ?_
            refine J_iload_n C dL_isAccused_93 rfl 7 rfl ?_
            refine J_icmp_neN (tgt := 101) C dL_isAccused_94 (by decide) (by omega) (by omega) (fun cq94 => ?_) (fun cq94 => ?_)
            · exact absurd cq94 (by omega)
            · refine J_iconst C dL_isAccused_97 (v := nI 1) (by decide) ?_
              refine J_goto (tgt := 102) C dL_isAccused_98 (by decide) ?_
              refine J_iaddN C dL_isAccused_102 ?_
              refine J_icmp_ne (tgt := 156) C dL_isAccused_103 (by decide) (fun cq103 => ?_) (fun cq103 => ?_)
              · exact absurd rfl cq103
              · refine J_aload_n C dL_isAccused_106 rfl 6 rfl ?_
                refine J_bipush C dL_isAccused_107 (v := nI 6) (by decide) ?_
                refine J_callI (wr := []) C (R_H (st := []) (wc := HW Y h a u45 O) C hXS (kW_value ll Y hl0 h a u45 O ((b + 1)) 6 (hG45) (by omega) (by decide)) (vx_cwSW 2 C.t gL_isAccused_L_value rfl rfl rfl (by decide +kernel) ⟨by decide, by decide⟩) rfl (List.range 49) (HW_all Y h a u45 O) rng_nd49 rfl (Nat.le_of_ble_eq_true rfl) dL_isAccused_109 ⟨Nat.le_of_ble_eq_true rfl, Nat.le_of_ble_eq_true rfl⟩) (List.range 49) [] (HW_all Y h a u45 O) rfl (by decide) (by decide) (fun r109 u109 hw109 => ?_)
                subst hw109
                refine J_eq (pc' := 112) (lv' := [(8, .int (nI (dX (stD S) 3))), (7, .int (nI (hAt (orL (dL (stD S))) 4))), (6, .int (nI (dX (stD S) 4))), (5, .int (nI (dX (stD S) 5))), (4, .int (nI (dX (stD S) 6))), (2, .long (prF (stD S))), (0, .ref (h 0)), (1, .int (nI c))]) (st' := [.int (nI (abH (dX (stD u45)) 6))]) (ws' := HW Y h a u45 O) rfl rfl rfl rfl ?_
                refine J_top (y := .int (nI ((dX (stD S) 6) + (21 - (dX (stD S) 12))))) (by rw [he45]; exact congrArg (fun q => Value.int (nI q)) (if_pos hcc)) ?_
                refine J_iload C dL_isAccused_112 4 rfl ?_
                refine J_iload C dL_isAccused_114 0 rfl ?_
                refine J_iload_n C dL_isAccused_116 rfl 7 rfl ?_
                refine J_icmp_neN (tgt := 131) C dL_isAccused_117 (by decide) (by omega) (by omega) (fun cq117 => ?_) (fun cq117 => ?_)
                · exact absurd cq117 (by omega)
                · refine J_bipush C dL_isAccused_120 (v := nI 21) (by decide) ?_
                  refine J_aload_n C dL_isAccused_122 rfl 6 rfl ?_
                  refine J_iconst C dL_isAccused_123 (v := nI 2) (by decide) ?_
                  refine J_callI (wr := []) C (R_H (st := [.int (nI 21), .int (nI (dX (stD S) 6)), .int (nI ((dX (stD S) 6) + (21 - (dX (stD S) 12))))]) (wc := HW Y h a u45 O) C hXS (kW_value ll Y hl0 h a u45 O ((b + 1)) 2 (hG45) (by omega) (by decide)) (vx_cwSW 2 C.t gL_isAccused_L_value rfl rfl rfl (by decide +kernel) ⟨by decide, by decide⟩) rfl (List.range 49) (HW_all Y h a u45 O) rng_nd49 rfl (Nat.le_of_ble_eq_true rfl) dL_isAccused_124 ⟨Nat.le_of_ble_eq_true rfl, Nat.le_of_ble_eq_true rfl⟩) (List.range 49) [] (HW_all Y h a u45 O) rfl (by decide) (by decide) (fun r124 u124 hw124 => ?_)
                  subst hw124
                  refine J_eq (pc' := 127) (lv' := [(8, .int (nI (dX (stD S) 3))), (7, .int (nI (hAt (orL (dL (stD S))) 4))), (6, .int (nI (dX (stD S) 4))), (5, .int (nI (dX (stD S) 5))), (4, .int (nI (dX (stD S) 6))), (2, .long (prF (stD S))), (0, .ref (h 0)), (1, .int (nI c))]) (st' := [.int (nI (abH (dX (stD u45)) 2)), .int (nI 21), .int (nI (dX (stD S) 6)), .int (nI ((dX (stD S) 6) + (21 - (dX (stD S) 12))))]) (ws' := HW Y h a u45 O) rfl rfl rfl rfl ?_
                  refine J_top (y := .int (nI (dX (stD S) 12))) (by rw [he45]; rfl) ?_
                  refine J_isubN C dL_isAccused_127 (by omega) ?_
                  refine J_goto (tgt := 133) C dL_isAccused_128 (by decide) ?_
                  refine J_iaddN C dL_isAccused_133 ?_
                  refine J_icmp_ne (tgt := 156) C dL_isAccused_134 (by decide) (fun cq134 => ?_) (fun cq134 => ?_)
                  · exact absurd rfl cq134
                  · refine J_aload_n C dL_isAccused_137 rfl 6 rfl ?_
                    refine J_iconst C dL_isAccused_138 (v := nI 1) (by decide) ?_
                    refine J_callI (wr := []) C (R_H (st := []) (wc := HW Y h a u45 O) C hXS (kW_value ll Y hl0 h a u45 O ((b + 1)) 1 (hG45) (by omega) (by decide)) (vx_cwSW 2 C.t gL_isAccused_L_value rfl rfl rfl (by decide +kernel) ⟨by decide, by decide⟩) rfl (List.range 49) (HW_all Y h a u45 O) rng_nd49 rfl (Nat.le_of_ble_eq_true rfl) dL_isAccused_139 ⟨Nat.le_of_ble_eq_true rfl, Nat.le_of_ble_eq_true rfl⟩) (List.range 49) [] (HW_all Y h a u45 O) rfl (by decide) (by decide) (fun r139 u139 hw139 => ?_)
                    subst hw139
                    refine J_eq (pc' := 142) (lv' := [(8, .int (nI (dX (stD S) 3))), (7, .int (nI (hAt (orL (dL (stD S))) 4))), (6, .int (nI (dX (stD S) 4))), (5, .int (nI (dX (stD S) 5))), (4, .int (nI (dX (stD S) 6))), (2, .long (prF (stD S))), (0, .ref (h 0)), (1, .int (nI c))]) (st' := [.int (nI (abH (dX (stD u45)) 1))]) (ws' := HW Y h a u45 O) rfl rfl rfl rfl ?_
                    refine J_top (y := .int (nI 0)) (by rw [he45]; rfl) ?_
                    refine J_if_neN (tgt := 156) C dL_isAccused_142 (by decide) (by omega) (fun cq142 => ?_) (fun cq142 => ?_)
                    · exact absurd cq142 (by omega)
                    · refine J_aload_n C dL_isAccused_145 rfl 6 rfl ?_
                      refine J_callI (wr := []) C (R_P (st := []) (wc := HW Y h a u45 O) C hXS (kO_areGuests ll Y hl0 h a u45 O ((b + 1)) (hG45) (by omega)) (va_cwS 1 C.t gL_isAccused_L_areGuests rfl rfl rfl (by decide +kernel) ⟨by decide, by decide⟩) rfl (List.range 49) (HW_all Y h a u45 O) rng_nd49 rfl (Nat.le_of_ble_eq_true rfl) dL_isAccused_146 ⟨Nat.le_of_ble_eq_true rfl, Nat.le_of_ble_eq_true rfl⟩) (List.range 49) [] (HW_all Y h a u45 O) rfl (by decide) (by decide) (fun r146 u146 hw146 => ?_)
                      subst hw146
                      refine J_eq (pc' := 149) (lv' := [(8, .int (nI (dX (stD S) 3))), (7, .int (nI (hAt (orL (dL (stD S))) 4))), (6, .int (nI (dX (stD S) 4))), (5, .int (nI (dX (stD S) 5))), (4, .int (nI (dX (stD S) 6))), (2, .long (prF (stD S))), (0, .ref (h 0)), (1, .int (nI c))]) (st' := [.int (nI 1)]) (ws' := HW Y h a u45 O) rfl rfl rfl rfl ?_
                      refine J_if_eqN (tgt := 156) C dL_isAccused_149 (by decide) (by omega) (fun cq149 => ?_) (fun cq149 => ?_)
                      · exact absurd cq149 (by omega)
                      · refine J_iconst C dL_isAccused_152 (v := nI 1) (by decide) ?_
                        refine J_goto (tgt := 157) C dL_isAccused_153 (by decide) ?_
                        refine J_istore (lv' := [(9, .int (nI 1)), (8, .int (nI (dX (stD S) 3))), (7, .int (nI (hAt (orL (dL (stD S))) 4))), (6, .int (nI (dX (stD S) 4))), (5, .int (nI (dX (stD S) 5))), (4, .int (nI (dX (stD S) 6))), (2, .long (prF (stD S))), (0, .ref (h 0)), (1, .int (nI c))]) C dL_isAccused_157 (by decide) rfl ?_
                        refine J_iconst C dL_isAccused_159 (v := nI 0) (by decide) ?_
                        refine J_istore (lv' := [(10, .int (nI 0)), (9, .int (nI 1)), (8, .int (nI (dX (stD S) 3))), (7, .int (nI (hAt (orL (dL (stD S))) 4))), (6, .int (nI (dX (stD S) 4))), (5, .int (nI (dX (stD S) 5))), (4, .int (nI (dX (stD S) 6))), (2, .long (prF (stD S))), (0, .ref (h 0)), (1, .int (nI c))]) C dL_isAccused_160 (by decide) rfl ?_
                        refine J_lv (lv' := [(0, .ref (h 0)), (1, .int (nI c)), (2, .long (prF (stD S))), (4, .int (nI (dX (stD S) 6))), (5, .int (nI (dX (stD S) 5))), (6, .int (nI (dX (stD S) 4))), (7, .int (nI (hAt (orL (dL (stD S))) 4))), (8, .int (nI (dX (stD S) 3))), (9, .int (nI 1)), (10, .int (nI 0))]) [8, 9, 7, 6, 5, 4, 3, 2, 1, 0] rfl ?_
                        refine J_loop (σ := Nat) (I := fun (j : Nat) => (j ≤ dX (stD S) 1)) (μ := fun (j : Nat) => dX (stD S) 1 - j) (lvf := fun (j : Nat) => [(0, .ref (h 0)), (1, .int (nI c)), (2, .long (prF (stD S))), (4, .int (nI (dX (stD S) 6))), (5, .int (nI (dX (stD S) 5))), (6, .int (nI (dX (stD S) 4))), (7, .int (nI (hAt (orL (dL (stD S))) 4))), (8, .int (nI (dX (stD S) 3))), (9, .int (nI 1)), (10, .int (nI j))]) (stf := fun (j : Nat) => []) (wsf := fun (j : Nat) => HW Y h a u45 O) ?_ (0) (by omega) (rfl) rfl (rfl)
                        rintro j hj ih162
                        refine J_eq (lv' := [(0, .ref (h 0)), (1, .int (nI c)), (2, .long (prF (stD S))), (4, .int (nI (dX (stD S) 6))), (5, .int (nI (dX (stD S) 5))), (6, .int (nI (dX (stD S) 4))), (7, .int (nI (hAt (orL (dL (stD S))) 4))), (8, .int (nI (dX (stD S) 3))), (9, .int (nI 1)), (10, .int (nI j))]) (st' := []) (ws' := HW Y h a u45 O) rfl rfl rfl rfl ?_
                        refine J_iload C dL_isAccused_162 9 rfl ?_
                        refine J_aload_n C dL_isAccused_164 rfl 0 rfl ?_
                        refine J_iconst C dL_isAccused_165 (v := nI 0) (by decide) ?_
                        refine J_callI (wr := []) C (R_H (st := [.int (nI j)]) (wc := HW Y h a u45 O) C hXS (kW_value ll Y hl0 h a u45 O ((b + 1)) 0 (hG45) (by omega) (by decide)) (vx_cwSW 2 C.t gL_isAccused_L_value rfl rfl rfl (by decide +kernel) ⟨by decide, by decide⟩) rfl (List.range 49) (HW_all Y h a u45 O) rng_nd49 rfl (Nat.le_of_ble_eq_true rfl) dL_isAccused_166 ⟨Nat.le_of_ble_eq_true rfl, Nat.le_of_ble_eq_true rfl⟩) (List.range 49) [] (HW_all Y h a u45 O) rfl (by decide) (by decide) (fun r166 u166 hw166 => ?_)
                        subst hw166
                        refine J_eq (pc' := 169) (lv' := [(0, .ref (h 0)), (1, .int (nI c)), (2, .long (prF (stD S))), (4, .int (nI (dX (stD S) 6))), (5, .int (nI (dX (stD S) 5))), (6, .int (nI (dX (stD S) 4))), (7, .int (nI (hAt (orL (dL (stD S))) 4))), (8, .int (nI (dX (stD S) 3))), (9, .int (nI 1)), (10, .int (nI j))]) (st' := [.int (nI (abH (dX (stD u45)) 0)), .int (nI j)]) (ws' := HW Y h a u45 O) rfl rfl rfl rfl ?_
                        refine J_top (y := .int (nI (dX (stD S) 1))) (by rw [he45]; rfl) ?_
                        refine J_icmp_geN (tgt := 230) C dL_isAccused_169 (by decide) (by omega) (by omega) (fun cq169 => ?_) (fun cq169 => ?_)
                        · refine J_iload C dL_isAccused_230 8 rfl ?_
                          refine J_if_eqN (tgt := 255) C dL_isAccused_232 (by decide) (by omega) (fun cq232 => ?_) (fun cq232 => ?_)
                          · exact absurd cq232 (by omega)
                          · refine J_aload_n C dL_isAccused_235 rfl 0 rfl ?_
                            refine J_callI (wr := []) C (R_H (st := []) (wc := HW Y h a u45 O) C hXS (kW_undo ll Y hl0 h a u45 O ((b + 1)) (hG45) (by omega) (stD S) (hV45) (G_E hG) (b) (G_b hG)) (vx_cwSW 1 C.t gL_isAccused_L_undo rfl rfl rfl (by decide +kernel) ⟨by decide, by decide⟩) rfl (List.range 49) (HW_all Y h a u45 O) rng_nd49 rfl (Nat.le_of_ble_eq_true rfl) dL_isAccused_236 ⟨Nat.le_of_ble_eq_true rfl, Nat.le_of_ble_eq_true rfl⟩) (List.range 49) [] (HW_all Y h a u45 O) rfl (by decide) (by decide) (fun r236 u236 hw236 => ?_)
                            obtain ⟨rfl, he236, hG236⟩ := hw236
                            refine J_eq (pc' := 239) (lv' := [(0, .ref (h 0)), (1, .int (nI c)), (2, .long (prF (stD S))), (4, .int (nI (dX (stD S) 6))), (5, .int (nI (dX (stD S) 5))), (6, .int (nI (dX (stD S) 4))), (7, .int (nI (hAt (orL (dL (stD S))) 4))), (8, .int (nI (dX (stD S) 3))), (9, .int (nI 1)), (10, .int (nI j))]) (st' := [.int (nI (stSc u45 - 1))]) (ws' := HW Y h a u236 O) rfl rfl rfl rfl ?_
                            refine J_if_ltN (tgt := 255) C dL_isAccused_239 (by decide) (by have := G_sc hG45; omega) ?_
                            refine J_aload_n C dL_isAccused_242 rfl 0 rfl ?_
                            refine J_callL (wr := []) C (R_P (st := []) (wc := HW Y h a u236 O) C hXS (kO_print ll Y hl0 h a u236 O b (hG236) (by omega)) (va_cwS 1 C.t gL_isAccused_L_print rfl rfl rfl (by decide +kernel) ⟨by decide, by decide⟩) rfl (List.range 49) (HW_all Y h a u236 O) rng_nd49 rfl (Nat.le_of_ble_eq_true rfl) dL_isAccused_243 ⟨Nat.le_of_ble_eq_true rfl, Nat.le_of_ble_eq_true rfl⟩) (List.range 49) [] (HW_all Y h a u236 O) rfl (by decide) (by decide) (fun r243 u243 hw243 => ?_)
                            subst hw243
                            refine J_eq (pc' := 246) (lv' := [(0, .ref (h 0)), (1, .int (nI c)), (2, .long (prF (stD S))), (4, .int (nI (dX (stD S) 6))), (5, .int (nI (dX (stD S) 5))), (6, .int (nI (dX (stD S) 4))), (7, .int (nI (hAt (orL (dL (stD S))) 4))), (8, .int (nI (dX (stD S) 3))), (9, .int (nI 1)), (10, .int (nI j))]) (st' := [.long (prF (stD u236))]) (ws' := HW Y h a u236 O) rfl rfl rfl rfl ?_
                            refine J_top (y := .long (prF (stD S))) (by rw [he236]) ?_
                            refine J_lload_n C dL_isAccused_246 rfl 2 rfl ?_
                            refine J_lcmp C dL_isAccused_247 ?_
                            refine J_top (y := .int (nI 0)) (by rw [lcs]) ?_
                            refine J_if_neN (tgt := 255) C dL_isAccused_248 (by decide) (by omega) (fun cq248 => ?_) (fun cq248 => ?_)
                            · exact absurd cq248 (by omega)
                            · refine J_iconst C dL_isAccused_251 (v := nI 1) (by decide) ?_
                              refine J_goto (tgt := 256) C dL_isAccused_252 (by decide) ?_
                              exact J_zret C hr (by decide) dL_isAccused_256 u236 (⟨rfl, he236, hG236⟩) (rfl)
                        · refine J_iload C dL_isAccused_172 8 rfl ?_
                          refine J_if_eqN (tgt := 230) C dL_isAccused_174 (by decide) (by omega) (fun cq174 => ?_) (fun cq174 => ?_)
                          · exact absurd cq174 (by omega)
                          · refine J_aload_n C dL_isAccused_177 rfl 0 rfl ?_
                            refine J_iload C dL_isAccused_178 9 rfl ?_
                            refine J_bipush C dL_isAccused_180 (v := nI 7) (by decide) ?_
                            refine J_callI (wr := []) C (R_H (st := []) (wc := HW Y h a u45 O) C hXS (kW_guest ll Y hl0 h a u45 O ((b + 1)) j 7 (hG45) (by omega) (by rw [he45]; exact cq169) (by decide)) (vx_cwSW 3 C.t gL_isAccused_L_guest rfl rfl rfl (by decide +kernel) ⟨by decide, by decide⟩) rfl (List.range 49) (HW_all Y h a u45 O) rng_nd49 rfl (Nat.le_of_ble_eq_true rfl) dL_isAccused_182 ⟨Nat.le_of_ble_eq_true rfl, Nat.le_of_ble_eq_true rfl⟩) (List.range 49) [] (HW_all Y h a u45 O) rfl (by decide) (by decide) (fun r182 u182 hw182 => ?_)
                            subst hw182
                            refine J_eq (pc' := 185) (lv' := [(0, .ref (h 0)), (1, .int (nI c)), (2, .long (prF (stD S))), (4, .int (nI (dX (stD S) 6))), (5, .int (nI (dX (stD S) 5))), (6, .int (nI (dX (stD S) 4))), (7, .int (nI (hAt (orL (dL (stD S))) 4))), (8, .int (nI (dX (stD S) 3))), (9, .int (nI 1)), (10, .int (nI j))]) (st' := [.int (nI (abG (dX (stD u45)) (dHd (stD u45)) (dPb (stD u45)) (dAg (stD u45)) (dL (stD u45)) j 7))]) (ws' := HW Y h a u45 O) rfl rfl rfl rfl ?_
                            refine J_top (y := .int (nI (dHd (stD S) j))) (by rw [he45, ac_7]) ?_
                            refine J_istore (lv' := [(11, .int (nI (dHd (stD S) j))), (0, .ref (h 0)), (1, .int (nI c)), (2, .long (prF (stD S))), (4, .int (nI (dX (stD S) 6))), (5, .int (nI (dX (stD S) 5))), (6, .int (nI (dX (stD S) 4))), (7, .int (nI (hAt (orL (dL (stD S))) 4))), (8, .int (nI (dX (stD S) 3))), (9, .int (nI 1)), (10, .int (nI j))]) C dL_isAccused_185 (by decide) rfl ?_
                            refine J_iload C dL_isAccused_187 0 rfl ?_
                            refine J_aload_n C dL_isAccused_189 rfl 1 rfl ?_
                            refine J_iload C dL_isAccused_190 10 rfl ?_
                            refine J_iconst C dL_isAccused_192 (v := nI 5) (by decide) ?_
                            refine J_callI (wr := []) C (R_H (st := [.int (nI (dHd (stD S) j))]) (wc := HW Y h a u45 O) C hXS (kW_guest ll Y hl0 h a u45 O ((b + 1)) j 5 (hG45) (by omega) (by rw [he45]; exact cq169) (by decide)) (vx_cwSW 3 C.t gL_isAccused_L_guest rfl rfl rfl (by decide +kernel) ⟨by decide, by decide⟩) rfl (List.range 49) (HW_all Y h a u45 O) rng_nd49 rfl (Nat.le_of_ble_eq_true rfl) dL_isAccused_193 ⟨Nat.le_of_ble_eq_true rfl, Nat.le_of_ble_eq_true rfl⟩) (List.range 49) [] (HW_all Y h a u45 O) rfl (by decide) (by decide) (fun r193 u193 hw193 => ?_)
                            subst hw193
                            refine J_eq (pc' := 196) (lv' := [(11, .int (nI (dHd (stD S) j))), (0, .ref (h 0)), (1, .int (nI c)), (2, .long (prF (stD S))), (4, .int (nI (dX (stD S) 6))), (5, .int (nI (dX (stD S) 5))), (6, .int (nI (dX (stD S) 4))), (7, .int (nI (hAt (orL (dL (stD S))) 4))), (8, .int (nI (dX (stD S) 3))), (9, .int (nI 1)), (10, .int (nI j))]) (st' := [.int (nI (abG (dX (stD u45)) (dHd (stD u45)) (dPb (stD u45)) (dAg (stD u45)) (dL (stD u45)) j 5)), .int (nI (dHd (stD S) j))]) (ws' := HW Y h a u45 O) rfl rfl rfl rfl ?_
                            refine J_top (y := .int (nI (hAt (orL (dL (stD S))) j))) (by rw [he45]; rfl) ?_
                            refine J_iconst C dL_isAccused_196 (v := iZ ((-1))) (by decide) ?_
                            refine J_ixor C dL_isAccused_197 ?_
                            refine J_iand C dL_isAccused_198 ?_
                            refine J_top (y := .int (nI 0)) (by rw [andnot (hand_some hE (by omega))]) ?_
                            refine J_if_neN (tgt := 221) C dL_isAccused_199 (by decide) (by omega) (fun cq199 => ?_) (fun cq199 => ?_)
                            · exact absurd cq199 (by omega)
                            · refine J_aload_n C dL_isAccused_202 rfl 1 rfl ?_
                              refine J_iload C dL_isAccused_203 10 rfl ?_
                              refine J_iconst C dL_isAccused_205 (v := nI 4) (by decide) ?_
                              refine J_callI (wr := []) C (R_H (st := []) (wc := HW Y h a u45 O) C hXS (kW_guest ll Y hl0 h a u45 O ((b + 1)) j 4 (hG45) (by omega) (by rw [he45]; exact cq169) (by decide)) (vx_cwSW 3 C.t gL_isAccused_L_guest rfl rfl rfl (by decide +kernel) ⟨by decide, by decide⟩) rfl (List.range 49) (HW_all Y h a u45 O) rng_nd49 rfl (Nat.le_of_ble_eq_true rfl) dL_isAccused_206 ⟨Nat.le_of_ble_eq_true rfl, Nat.le_of_ble_eq_true rfl⟩) (List.range 49) [] (HW_all Y h a u45 O) rfl (by decide) (by decide) (fun r206 u206 hw206 => ?_)
                              subst hw206
                              refine J_eq (pc' := 209) (lv' := [(11, .int (nI (dHd (stD S) j))), (0, .ref (h 0)), (1, .int (nI c)), (2, .long (prF (stD S))), (4, .int (nI (dX (stD S) 6))), (5, .int (nI (dX (stD S) 5))), (6, .int (nI (dX (stD S) 4))), (7, .int (nI (hAt (orL (dL (stD S))) 4))), (8, .int (nI (dX (stD S) 3))), (9, .int (nI 1)), (10, .int (nI j))]) (st' := [.int (nI (abG (dX (stD u45)) (dHd (stD u45)) (dPb (stD u45)) (dAg (stD u45)) (dL (stD u45)) j 4))]) (ws' := HW Y h a u45 O) rfl rfl rfl rfl ?_
                              refine J_top (y := .int (nI (hAt (andL (dL (stD S))) j))) (by rw [he45]; exact congrArg (fun q => Value.int (nI q)) (if_neg (by have := E1_len hE; show ¬ (dL (stD S)).length = 0; omega))) ?_
                              refine J_iload C dL_isAccused_209 0 rfl ?_
                              refine J_iconst C dL_isAccused_211 (v := iZ ((-1))) (by decide) ?_
                              refine J_ixor C dL_isAccused_212 ?_
                              refine J_iand C dL_isAccused_213 ?_
                              refine J_top (y := .int (nI 0)) (by rw [andnot (hand_all hE (by omega))]) ?_
                              refine J_if_neN (tgt := 221) C dL_isAccused_214 (by decide) (by omega) (fun cq214 => ?_) (fun cq214 => ?_)
                              · exact absurd cq214 (by omega)
                              · refine J_iconst C dL_isAccused_217 (v := nI 1) (by decide) ?_
                                refine J_goto (tgt := 222) C dL_isAccused_218 (by decide) ?_
                                refine J_istore (lv' := [(9, .int (nI 1)), (11, .int (nI (dHd (stD S) j))), (0, .ref (h 0)), (1, .int (nI c)), (2, .long (prF (stD S))), (4, .int (nI (dX (stD S) 6))), (5, .int (nI (dX (stD S) 5))), (6, .int (nI (dX (stD S) 4))), (7, .int (nI (hAt (orL (dL (stD S))) 4))), (8, .int (nI (dX (stD S) 3))), (10, .int (nI j))]) C dL_isAccused_222 (by decide) rfl ?_
                                refine J_iinc (j := 10) (v := nI (j + 1)) (lv' := [(10, .int (nI (j + 1))), (9, .int (nI 1)), (11, .int (nI (dHd (stD S) j))), (0, .ref (h 0)), (1, .int (nI c)), (2, .long (prF (stD S))), (4, .int (nI (dX (stD S) 6))), (5, .int (nI (dX (stD S) 5))), (6, .int (nI (dX (stD S) 4))), (7, .int (nI (hAt (orL (dL (stD S))) 4))), (8, .int (nI (dX (stD S) 3)))]) C dL_isAccused_224 rfl (nI_1 _) (by decide) rfl ?_
                                refine J_goto (tgt := 162) C dL_isAccused_227 (by decide) ?_
                                refine J_lv (lv' := [(0, .ref (h 0)), (1, .int (nI c)), (2, .long (prF (stD S))), (4, .int (nI (dX (stD S) 6))), (5, .int (nI (dX (stD S) 5))), (6, .int (nI (dX (stD S) 4))), (7, .int (nI (hAt (orL (dL (stD S))) 4))), (8, .int (nI (dX (stD S) 3))), (9, .int (nI 1)), (10, .int (nI (j + 1)))]) [3, 4, 5, 6, 7, 8, 9, 10, 1, 0] rfl ?_
                                exact ih162 (j + 1) (by omega) (show dX (stD S) 1 - (j + 1) < dX (stD S) 1 - j from by omega)
    · exact absurd cq5 (by omega)
  · have hn4 := EI_4 (G_E hG)
    have hm20 := EI_12 (G_E hG)
    have hc8 := (G_E hG).1.2.2.1
    have h4b := G_b hG
    have hE := EI_g (G_E hG) hgo
    refine J_aload_n C dL_isAccused_0 rfl 0 rfl ?_
    refine J_iconst C dL_isAccused_1 (v := nI 1) (by decide) ?_
    refine J_callI (wr := []) C (R_H (st := []) (wc := HW Y h a S O) C hXS (kW_value ll Y hl0 h a S O b 1 (hG) (by omega) (by decide)) (vx_cwSW 2 C.t gL_isAccused_L_value rfl rfl rfl (by decide +kernel) ⟨by decide, by decide⟩) rfl (List.range 49) (HW_all Y h a S O) rng_nd49 rfl (Nat.le_of_ble_eq_true rfl) dL_isAccused_2 ⟨Nat.le_of_ble_eq_true rfl, Nat.le_of_ble_eq_true rfl⟩) (List.range 49) [] (HW_all Y h a S O) rfl (by decide) (by decide) (fun r2 u2 hw2 => ?_)
    subst hw2
    refine J_eq (pc' := 5) (lv' := [(0, .ref (h 0)), (1, .int (nI c))]) (st' := [.int (nI (abH (dX (stD S)) 1))]) (ws' := HW Y h a S O) rfl rfl rfl rfl ?_
    refine J_top (y := .int (nI 1)) (by rw [show abH (dX (stD S)) 1 = dX (stD S) 2 from rfl, hgo]) ?_
    refine J_if_neN (tgt := 10) C dL_isAccused_5 (by decide) (by omega) (fun cq5 => ?_) (fun cq5 => ?_)
    · refine J_aload_n C dL_isAccused_10 rfl 0 rfl ?_
      refine J_callL (wr := []) C (R_P (st := []) (wc := HW Y h a S O) C hXS (kO_print ll Y hl0 h a S O b (hG) (by omega)) (va_cwS 1 C.t gL_isAccused_L_print rfl rfl rfl (by decide +kernel) ⟨by decide, by decide⟩) rfl (List.range 49) (HW_all Y h a S O) rng_nd49 rfl (Nat.le_of_ble_eq_true rfl) dL_isAccused_11 ⟨Nat.le_of_ble_eq_true rfl, Nat.le_of_ble_eq_true rfl⟩) (List.range 49) [] (HW_all Y h a S O) rfl (by decide) (by decide) (fun r11 u11 hw11 => ?_)
      subst hw11
      refine J_eq (pc' := 14) (lv' := [(0, .ref (h 0)), (1, .int (nI c))]) (st' := [.long (prF (stD S))]) (ws' := HW Y h a S O) rfl rfl rfl rfl ?_
      refine J_lstore_n (lv' := [(2, .long (prF (stD S))), (0, .ref (h 0)), (1, .int (nI c))]) C dL_isAccused_14 rfl (by decide) rfl ?_
      refine J_aload_n C dL_isAccused_15 rfl 1 rfl ?_
      refine J_bipush C dL_isAccused_16 (v := nI 6) (by decide) ?_
      refine J_callI (wr := []) C (R_H (st := []) (wc := HW Y h a S O) C hXS (kW_value ll Y hl0 h a S O b 6 (hG) (by omega) (by decide)) (vx_cwSW 2 C.t gL_isAccused_L_value rfl rfl rfl (by decide +kernel) ⟨by decide, by decide⟩) rfl (List.range 49) (HW_all Y h a S O) rng_nd49 rfl (Nat.le_of_ble_eq_true rfl) dL_isAccused_18 ⟨Nat.le_of_ble_eq_true rfl, Nat.le_of_ble_eq_true rfl⟩) (List.range 49) [] (HW_all Y h a S O) rfl (by decide) (by decide) (fun r18 u18 hw18 => ?_)
      subst hw18
      refine J_eq (pc' := 21) (lv' := [(2, .long (prF (stD S))), (0, .ref (h 0)), (1, .int (nI c))]) (st' := [.int (nI (abH (dX (stD S)) 6))]) (ws' := HW Y h a S O) rfl rfl rfl rfl ?_
      refine J_top (y := .int (nI (dX (stD S) 6))) (rfl) ?_
      refine J_istore (lv' := [(4, .int (nI (dX (stD S) 6))), (2, .long (prF (stD S))), (0, .ref (h 0)), (1, .int (nI c))]) C dL_isAccused_21 (by decide) rfl ?_
      refine J_aload_n C dL_isAccused_23 rfl 2 rfl ?_
      refine J_iconst C dL_isAccused_24 (v := nI 5) (by decide) ?_
      refine J_callI (wr := []) C (R_H (st := []) (wc := HW Y h a S O) C hXS (kW_value ll Y hl0 h a S O b 5 (hG) (by omega) (by decide)) (vx_cwSW 2 C.t gL_isAccused_L_value rfl rfl rfl (by decide +kernel) ⟨by decide, by decide⟩) rfl (List.range 49) (HW_all Y h a S O) rng_nd49 rfl (Nat.le_of_ble_eq_true rfl) dL_isAccused_25 ⟨Nat.le_of_ble_eq_true rfl, Nat.le_of_ble_eq_true rfl⟩) (List.range 49) [] (HW_all Y h a S O) rfl (by decide) (by decide) (fun r25 u25 hw25 => ?_)
      subst hw25
      refine J_eq (pc' := 28) (lv' := [(4, .int (nI (dX (stD S) 6))), (2, .long (prF (stD S))), (0, .ref (h 0)), (1, .int (nI c))]) (st' := [.int (nI (abH (dX (stD S)) 5))]) (ws' := HW Y h a S O) rfl rfl rfl rfl ?_
      refine J_top (y := .int (nI (dX (stD S) 5))) (rfl) ?_
      refine J_istore (lv' := [(5, .int (nI (dX (stD S) 5))), (4, .int (nI (dX (stD S) 6))), (2, .long (prF (stD S))), (0, .ref (h 0)), (1, .int (nI c))]) C dL_isAccused_28 (by decide) rfl ?_
      refine J_aload_n C dL_isAccused_30 rfl 3 rfl ?_
      refine J_iconst C dL_isAccused_31 (v := nI 4) (by decide) ?_
      refine J_callI (wr := []) C (R_H (st := []) (wc := HW Y h a S O) C hXS (kW_value ll Y hl0 h a S O b 4 (hG) (by omega) (by decide)) (vx_cwSW 2 C.t gL_isAccused_L_value rfl rfl rfl (by decide +kernel) ⟨by decide, by decide⟩) rfl (List.range 49) (HW_all Y h a S O) rng_nd49 rfl (Nat.le_of_ble_eq_true rfl) dL_isAccused_32 ⟨Nat.le_of_ble_eq_true rfl, Nat.le_of_ble_eq_true rfl⟩) (List.range 49) [] (HW_all Y h a S O) rfl (by decide) (by decide) (fun r32 u32 hw32 => ?_)
      subst hw32
      refine J_eq (pc' := 35) (lv' := [(5, .int (nI (dX (stD S) 5))), (4, .int (nI (dX (stD S) 6))), (2, .long (prF (stD S))), (0, .ref (h 0)), (1, .int (nI c))]) (st' := [.int (nI (abH (dX (stD S)) 4))]) (ws' := HW Y h a S O) rfl rfl rfl rfl ?_
      refine J_top (y := .int (nI (dX (stD S) 4))) (rfl) ?_
      refine J_istore (lv' := [(6, .int (nI (dX (stD S) 4))), (5, .int (nI (dX (stD S) 5))), (4, .int (nI (dX (stD S) 6))), (2, .long (prF (stD S))), (0, .ref (h 0)), (1, .int (nI c))]) C dL_isAccused_35 (by decide) rfl ?_
      refine J_aload_n C dL_isAccused_37 rfl 4 rfl ?_
      refine J_callI (wr := []) C (R_V (st := []) (wc := HW Y h a S O) C (kV_culprits ll Y hl0 h a S O b (hG) (by omega)) (cwV 0 C.t gL_isAccused_X4_culprits rfl rfl rfl (by decide +kernel) ⟨by decide, by decide⟩) rfl (List.range 49) (HW_all Y h a S O) rng_nd49 ⟨0, 4, _, _, rfl, rfl, rfl⟩ rfl (Nat.le_of_ble_eq_true rfl) dL_isAccused_38 ⟨Nat.le_of_ble_eq_true rfl, Nat.le_of_ble_eq_true rfl⟩) (List.range 49) [] (HW_all Y h a S O) rfl (by decide) (by decide) (fun r38 u38 hw38 => ?_)
      subst hw38
      refine J_eq (pc' := 41) (lv' := [(6, .int (nI (dX (stD S) 4))), (5, .int (nI (dX (stD S) 5))), (4, .int (nI (dX (stD S) 6))), (2, .long (prF (stD S))), (0, .ref (h 0)), (1, .int (nI c))]) (st' := [.int (nI (hAt (orL (dL (stD S))) 4))]) (ws' := HW Y h a S O) rfl rfl rfl rfl ?_
      refine J_istore (lv' := [(7, .int (nI (hAt (orL (dL (stD S))) 4))), (6, .int (nI (dX (stD S) 4))), (5, .int (nI (dX (stD S) 5))), (4, .int (nI (dX (stD S) 6))), (2, .long (prF (stD S))), (0, .ref (h 0)), (1, .int (nI c))]) C dL_isAccused_41 (by decide) rfl ?_
      refine J_aload_n C dL_isAccused_43 rfl 5 rfl ?_
      refine J_iload_n C dL_isAccused_44 rfl 6 rfl ?_
      refine J_callI (wr := []) C (R_H (st := []) (wc := HW Y h a S O) C hXS (kW_accuse ll Y hl0 h a S O b c (hG) (by omega) (hc) (hgo)) (vx_cwSW 2 C.t gL_isAccused_L_accuse rfl rfl rfl (by decide +kernel) ⟨by decide, by decide⟩) rfl (List.range 49) (HW_all Y h a S O) rng_nd49 rfl (Nat.le_of_ble_eq_true rfl) dL_isAccused_45 ⟨Nat.le_of_ble_eq_true rfl, Nat.le_of_ble_eq_true rfl⟩) (List.range 49) [] (HW_all Y h a S O) rfl (by decide) (by decide) (fun r45 u45 hw45 => ?_)
      obtain ⟨rfl, he45, hG45, hV45⟩ := hw45
      refine J_eq (pc' := 48) (lv' := [(7, .int (nI (hAt (orL (dL (stD S))) 4))), (6, .int (nI (dX (stD S) 4))), (5, .int (nI (dX (stD S) 5))), (4, .int (nI (dX (stD S) 6))), (2, .long (prF (stD S))), (0, .ref (h 0)), (1, .int (nI c))]) (st' := [.int (nI ((dX (stD S)) 3))]) (ws' := HW Y h a u45 O) rfl rfl rfl rfl ?_
      refine J_top (y := .int (nI (dX (stD S) 3))) (rfl) ?_
      refine J_istore (lv' := [(8, .int (nI (dX (stD S) 3))), (7, .int (nI (hAt (orL (dL (stD S))) 4))), (6, .int (nI (dX (stD S) 4))), (5, .int (nI (dX (stD S) 5))), (4, .int (nI (dX (stD S) 6))), (2, .long (prF (stD S))), (0, .ref (h 0)), (1, .int (nI c))]) C dL_isAccused_48 (by decide) rfl ?_
      refine J_iload C dL_isAccused_50 1 rfl ?_
      refine J_iload C dL_isAccused_52 0 rfl ?_
      refine J_ishrN C dL_isAccused_54 (by omega) (Nat.lt_of_lt_of_le (hAt_lt _ _) (by decide)) ?_
      refine J_iconst C dL_isAccused_55 (v := nI 1) (by decide) ?_
      refine J_iandN C dL_isAccused_56 ?_
      refine J_top (y := .int (nI 1)) (by rw [cul_in hE hc8]) ?_
      refine J_iconst C dL_isAccused_57 (v := nI 1) (by decide) ?_
      refine J_icmp_neN (tgt := 156) C dL_isAccused_58 (by decide) (by omega) (by omega) (fun cq58 => ?_) (fun cq58 => ?_)
      · exact absurd cq58 (by omega)
      · refine J_aload_n C dL_isAccused_61 rfl 6 rfl ?_
        refine J_bipush C dL_isAccused_62 (v := nI 9) (by decide) ?_
        refine J_callI (wr := []) C (R_H (st := []) (wc := HW Y h a u45 O) C hXS (kW_value ll Y hl0 h a u45 O ((b + 1)) 9 (hG45) (by omega) (by decide)) (vx_cwSW 2 C.t gL_isAccused_L_value rfl rfl rfl (by decide +kernel) ⟨by decide, by decide⟩) rfl (List.range 49) (HW_all Y h a u45 O) rng_nd49 rfl (Nat.le_of_ble_eq_true rfl) dL_isAccused_64 ⟨Nat.le_of_ble_eq_true rfl, Nat.le_of_ble_eq_true rfl⟩) (List.range 49) [] (HW_all Y h a u45 O) rfl (by decide) (by decide) (fun r64 u64 hw64 => ?_)
        subst hw64
        refine J_eq (pc' := 67) (lv' := [(8, .int (nI (dX (stD S) 3))), (7, .int (nI (hAt (orL (dL (stD S))) 4))), (6, .int (nI (dX (stD S) 4))), (5, .int (nI (dX (stD S) 5))), (4, .int (nI (dX (stD S) 6))), (2, .long (prF (stD S))), (0, .ref (h 0)), (1, .int (nI c))]) (st' := [.int (nI (abH (dX (stD u45)) 9))]) (ws' := HW Y h a u45 O) rfl rfl rfl rfl ?_
        refine J_top (y := .int (nI (dX (stD S) 3))) (by rw [he45, ac_9]) ?_
        refine J_iload C dL_isAccused_67 0 rfl ?_
        refine J_icmp_ne (tgt := 156) C dL_isAccused_69 (by decide) (fun cq69 => ?_) (fun cq69 => ?_)
        · exact absurd rfl cq69
        · refine J_aload_n C dL_isAccused_72 rfl 6 rfl ?_
          refine J_iconst C dL_isAccused_73 (v := nI 4) (by decide) ?_
          refine J_callI (wr := []) C (R_H (st := []) (wc := HW Y h a u45 O) C hXS (kW_value ll Y hl0 h a u45 O ((b + 1)) 4 (hG45) (by omega) (by decide)) (vx_cwSW 2 C.t gL_isAccused_L_value rfl rfl rfl (by decide +kernel) ⟨by decide, by decide⟩) rfl (List.range 49) (HW_all Y h a u45 O) rng_nd49 rfl (Nat.le_of_ble_eq_true rfl) dL_isAccused_74 ⟨Nat.le_of_ble_eq_true rfl, Nat.le_of_ble_eq_true rfl⟩) (List.range 49) [] (HW_all Y h a u45 O) rfl (by decide) (by decide) (fun r74 u74 hw74 => ?_)
          subst hw74
          refine J_eq (pc' := 77) (lv' := [(8, .int (nI (dX (stD S) 3))), (7, .int (nI (hAt (orL (dL (stD S))) 4))), (6, .int (nI (dX (stD S) 4))), (5, .int (nI (dX (stD S) 5))), (4, .int (nI (dX (stD S) 6))), (2, .long (prF (stD S))), (0, .ref (h 0)), (1, .int (nI c))]) (st' := [.int (nI (abH (dX (stD u45)) 4))]) (ws' := HW Y h a u45 O) rfl rfl rfl rfl ?_
          refine J_top (y := .int (nI ((dX (stD S) 4) + 1))) (by rw [he45]; rfl) ?_
          refine J_iload C dL_isAccused_77 2 rfl ?_
          refine J_iconst C dL_isAccused_79 (v := nI 1) (by decide) ?_
          refine J_iaddN C dL_isAccused_80 ?_
          refine J_icmp_ne (tgt := 156) C dL_isAccused_81 (by decide) (fun cq81 => ?_) (fun cq81 => ?_)
          · exact absurd rfl cq81
          · refine J_aload_n C dL_isAccused_84 rfl 6 rfl ?_
            refine J_iconst C dL_isAccused_85 (v := nI 5) (by decide) ?_
            refine J_callI (wr := []) C (R_H (st := []) (wc := HW Y h a u45 O) C hXS (kW_value ll Y hl0 h a u45 O ((b + 1)) 5 (hG45) (by omega) (by decide)) (vx_cwSW 2 C.t gL_isAccused_L_value rfl rfl rfl (by decide +kernel) ⟨by decide, by decide⟩) rfl (List.range 49) (HW_all Y h a u45 O) rng_nd49 rfl (Nat.le_of_ble_eq_true rfl) dL_isAccused_86 ⟨Nat.le_of_ble_eq_true rfl, Nat.le_of_ble_eq_true rfl⟩) (List.range 49) [] (HW_all Y h a u45 O) rfl (by decide) (by decide) (fun r86 u86 hw86 => ?_)
            subst hw86
            refine J_eq (pc' := 89) (lv' := [(8, .int (nI (dX (stD S) 3))), (7, .int (nI (hAt (orL (dL (stD S))) 4))), (6, .int (nI (dX (stD S) 4))), (5, .int (nI (dX (stD S) 5))), (4, .int (nI (dX (stD S) 6))), (2, .long (prF (stD S))), (0, .ref (h 0)), (1, .int (nI c))]) (st' := [.int (nI (abH (dX (stD u45)) 5))]) (ws' := HW Y h a u45 O) rfl rfl rfl rfl ?_
            refine J_top (y := .int (nI ((dX (stD S) 5) + 0))) (by rw [he45]; exact congrArg (fun q => Value.int (nI q)) (if_neg hcc)) ?_
            refine J_iload C dL_isAccused_89 3 rfl ?_
            refine J_iload C dL_isAccused_91 0 rfl ?_
            refine J_iload_n C dL_isAccused_93 rfl 7 rfl ?_
            refine J_icmp_neN (tgt := 101) C dL_isAccused_94 (by decide) (by omega) (by omega) (fun cq94 => ?_) (fun cq94 => ?_)
            · refine J_iconst C dL_isAccused_101 (v := nI 0) (by decide) ?_
              refine J_iaddN C dL_isAccused_102 ?_
              refine J_icmp_ne (tgt := 156) C dL_isAccused_103 (by decide) (fun cq103 => ?_) (fun cq103 => ?_)
              · exact absurd rfl cq103
              · refine J_aload_n C dL_isAccused_106 rfl 6 rfl ?_
                refine J_bipush C dL_isAccused_107 (v := nI 6) (by decide) ?_
                refine J_callI (wr := []) C (R_H (st := []) (wc := HW Y h a u45 O) C hXS (kW_value ll Y hl0 h a u45 O ((b + 1)) 6 (hG45) (by omega) (by decide)) (vx_cwSW 2 C.t gL_isAccused_L_value rfl rfl rfl (by decide +kernel) ⟨by decide, by decide⟩) rfl (List.range 49) (HW_all Y h a u45 O) rng_nd49 rfl (Nat.le_of_ble_eq_true rfl) dL_isAccused_109 ⟨Nat.le_of_ble_eq_true rfl, Nat.le_of_ble_eq_true rfl⟩) (List.range 49) [] (HW_all Y h a u45 O) rfl (by decide) (by decide) (fun r109 u109 hw109 => ?_)
                subst hw109
                refine J_eq (pc' := 112) (lv' := [(8, .int (nI (dX (stD S) 3))), (7, .int (nI (hAt (orL (dL (stD S))) 4))), (6, .int (nI (dX (stD S) 4))), (5, .int (nI (dX (stD S) 5))), (4, .int (nI (dX (stD S) 6))), (2, .long (prF (stD S))), (0, .ref (h 0)), (1, .int (nI c))]) (st' := [.int (nI (abH (dX (stD u45)) 6))]) (ws' := HW Y h a u45 O) rfl rfl rfl rfl ?_
                refine J_top (y := .int (nI ((dX (stD S) 6) + 4294967286))) (by rw [he45]; exact congrArg (fun q => Value.int (nI q)) (if_neg hcc)) ?_
                refine J_iload C dL_isAccused_112 4 rfl ?_
                refine J_iload C dL_isAccused_114 0 rfl ?_
                refine J_iload_n C dL_isAccused_116 rfl 7 rfl ?_
                refine J_icmp_neN (tgt := 131) C dL_isAccused_117 (by decide) (by omega) (by omega) (fun cq117 => ?_) (fun cq117 => ?_)
                · refine J_bipush C dL_isAccused_131 (v := iZ ((-10))) (by decide) ?_
                  refine J_top (y := .int (nI 4294967286)) (by rw [m10_nI]) ?_
                  refine J_iaddN C dL_isAccused_133 ?_
                  refine J_icmp_ne (tgt := 156) C dL_isAccused_134 (by decide) (fun cq134 => ?_) (fun cq134 => ?_)
                  · exact absurd rfl cq134
                  · refine J_aload_n C dL_isAccused_137 rfl 6 rfl ?_
                    refine J_iconst C dL_isAccused_138 (v := nI 1) (by decide) ?_
                    refine J_callI (wr := []) C (R_H (st := []) (wc := HW Y h a u45 O) C hXS (kW_value ll Y hl0 h a u45 O ((b + 1)) 1 (hG45) (by omega) (by decide)) (vx_cwSW 2 C.t gL_isAccused_L_value rfl rfl rfl (by decide +kernel) ⟨by decide, by decide⟩) rfl (List.range 49) (HW_all Y h a u45 O) rng_nd49 rfl (Nat.le_of_ble_eq_true rfl) dL_isAccused_139 ⟨Nat.le_of_ble_eq_true rfl, Nat.le_of_ble_eq_true rfl⟩) (List.range 49) [] (HW_all Y h a u45 O) rfl (by decide) (by decide) (fun r139 u139 hw139 => ?_)
                    subst hw139
                    refine J_eq (pc' := 142) (lv' := [(8, .int (nI (dX (stD S) 3))), (7, .int (nI (hAt (orL (dL (stD S))) 4))), (6, .int (nI (dX (stD S) 4))), (5, .int (nI (dX (stD S) 5))), (4, .int (nI (dX (stD S) 6))), (2, .long (prF (stD S))), (0, .ref (h 0)), (1, .int (nI c))]) (st' := [.int (nI (abH (dX (stD u45)) 1))]) (ws' := HW Y h a u45 O) rfl rfl rfl rfl ?_
                    refine J_top (y := .int (nI 0)) (by rw [he45]; rfl) ?_
                    refine J_if_neN (tgt := 156) C dL_isAccused_142 (by decide) (by omega) (fun cq142 => ?_) (fun cq142 => ?_)
                    · exact absurd cq142 (by omega)
                    · refine J_aload_n C dL_isAccused_145 rfl 6 rfl ?_
                      refine J_callI (wr := []) C (R_P (st := []) (wc := HW Y h a u45 O) C hXS (kO_areGuests ll Y hl0 h a u45 O ((b + 1)) (hG45) (by omega)) (va_cwS 1 C.t gL_isAccused_L_areGuests rfl rfl rfl (by decide +kernel) ⟨by decide, by decide⟩) rfl (List.range 49) (HW_all Y h a u45 O) rng_nd49 rfl (Nat.le_of_ble_eq_true rfl) dL_isAccused_146 ⟨Nat.le_of_ble_eq_true rfl, Nat.le_of_ble_eq_true rfl⟩) (List.range 49) [] (HW_all Y h a u45 O) rfl (by decide) (by decide) (fun r146 u146 hw146 => ?_)
                      subst hw146
                      refine J_eq (pc' := 149) (lv' := [(8, .int (nI (dX (stD S) 3))), (7, .int (nI (hAt (orL (dL (stD S))) 4))), (6, .int (nI (dX (stD S) 4))), (5, .int (nI (dX (stD S) 5))), (4, .int (nI (dX (stD S) 6))), (2, .long (prF (stD S))), (0, .ref (h 0)), (1, .int (nI c))]) (st' := [.int (nI 1)]) (ws' := HW Y h a u45 O) rfl rfl rfl rfl ?_
                      refine J_if_eqN (tgt := 156) C dL_isAccused_149 (by decide) (by omega) (fun cq149 => ?_) (fun cq149 => ?_)
                      · exact absurd cq149 (by omega)
                      · refine J_iconst C dL_isAccused_152 (v := nI 1) (by decide) ?_
                        refine J_goto (tgt := 157) C dL_isAccused_153 (by decide) ?_
                        refine J_istore (lv' := [(9, .int (nI 1)), (8, .int (nI (dX (stD S) 3))), (7, .int (nI (hAt (orL (dL (stD S))) 4))), (6, .int (nI (dX (stD S) 4))), (5, .int (nI (dX (stD S) 5))), (4, .int (nI (dX (stD S) 6))), (2, .long (prF (stD S))), (0, .ref (h 0)), (1, .int (nI c))]) C dL_isAccused_157 (by decide) rfl ?_
                        refine J_iconst C dL_isAccused_159 (v := nI 0) (by decide) ?_
                        refine J_istore (lv' := [(10, .int (nI 0)), (9, .int (nI 1)), (8, .int (nI (dX (stD S) 3))), (7, .int (nI (hAt (orL (dL (stD S))) 4))), (6, .int (nI (dX (stD S) 4))), (5, .int (nI (dX (stD S) 5))), (4, .int (nI (dX (stD S) 6))), (2, .long (prF (stD S))), (0, .ref (h 0)), (1, .int (nI c))]) C dL_isAccused_160 (by decide) rfl ?_
                        refine J_lv (lv' := [(0, .ref (h 0)), (1, .int (nI c)), (2, .long (prF (stD S))), (4, .int (nI (dX (stD S) 6))), (5, .int (nI (dX (stD S) 5))), (6, .int (nI (dX (stD S) 4))), (7, .int (nI (hAt (orL (dL (stD S))) 4))), (8, .int (nI (dX (stD S) 3))), (9, .int (nI 1)), (10, .int (nI 0))]) [8, 9, 7, 6, 5, 4, 3, 2, 1, 0] rfl ?_
                        refine J_loop (σ := Nat) (I := fun (j : Nat) => (j ≤ dX (stD S) 1)) (μ := fun (j : Nat) => dX (stD S) 1 - j) (lvf := fun (j : Nat) => [(0, .ref (h 0)), (1, .int (nI c)), (2, .long (prF (stD S))), (4, .int (nI (dX (stD S) 6))), (5, .int (nI (dX (stD S) 5))), (6, .int (nI (dX (stD S) 4))), (7, .int (nI (hAt (orL (dL (stD S))) 4))), (8, .int (nI (dX (stD S) 3))), (9, .int (nI 1)), (10, .int (nI j))]) (stf := fun (j : Nat) => []) (wsf := fun (j : Nat) => HW Y h a u45 O) ?_ (0) (by omega) (rfl) rfl (rfl)
                        rintro j hj ih162
                        refine J_eq (lv' := [(0, .ref (h 0)), (1, .int (nI c)), (2, .long (prF (stD S))), (4, .int (nI (dX (stD S) 6))), (5, .int (nI (dX (stD S) 5))), (6, .int (nI (dX (stD S) 4))), (7, .int (nI (hAt (orL (dL (stD S))) 4))), (8, .int (nI (dX (stD S) 3))), (9, .int (nI 1)), (10, .int (nI j))]) (st' := []) (ws' := HW Y h a u45 O) rfl rfl rfl rfl ?_
                        refine J_iload C dL_isAccused_162 9 rfl ?_
                        refine J_aload_n C dL_isAccused_164 rfl 0 rfl ?_
                        refine J_iconst C dL_isAccused_165 (v := nI 0) (by decide) ?_
                        refine J_callI (wr := []) C (R_H (st := [.int (nI j)]) (wc := HW Y h a u45 O) C hXS (kW_value ll Y hl0 h a u45 O ((b + 1)) 0 (hG45) (by omega) (by decide)) (vx_cwSW 2 C.t gL_isAccused_L_value rfl rfl rfl (by decide +kernel) ⟨by decide, by decide⟩) rfl (List.range 49) (HW_all Y h a u45 O) rng_nd49 rfl (Nat.le_of_ble_eq_true rfl) dL_isAccused_166 ⟨Nat.le_of_ble_eq_true rfl, Nat.le_of_ble_eq_true rfl⟩) (List.range 49) [] (HW_all Y h a u45 O) rfl (by decide) (by decide) (fun r166 u166 hw166 => ?_)
                        subst hw166
                        refine J_eq (pc' := 169) (lv' := [(0, .ref (h 0)), (1, .int (nI c)), (2, .long (prF (stD S))), (4, .int (nI (dX (stD S) 6))), (5, .int (nI (dX (stD S) 5))), (6, .int (nI (dX (stD S) 4))), (7, .int (nI (hAt (orL (dL (stD S))) 4))), (8, .int (nI (dX (stD S) 3))), (9, .int (nI 1)), (10, .int (nI j))]) (st' := [.int (nI (abH (dX (stD u45)) 0)), .int (nI j)]) (ws' := HW Y h a u45 O) rfl rfl rfl rfl ?_
                        refine J_top (y := .int (nI (dX (stD S) 1))) (by rw [he45]; rfl) ?_
                        refine J_icmp_geN (tgt := 230) C dL_isAccused_169 (by decide) (by omega) (by omega) (fun cq169 => ?_) (fun cq169 => ?_)
                        · refine J_iload C dL_isAccused_230 8 rfl ?_
                          refine J_if_eqN (tgt := 255) C dL_isAccused_232 (by decide) (by omega) (fun cq232 => ?_) (fun cq232 => ?_)
                          · exact absurd cq232 (by omega)
                          · refine J_aload_n C dL_isAccused_235 rfl 0 rfl ?_
                            refine J_callI (wr := []) C (R_H (st := []) (wc := HW Y h a u45 O) C hXS (kW_undo ll Y hl0 h a u45 O ((b + 1)) (hG45) (by omega) (stD S) (hV45) (G_E hG) (b) (G_b hG)) (vx_cwSW 1 C.t gL_isAccused_L_undo rfl rfl rfl (by decide +kernel) ⟨by decide, by decide⟩) rfl (List.range 49) (HW_all Y h a u45 O) rng_nd49 rfl (Nat.le_of_ble_eq_true rfl) dL_isAccused_236 ⟨Nat.le_of_ble_eq_true rfl, Nat.le_of_ble_eq_true rfl⟩) (List.range 49) [] (HW_all Y h a u45 O) rfl (by decide) (by decide) (fun r236 u236 hw236 => ?_)
                            obtain ⟨rfl, he236, hG236⟩ := hw236
                            refine J_eq (pc' := 239) (lv' := [(0, .ref (h 0)), (1, .int (nI c)), (2, .long (prF (stD S))), (4, .int (nI (dX (stD S) 6))), (5, .int (nI (dX (stD S) 5))), (6, .int (nI (dX (stD S) 4))), (7, .int (nI (hAt (orL (dL (stD S))) 4))), (8, .int (nI (dX (stD S) 3))), (9, .int (nI 1)), (10, .int (nI j))]) (st' := [.int (nI (stSc u45 - 1))]) (ws' := HW Y h a u236 O) rfl rfl rfl rfl ?_
                            refine J_if_ltN (tgt := 255) C dL_isAccused_239 (by decide) (by have := G_sc hG45; omega) ?_
                            refine J_aload_n C dL_isAccused_242 rfl 0 rfl ?_
                            refine J_callL (wr := []) C (R_P (st := []) (wc := HW Y h a u236 O) C hXS (kO_print ll Y hl0 h a u236 O b (hG236) (by omega)) (va_cwS 1 C.t gL_isAccused_L_print rfl rfl rfl (by decide +kernel) ⟨by decide, by decide⟩) rfl (List.range 49) (HW_all Y h a u236 O) rng_nd49 rfl (Nat.le_of_ble_eq_true rfl) dL_isAccused_243 ⟨Nat.le_of_ble_eq_true rfl, Nat.le_of_ble_eq_true rfl⟩) (List.range 49) [] (HW_all Y h a u236 O) rfl (by decide) (by decide) (fun r243 u243 hw243 => ?_)
                            subst hw243
                            refine J_eq (pc' := 246) (lv' := [(0, .ref (h 0)), (1, .int (nI c)), (2, .long (prF (stD S))), (4, .int (nI (dX (stD S) 6))), (5, .int (nI (dX (stD S) 5))), (6, .int (nI (dX (stD S) 4))), (7, .int (nI (hAt (orL (dL (stD S))) 4))), (8, .int (nI (dX (stD S) 3))), (9, .int (nI 1)), (10, .int (nI j))]) (st' := [.long (prF (stD u236))]) (ws' := HW Y h a u236 O) rfl rfl rfl rfl ?_
                            refine J_top (y := .long (prF (stD S))) (by rw [he236]) ?_
                            refine J_lload_n C dL_isAccused_246 rfl 2 rfl ?_
                            refine J_lcmp C dL_isAccused_247 ?_
                            refine J_top (y := .int (nI 0)) (by rw [lcs]) ?_
                            refine J_if_neN (tgt := 255) C dL_isAccused_248 (by decide) (by omega) (fun cq248 => ?_) (fun cq248 => ?_)
                            · exact absurd cq248 (by omega)
                            · refine J_iconst C dL_isAccused_251 (v := nI 1) (by decide) ?_
                              refine J_goto (tgt := 256) C dL_isAccused_252 (by decide) ?_
                              exact J_zret C hr (by decide) dL_isAccused_256 u236 (⟨rfl, he236, hG236⟩) (rfl)
                        · refine J_iload C dL_isAccused_172 8 rfl ?_
                          refine J_if_eqN (tgt := 230) C dL_isAccused_174 (by decide) (by omega) (fun cq174 => ?_) (fun cq174 => ?_)
                          · exact absurd cq174 (by omega)
                          · refine J_aload_n C dL_isAccused_177 rfl 0 rfl ?_
                            refine J_iload C dL_isAccused_178 9 rfl ?_
                            refine J_bipush C dL_isAccused_180 (v := nI 7) (by decide) ?_
                            refine J_callI (wr := []) C (R_H (st := []) (wc := HW Y h a u45 O) C hXS (kW_guest ll Y hl0 h a u45 O ((b + 1)) j 7 (hG45) (by omega) (by rw [he45]; exact cq169) (by decide)) (vx_cwSW 3 C.t gL_isAccused_L_guest rfl rfl rfl (by decide +kernel) ⟨by decide, by decide⟩) rfl (List.range 49) (HW_all Y h a u45 O) rng_nd49 rfl (Nat.le_of_ble_eq_true rfl) dL_isAccused_182 ⟨Nat.le_of_ble_eq_true rfl, Nat.le_of_ble_eq_true rfl⟩) (List.range 49) [] (HW_all Y h a u45 O) rfl (by decide) (by decide) (fun r182 u182 hw182 => ?_)
                            subst hw182
                            refine J_eq (pc' := 185) (lv' := [(0, .ref (h 0)), (1, .int (nI c)), (2, .long (prF (stD S))), (4, .int (nI (dX (stD S) 6))), (5, .int (nI (dX (stD S) 5))), (6, .int (nI (dX (stD S) 4))), (7, .int (nI (hAt (orL (dL (stD S))) 4))), (8, .int (nI (dX (stD S) 3))), (9, .int (nI 1)), (10, .int (nI j))]) (st' := [.int (nI (abG (dX (stD u45)) (dHd (stD u45)) (dPb (stD u45)) (dAg (stD u45)) (dL (stD u45)) j 7))]) (ws' := HW Y h a u45 O) rfl rfl rfl rfl ?_
                            refine J_top (y := .int (nI (dHd (stD S) j))) (by rw [he45, ac_7]) ?_
                            refine J_istore (lv' := [(11, .int (nI (dHd (stD S) j))), (0, .ref (h 0)), (1, .int (nI c)), (2, .long (prF (stD S))), (4, .int (nI (dX (stD S) 6))), (5, .int (nI (dX (stD S) 5))), (6, .int (nI (dX (stD S) 4))), (7, .int (nI (hAt (orL (dL (stD S))) 4))), (8, .int (nI (dX (stD S) 3))), (9, .int (nI 1)), (10, .int (nI j))]) C dL_isAccused_185 (by decide) rfl ?_
                            refine J_iload C dL_isAccused_187 0 rfl ?_
                            refine J_aload_n C dL_isAccused_189 rfl 1 rfl ?_
                            refine J_iload C dL_isAccused_190 10 rfl ?_
                            refine J_iconst C dL_isAccused_192 (v := nI 5) (by decide) ?_
                            refine J_callI (wr := []) C (R_H (st := [.int (nI (dHd (stD S) j))]) (wc := HW Y h a u45 O) C hXS (kW_guest ll Y hl0 h a u45 O ((b + 1)) j 5 (hG45) (by omega) (by rw [he45]; exact cq169) (by decide)) (vx_cwSW 3 C.t gL_isAccused_L_guest rfl rfl rfl (by decide +kernel) ⟨by decide, by decide⟩) rfl (List.range 49) (HW_all Y h a u45 O) rng_nd49 rfl (Nat.le_of_ble_eq_true rfl) dL_isAccused_193 ⟨Nat.le_of_ble_eq_true rfl, Nat.le_of_ble_eq_true rfl⟩) (List.range 49) [] (HW_all Y h a u45 O) rfl (by decide) (by decide) (fun r193 u193 hw193 => ?_)
                            subst hw193
                            refine J_eq (pc' := 196) (lv' := [(11, .int (nI (dHd (stD S) j))), (0, .ref (h 0)), (1, .int (nI c)), (2, .long (prF (stD S))), (4, .int (nI (dX (stD S) 6))), (5, .int (nI (dX (stD S) 5))), (6, .int (nI (dX (stD S) 4))), (7, .int (nI (hAt (orL (dL (stD S))) 4))), (8, .int (nI (dX (stD S) 3))), (9, .int (nI 1)), (10, .int (nI j))]) (st' := [.int (nI (abG (dX (stD u45)) (dHd (stD u45)) (dPb (stD u45)) (dAg (stD u45)) (dL (stD u45)) j 5)), .int (nI (dHd (stD S) j))]) (ws' := HW Y h a u45 O) rfl rfl rfl rfl ?_
                            refine J_top (y := .int (nI (hAt (orL (dL (stD S))) j))) (by rw [he45]; rfl) ?_
                            refine J_iconst C dL_isAccused_196 (v := iZ ((-1))) (by decide) ?_
                            refine J_ixor C dL_isAccused_197 ?_
                            refine J_iand C dL_isAccused_198 ?_
                            refine J_top (y := .int (nI 0)) (by rw [andnot (hand_some hE (by omega))]) ?_
                            refine J_if_neN (tgt := 221) C dL_isAccused_199 (by decide) (by omega) (fun cq199 => ?_) (fun cq199 => ?_)
                            · exact absurd cq199 (by omega)
                            · refine J_aload_n C dL_isAccused_202 rfl 1 rfl ?_
                              refine J_iload C dL_isAccused_203 10 rfl ?_
                              refine J_iconst C dL_isAccused_205 (v := nI 4) (by decide) ?_
                              refine J_callI (wr := []) C (R_H (st := []) (wc := HW Y h a u45 O) C hXS (kW_guest ll Y hl0 h a u45 O ((b + 1)) j 4 (hG45) (by omega) (by rw [he45]; exact cq169) (by decide)) (vx_cwSW 3 C.t gL_isAccused_L_guest rfl rfl rfl (by decide +kernel) ⟨by decide, by decide⟩) rfl (List.range 49) (HW_all Y h a u45 O) rng_nd49 rfl (Nat.le_of_ble_eq_true rfl) dL_isAccused_206 ⟨Nat.le_of_ble_eq_true rfl, Nat.le_of_ble_eq_true rfl⟩) (List.range 49) [] (HW_all Y h a u45 O) rfl (by decide) (by decide) (fun r206 u206 hw206 => ?_)
                              subst hw206
                              refine J_eq (pc' := 209) (lv' := [(11, .int (nI (dHd (stD S) j))), (0, .ref (h 0)), (1, .int (nI c)), (2, .long (prF (stD S))), (4, .int (nI (dX (stD S) 6))), (5, .int (nI (dX (stD S) 5))), (6, .int (nI (dX (stD S) 4))), (7, .int (nI (hAt (orL (dL (stD S))) 4))), (8, .int (nI (dX (stD S) 3))), (9, .int (nI 1)), (10, .int (nI j))]) (st' := [.int (nI (abG (dX (stD u45)) (dHd (stD u45)) (dPb (stD u45)) (dAg (stD u45)) (dL (stD u45)) j 4))]) (ws' := HW Y h a u45 O) rfl rfl rfl rfl ?_
                              refine J_top (y := .int (nI (hAt (andL (dL (stD S))) j))) (by rw [he45]; exact congrArg (fun q => Value.int (nI q)) (if_neg (by have := E1_len hE; show ¬ (dL (stD S)).length = 0; omega))) ?_
                              refine J_iload C dL_isAccused_209 0 rfl ?_
                              refine J_iconst C dL_isAccused_211 (v := iZ ((-1))) (by decide) ?_
                              refine J_ixor C dL_isAccused_212 ?_
                              refine J_iand C dL_isAccused_213 ?_
                              refine J_top (y := .int (nI 0)) (by rw [andnot (hand_all hE (by omega))]) ?_
                              refine J_if_neN (tgt := 221) C dL_isAccused_214 (by decide) (by omega) (fun cq214 => ?_) (fun cq214 => ?_)
                              · exact absurd cq214 (by omega)
                              · refine J_iconst C dL_isAccused_217 (v := nI 1) (by decide) ?_
                                refine J_goto (tgt := 222) C dL_isAccused_218 (by decide) ?_
                                refine J_istore (lv' := [(9, .int (nI 1)), (11, .int (nI (dHd (stD S) j))), (0, .ref (h 0)), (1, .int (nI c)), (2, .long (prF (stD S))), (4, .int (nI (dX (stD S) 6))), (5, .int (nI (dX (stD S) 5))), (6, .int (nI (dX (stD S) 4))), (7, .int (nI (hAt (orL (dL (stD S))) 4))), (8, .int (nI (dX (stD S) 3))), (10, .int (nI j))]) C dL_isAccused_222 (by decide) rfl ?_
                                refine J_iinc (j := 10) (v := nI (j + 1)) (lv' := [(10, .int (nI (j + 1))), (9, .int (nI 1)), (11, .int (nI (dHd (stD S) j))), (0, .ref (h 0)), (1, .int (nI c)), (2, .long (prF (stD S))), (4, .int (nI (dX (stD S) 6))), (5, .int (nI (dX (stD S) 5))), (6, .int (nI (dX (stD S) 4))), (7, .int (nI (hAt (orL (dL (stD S))) 4))), (8, .int (nI (dX (stD S) 3)))]) C dL_isAccused_224 rfl (nI_1 _) (by decide) rfl ?_
                                refine J_goto (tgt := 162) C dL_isAccused_227 (by decide) ?_
                                refine J_lv (lv' := [(0, .ref (h 0)), (1, .int (nI c)), (2, .long (prF (stD S))), (4, .int (nI (dX (stD S) 6))), (5, .int (nI (dX (stD S) 5))), (6, .int (nI (dX (stD S) 4))), (7, .int (nI (hAt (orL (dL (stD S))) 4))), (8, .int (nI (dX (stD S) 3))), (9, .int (nI 1)), (10, .int (nI (j + 1)))]) [3, 4, 5, 6, 7, 8, 9, 10, 1, 0] rfl ?_
                                exact ih162 (j + 1) (by omega) (show dX (stD S) 1 - (j + 1) < dX (stD S) 1 - j from by omega)
                · exact absurd cq117 (by omega)
            · exact absurd cq94 (by omega)
    · exact absurd cq5 (by omega)
  · have hn4 := EI_4 (G_E hG)
    have hm20 := EI_12 (G_E hG)
    have hc8 := (G_E hG).1.2.2.1
    have h4b := G_b hG
    refine J_aload_n C dL_isAccused_0 rfl 0 rfl ?_
    refine J_iconst C dL_isAccused_1 (v := nI 1) (by decide) ?_
    refine J_callI (wr := []) C (R_H (st := []) (wc := HW Y h a S O) C hXS (kW_value ll Y hl0 h a S O b 1 (hG) (by omega) (by decide)) (vx_cwSW 2 C.t gL_isAccused_L_value rfl rfl rfl (by decide +kernel) ⟨by decide, by decide⟩) rfl (List.range 49) (HW_all Y h a S O) rng_nd49 rfl (Nat.le_of_ble_eq_true rfl) dL_isAccused_2 ⟨Nat.le_of_ble_eq_true rfl, Nat.le_of_ble_eq_true rfl⟩) (List.range 49) [] (HW_all Y h a S O) rfl (by decide) (by decide) (fun r2 u2 hw2 => ?_)
    subst hw2
    refine J_eq (pc' := 5) (lv' := [(0, .ref (h 0)), (1, .int (nI c))]) (st' := [.int (nI (abH (dX (stD S)) 1))]) (ws' := HW Y h a S O) rfl rfl rfl rfl ?_
    refine J_top (y := .int (nI 0)) (by rw [show abH (dX (stD S)) 1 = dX (stD S) 2 from rfl, hgo]) ?_
    refine J_if_neN (tgt := 10) C dL_isAccused_5 (by decide) (by omega) (fun cq5 => ?_) (fun cq5 => ?_)
    · exact absurd cq5 (by omega)
    · refine J_iconst C dL_isAccused_8 (v := nI 1) (by decide) ?_
      refine J_wd (k' := 160) (n' := 960) (Nat.le_of_ble_eq_true rfl) (Nat.le_of_ble_eq_true rfl) ?_
      exact J_zret C hr (by decide) dL_isAccused_9 S (⟨rfl, rfl, hG⟩) (rfl)

