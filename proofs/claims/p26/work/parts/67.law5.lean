set_option maxHeartbeats 4000000 in
set_option maxRecDepth 100000 in
theorem kO_acts (ll : Launch) (Y : GY) (hl0 : ll.stackTraces = false) (h : Nat → Nat) (a : Nat → Nat) (S : ST) (O : OT) (b : Nat) (xx : Int32) (yy : Nat) (hG : G b S) (hbd : b ≤ 1000) (hy : yy < 1000000) (hb1 : b + 1 ≤ 1000) : CH ll yL_acts wsL_acts { frames := 13, cells := 1, slots := 6, locals := 315 } Y [.ref (h 0), .int xx, .int (nI yy)] (HW Y h a S O) (QI (S := ST) Y (fun (r : Int32) (v : ST) => actQ b S r v) (fun (u : ST) => HW Y h a u O)) 1 6 := by
  refine CP_of (cc := cL_acts) (maxL := 5) (ret := (some .int)) (by decide) rfl (Nat.le_of_ble_eq_true rfl) ?_
  intro pp ee ss mm bl mt cc AA C hr hXS
  refine J_eq (lv' := [(0, .ref (h 0)), (1, .int xx), (2, .int (nI yy))]) (ws' := HW Y h a S O) rfl rfl rfl rfl ?_
  rcases three hG with hz | ⟨hE, hgo⟩ | ⟨hE, hgo⟩
  · have hn4 := EI_4 (G_E hG)
    have hm20 := EI_12 (G_E hG)
    have hc8 := (G_E hG).1.2.2.1
    have hz1 := hz.1
    have hgo := hz.2.1
    refine J_aload_n C dL_acts_0 rfl 0 rfl ?_
    refine J_iconst C dL_acts_1 (v := nI 0) (by decide) ?_
    refine J_callI (wr := []) C (R_H (st := []) (wc := HW Y h a S O) C hXS (kW_value ll Y hl0 h a S O b 0 (hG) (by omega) (by decide)) (vx_cwSW 2 C.t gL_acts_L_value rfl rfl rfl (by decide +kernel) ⟨by decide, by decide⟩) rfl (List.range 49) (HW_all Y h a S O) rng_nd49 rfl (Nat.le_of_ble_eq_true rfl) dL_acts_2 ⟨Nat.le_of_ble_eq_true rfl, Nat.le_of_ble_eq_true rfl⟩) (List.range 49) [] (HW_all Y h a S O) rfl (by decide) (by decide) (fun r2 u2 hw2 => ?_)
    subst hw2
    refine J_eq (pc' := 5) (lv' := [(0, .ref (h 0)), (1, .int xx), (2, .int (nI yy))]) (st' := [.int (nI (abH (dX (stD S)) 0))]) (ws' := HW Y h a S O) rfl rfl rfl rfl ?_
    refine J_top (y := .int (nI (dX (stD S) 1))) (rfl) ?_
    refine J_istore_n (lv' := [(3, .int (nI (dX (stD S) 1))), (0, .ref (h 0)), (1, .int xx), (2, .int (nI yy))]) C dL_acts_5 rfl (by decide) rfl ?_
    refine J_iload_n C dL_acts_6 rfl 0 rfl ?_
    refine J_if_neN (tgt := 14) C dL_acts_7 (by decide) (by omega) (fun cq7 => ?_) (fun cq7 => ?_)
    · exact absurd cq7 (by omega)
    · refine J_iconst C dL_acts_10 (v := nI 0) (by decide) ?_
      refine J_goto (tgt := 17) C dL_acts_11 (by decide) ?_
      refine J_istore (lv' := [(4, .int (nI 0)), (3, .int (nI (dX (stD S) 1))), (0, .ref (h 0)), (1, .int xx), (2, .int (nI yy))]) C dL_acts_17 (by decide) rfl ?_
      refine J_aload_n C dL_acts_19 rfl 2 rfl ?_
      refine J_iconst C dL_acts_20 (v := nI 1) (by decide) ?_
      refine J_callI (wr := []) C (R_H (st := []) (wc := HW Y h a S O) C hXS (kW_value ll Y hl0 h a S O b 1 (hG) (by omega) (by decide)) (vx_cwSW 2 C.t gL_acts_L_value rfl rfl rfl (by decide +kernel) ⟨by decide, by decide⟩) rfl (List.range 49) (HW_all Y h a S O) rng_nd49 rfl (Nat.le_of_ble_eq_true rfl) dL_acts_21 ⟨Nat.le_of_ble_eq_true rfl, Nat.le_of_ble_eq_true rfl⟩) (List.range 49) [] (HW_all Y h a S O) rfl (by decide) (by decide) (fun r21 u21 hw21 => ?_)
      subst hw21
      refine J_eq (pc' := 24) (lv' := [(4, .int (nI 0)), (3, .int (nI (dX (stD S) 1))), (0, .ref (h 0)), (1, .int xx), (2, .int (nI yy))]) (st' := [.int (nI (abH (dX (stD S)) 1))]) (ws' := HW Y h a S O) rfl rfl rfl rfl ?_
      refine J_top (y := .int (nI 0)) (by rw [show abH (dX (stD S)) 1 = dX (stD S) 2 from rfl, hgo]) ?_
      refine J_if_neN (tgt := 60) C dL_acts_24 (by decide) (by omega) (fun cq24 => ?_) (fun cq24 => ?_)
      · exact absurd cq24 (by omega)
      · refine J_iload_n C dL_acts_27 rfl 3 rfl ?_
        refine J_iconst C dL_acts_28 (v := nI 3) (by decide) ?_
        refine J_ishr C dL_acts_29 ?_
        refine J_iconst C dL_acts_30 (v := nI 4) (by decide) ?_
        refine J_callI (wr := HW Y h a S O) C (R_S (st := []) (wc := []) C (kL_low ll Y (xx >>> ((nI 3) &&& 31)) 4 (by decide)) (va_cwS 2 C.t gL_acts_L_low rfl rfl rfl (by decide +kernel) ⟨by decide, by decide⟩) rfl [] rfl (by decide) rfl (Nat.le_of_ble_eq_true rfl) dL_acts_31 ⟨Nat.le_of_ble_eq_true rfl, Nat.le_of_ble_eq_true rfl⟩) [] (List.range 49) rfl (HW_all Y h a S O) rng_nd49 (by decide +kernel) (fun r31 u31 hw31 => ?_)
        obtain ⟨rfl, hu31⟩ := hw31
        refine J_eq (pc' := 34) (lv' := [(4, .int (nI 0)), (3, .int (nI (dX (stD S) 1))), (0, .ref (h 0)), (1, .int xx), (2, .int (nI yy))]) (st' := [.int (nI u31)]) (ws' := HW Y h a S O) rfl rfl rfl (List.append_nil _) ?_
        refine J_if_leN (tgt := 60) C dL_acts_34 (by decide) (by omega) (fun cq34 => ?_) (fun cq34 => ?_)
        · refine J_cut (pc' := 129) (lv' := [(4, .int (nI 0)), (3, .int (nI (dX (stD S) 1))), (0, .ref (h 0)), (1, .int xx), (2, .int (nI yy))]) (st' := []) (ws' := HW Y h a S O) (True) (fun _hT1 => ?_) (fun jn129 => ?_)
          · refine J_aload_n C dL_acts_129 rfl 2 rfl ?_
            refine J_iload C dL_acts_130 0 rfl ?_
            refine J_iconst C dL_acts_132 (v := nI 1) (by decide) ?_
            refine J_iload_n C dL_acts_133 rfl 4 rfl ?_
            refine J_iconst C dL_acts_134 (v := nI 4) (by decide) ?_
            refine J_idivN C dL_acts_135 (by omega) (by omega) (by omega) ?_
            refine J_sipush C dL_acts_136 (v := nI 255) (by decide) ?_
            refine J_iremN C dL_acts_139 (by omega) (by omega) (by omega) ?_
            refine J_iaddN C dL_acts_140 ?_
            refine J_iload_n C dL_acts_141 rfl 4 rfl ?_
            refine J_bipush C dL_acts_142 (v := nI 7) (by decide) ?_
            refine J_idivN C dL_acts_144 (by omega) (by omega) (by omega) ?_
            refine J_iconst C dL_acts_145 (v := nI 3) (by decide) ?_
            refine J_iremN C dL_acts_146 (by omega) (by omega) (by omega) ?_
            refine J_if_neN (tgt := 154) C dL_acts_147 (by decide) (by omega) (fun cq147 => ?_) (fun cq147 => ?_)
            · refine J_iconst C dL_acts_154 (v := nI 0) (by decide) ?_
              refine J_top (y := .int (p2i (yy / 7 % 3 = 0))) (by rw [p2i_f cq147]) ?_
              refine J_callI (wr := []) C (R_H (st := []) (wc := HW Y h a S O) C hXS (kW_ask_x1 ll Y hl0 h a S O b (nI 0) (nI (1 + ((yy / 4) % 255))) (yy / 7 % 3 = 0) (hG) (by omega) (oor (by decide) (by omega))) (vx_cwSW 4 C.t gL_acts_L_ask rfl rfl rfl (by decide +kernel) ⟨by decide, by decide⟩) rfl (List.range 49) (HW_all Y h a S O) rng_nd49 rfl (Nat.le_of_ble_eq_true rfl) dL_acts_155 ⟨Nat.le_of_ble_eq_true rfl, Nat.le_of_ble_eq_true rfl⟩) (List.range 49) [] (HW_all Y h a S O) rfl (by decide) (by decide) (fun r155 u155 hw155 => ?_)
              subst hw155
              refine J_eq (pc' := 158) (lv' := [(4, .int (nI 0)), (3, .int (nI (dX (stD S) 1))), (0, .ref (h 0)), (1, .int xx), (2, .int (nI yy))]) (st' := [.int ((-5000003))]) (ws' := HW Y h a S O) rfl rfl rfl rfl ?_
              exact J_iret C hr dL_acts_158 S (aq_3) (rfl)
            · refine J_iconst C dL_acts_150 (v := nI 1) (by decide) ?_
              refine J_goto (tgt := 155) C dL_acts_151 (by decide) ?_
              refine J_top (y := .int (p2i (yy / 7 % 3 = 0))) (by rw [p2i_t cq147]) ?_
              refine J_callI (wr := []) C (R_H (st := []) (wc := HW Y h a S O) C hXS (kW_ask_x1 ll Y hl0 h a S O b (nI 0) (nI (1 + ((yy / 4) % 255))) (yy / 7 % 3 = 0) (hG) (by omega) (oor (by decide) (by omega))) (vx_cwSW 4 C.t gL_acts_L_ask rfl rfl rfl (by decide +kernel) ⟨by decide, by decide⟩) rfl (List.range 49) (HW_all Y h a S O) rng_nd49 rfl (Nat.le_of_ble_eq_true rfl) dL_acts_155 ⟨Nat.le_of_ble_eq_true rfl, Nat.le_of_ble_eq_true rfl⟩) (List.range 49) [] (HW_all Y h a S O) rfl (by decide) (by decide) (fun r155 u155 hw155 => ?_)
              subst hw155
              refine J_eq (pc' := 158) (lv' := [(4, .int (nI 0)), (3, .int (nI (dX (stD S) 1))), (0, .ref (h 0)), (1, .int xx), (2, .int (nI yy))]) (st' := [.int ((-5000003))]) (ws' := HW Y h a S O) rfl rfl rfl rfl ?_
              exact J_iret C hr dL_acts_158 S (aq_3) (rfl)
          · refine J_iload_n C dL_acts_60 rfl 3 rfl ?_
            refine J_cut (pc' := 116) (lv' := [(4, .int (nI 0)), (3, .int (nI (dX (stD S) 1))), (0, .ref (h 0)), (1, .int xx), (2, .int (nI yy))]) (st' := []) (ws' := HW Y h a S O) (True) (fun _hT2 => ?_) (fun jn116 => ?_)
            · refine J_aload_n C dL_acts_116 rfl 2 rfl ?_
              refine J_iload C dL_acts_117 0 rfl ?_
              refine J_iload_n C dL_acts_119 rfl 4 rfl ?_
              refine J_iconst C dL_acts_120 (v := nI 4) (by decide) ?_
              refine J_idivN C dL_acts_121 (by omega) (by omega) (by omega) ?_
              refine J_bipush C dL_acts_122 (v := nI 8) (by decide) ?_
              refine J_iremN C dL_acts_124 (by omega) (by omega) (by omega) ?_
              refine J_callI (wr := []) C (R_H (st := []) (wc := HW Y h a S O) C hXS (kW_prove_x1 ll Y hl0 h a S O b (nI 0) (nI ((yy / 4) % 8)) (hG) (by omega) (oor2 (by decide) (by omega))) (vx_cwSW 3 C.t gL_acts_L_prove rfl rfl rfl (by decide +kernel) ⟨by decide, by decide⟩) rfl (List.range 49) (HW_all Y h a S O) rng_nd49 rfl (Nat.le_of_ble_eq_true rfl) dL_acts_125 ⟨Nat.le_of_ble_eq_true rfl, Nat.le_of_ble_eq_true rfl⟩) (List.range 49) [] (HW_all Y h a S O) rfl (by decide) (by decide) (fun r125 u125 hw125 => ?_)
              subst hw125
              refine J_eq (pc' := 128) (lv' := [(4, .int (nI 0)), (3, .int (nI (dX (stD S) 1))), (0, .ref (h 0)), (1, .int xx), (2, .int (nI yy))]) (st' := [.int ((-5000003))]) (ws' := HW Y h a S O) rfl rfl rfl rfl ?_
              exact J_iret C hr dL_acts_128 S (aq_3) (rfl)
            · refine J_bipush C dL_acts_61 (v := nI 16) (by decide) ?_
              refine J_callI (wr := HW Y h a S O) C (R_S (st := []) (wc := []) C (kL_low ll Y xx 16 (by decide)) (va_cwS 2 C.t gL_acts_L_low rfl rfl rfl (by decide +kernel) ⟨by decide, by decide⟩) rfl [] rfl (by decide) rfl (Nat.le_of_ble_eq_true rfl) dL_acts_63 ⟨Nat.le_of_ble_eq_true rfl, Nat.le_of_ble_eq_true rfl⟩) [] (List.range 49) rfl (HW_all Y h a S O) rng_nd49 (by decide +kernel) (fun r63 u63 hw63 => ?_)
              obtain ⟨rfl, hu63⟩ := hw63
              refine J_eq (pc' := 66) (lv' := [(4, .int (nI 0)), (3, .int (nI (dX (stD S) 1))), (0, .ref (h 0)), (1, .int xx), (2, .int (nI yy))]) (st' := [.int (nI u63)]) (ws' := HW Y h a S O) rfl rfl rfl (List.append_nil _) ?_
              rcases (show u63 = 0 ∨ u63 = 1 ∨ u63 = 2 ∨ u63 = 3 ∨ u63 = 4 ∨ u63 = 5 ∨ u63 = 6 ∨ u63 = 7 ∨ u63 = 8 ∨ u63 = 9 ∨ u63 = 10 ∨ u63 = 11 ∨ u63 = 12 ∨ u63 = 13 ∨ u63 = 14 ∨ u63 = 15 by omega) with rfl | rfl | rfl | rfl | rfl | rfl | rfl | rfl | rfl | rfl | rfl | rfl | rfl | rfl | rfl | rfl
              · refine J_tabIn (off := 34) (tgt := 100) C dL_acts_66 (by decide) (by decide) (by decide) (by decide) ?_
                refine J_aload_n C dL_acts_100 rfl 2 rfl ?_
                refine J_iload_n C dL_acts_101 rfl 4 rfl ?_
                refine J_bipush C dL_acts_102 (v := nI 8) (by decide) ?_
                refine J_iremN C dL_acts_104 (by omega) (by omega) (by omega) ?_
                refine J_callI (wr := []) C (R_H (st := []) (wc := HW Y h a S O) C hXS (kW_accuse_x2 ll Y hl0 h a S O b (yy % 8) (hG) (by omega) (by omega) (hgo)) (vx_cwSW 2 C.t gL_acts_L_accuse rfl rfl rfl (by decide +kernel) ⟨by decide, by decide⟩) rfl (List.range 49) (HW_all Y h a S O) rng_nd49 rfl (Nat.le_of_ble_eq_true rfl) dL_acts_105 ⟨Nat.le_of_ble_eq_true rfl, Nat.le_of_ble_eq_true rfl⟩) (List.range 49) [] (HW_all Y h a S O) rfl (by decide) (by decide) (fun r105 u105 hw105 => ?_)
                subst hw105
                refine J_eq (pc' := 108) (lv' := [(4, .int (nI 0)), (3, .int (nI (dX (stD S) 1))), (0, .ref (h 0)), (1, .int xx), (2, .int (nI yy))]) (st' := [.int ((-5000002))]) (ws' := HW Y h a S O) rfl rfl rfl rfl ?_
                exact J_iret C hr dL_acts_108 S (aq_2) (rfl)
              · refine J_tabIn (off := 43) (tgt := 109) C dL_acts_66 (by decide) (by decide) (by decide) (by decide) ?_
                refine J_aload_n C dL_acts_109 rfl 2 rfl ?_
                refine J_iload C dL_acts_110 0 rfl ?_
                refine J_callI (wr := []) C (R_H (st := []) (wc := HW Y h a S O) C hXS (kW_leave_x1 ll Y hl0 h a S O b (nI 0) (hG) (by omega) (oor (by decide) (by omega))) (vx_cwSW 2 C.t gL_acts_L_leave rfl rfl rfl (by decide +kernel) ⟨by decide, by decide⟩) rfl (List.range 49) (HW_all Y h a S O) rng_nd49 rfl (Nat.le_of_ble_eq_true rfl) dL_acts_112 ⟨Nat.le_of_ble_eq_true rfl, Nat.le_of_ble_eq_true rfl⟩) (List.range 49) [] (HW_all Y h a S O) rfl (by decide) (by decide) (fun r112 u112 hw112 => ?_)
                subst hw112
                refine J_eq (pc' := 115) (lv' := [(4, .int (nI 0)), (3, .int (nI (dX (stD S) 1))), (0, .ref (h 0)), (1, .int xx), (2, .int (nI yy))]) (st' := [.int ((-5000003))]) (ws' := HW Y h a S O) rfl rfl rfl rfl ?_
                exact J_iret C hr dL_acts_115 S (aq_3) (rfl)
              · refine J_tabIn (off := 50) (tgt := 116) C dL_acts_66 (by decide) (by decide) (by decide) (by decide) ?_
                exact jn116 (trivial)
              · refine J_tabIn (off := 50) (tgt := 116) C dL_acts_66 (by decide) (by decide) (by decide) (by decide) ?_
                exact jn116 (trivial)
              · refine J_tabIn (off := 50) (tgt := 116) C dL_acts_66 (by decide) (by decide) (by decide) (by decide) ?_
                exact jn116 (trivial)
              · refine J_tabOut (tgt := 129) C dL_acts_66 (by decide) (by decide) ?_
                exact jn129 (trivial)
              · refine J_tabOut (tgt := 129) C dL_acts_66 (by decide) (by decide) ?_
                exact jn129 (trivial)
              · refine J_tabOut (tgt := 129) C dL_acts_66 (by decide) (by decide) ?_
                exact jn129 (trivial)
              · refine J_tabOut (tgt := 129) C dL_acts_66 (by decide) (by decide) ?_
                exact jn129 (trivial)
              · refine J_tabOut (tgt := 129) C dL_acts_66 (by decide) (by decide) ?_
                exact jn129 (trivial)
              · refine J_tabOut (tgt := 129) C dL_acts_66 (by decide) (by decide) ?_
                exact jn129 (trivial)
              · refine J_tabOut (tgt := 129) C dL_acts_66 (by decide) (by decide) ?_
                exact jn129 (trivial)
              · refine J_tabOut (tgt := 129) C dL_acts_66 (by decide) (by decide) ?_
                exact jn129 (trivial)
              · refine J_tabOut (tgt := 129) C dL_acts_66 (by decide) (by decide) ?_
                exact jn129 (trivial)
              · refine J_tabOut (tgt := 129) C dL_acts_66 (by decide) (by decide) ?_
                exact jn129 (trivial)
              · refine J_tabOut (tgt := 129) C dL_acts_66 (by decide) (by decide) ?_
                exact jn129 (trivial)
        · refine J_aload_n C dL_acts_37 rfl 2 rfl ?_
          refine J_iconst C dL_acts_38 (v := nI 3) (by decide) ?_
          refine J_iload_n C dL_acts_39 rfl 4 rfl ?_
          refine J_iconst C dL_acts_40 (v := nI 4) (by decide) ?_
          refine J_iremN C dL_acts_41 (by omega) (by omega) (by omega) ?_
          refine J_iconst C dL_acts_42 (v := nI 3) (by decide) ?_
          refine J_idivN C dL_acts_43 (by omega) (by omega) (by omega) ?_
          refine J_iaddN C dL_acts_44 ?_
          rcases (show yy % 4 / 3 = 0 ∨ yy % 4 / 3 = 1 by omega) with h43 | h43
          · refine J_top (y := .int (nI 3)) (by rw [h43]) ?_
            refine J_iload_n C dL_acts_45 rfl 4 rfl ?_
            refine J_iconst C dL_acts_46 (v := nI 3) (by decide) ?_
            refine J_iremN C dL_acts_47 (by omega) (by omega) (by omega) ?_
            refine J_if_neN (tgt := 55) C dL_acts_48 (by decide) (by omega) (fun cq48 => ?_) (fun cq48 => ?_)
            · refine J_iload_n C dL_acts_55 rfl 4 rfl ?_
              refine J_top (y := .int (iZ ((yy : Int)))) (by rw [iZ_nat]) ?_
              refine J_callI (wr := []) C (R_H (st := []) (wc := HW Y h a S O) C hXS (kW_begin3 ll Y hl0 h a S O b ((yy : Int)) (hG) (by omega) (by omega) (hgo)) (vx_cwSW 3 C.t gL_acts_L_begin rfl rfl rfl (by decide +kernel) ⟨by decide, by decide⟩) rfl (List.range 49) (HW_all Y h a S O) rng_nd49 rfl (Nat.le_of_ble_eq_true rfl) dL_acts_56 ⟨Nat.le_of_ble_eq_true rfl, Nat.le_of_ble_eq_true rfl⟩) (List.range 49) [] (HW_all Y h a S O) rfl (by decide) (by decide) (fun r56 u56 hw56 => ?_)
              obtain ⟨rfl, he56, hG56, hV56⟩ := hw56
              refine J_eq (pc' := 59) (lv' := [(4, .int (nI 0)), (3, .int (nI (dX (stD S) 1))), (0, .ref (h 0)), (1, .int xx), (2, .int (nI yy))]) (st' := [.int (nI (szH 3 0))]) (ws' := HW Y h a u56 O) rfl rfl rfl rfl ?_
              refine J_wd (k' := 1) (n' := 6) (Nat.le_of_ble_eq_true rfl) (Nat.le_of_ble_eq_true rfl) ?_
              exact J_iret C hr dL_acts_59 u56 (aq_y (Nat.lt_of_le_of_lt (szH_le _ _) (by decide)) (Nat.le_succ b) hG56 hV56) (rfl)
            · refine J_iconst C dL_acts_51 (v := iZ ((-1))) (by decide) ?_
              refine J_goto (tgt := 56) C dL_acts_52 (by decide) ?_
              refine J_callI (wr := []) C (R_H (st := []) (wc := HW Y h a S O) C hXS (kW_begin3 ll Y hl0 h a S O b ((-1)) (hG) (by omega) (by omega) (hgo)) (vx_cwSW 3 C.t gL_acts_L_begin rfl rfl rfl (by decide +kernel) ⟨by decide, by decide⟩) rfl (List.range 49) (HW_all Y h a S O) rng_nd49 rfl (Nat.le_of_ble_eq_true rfl) dL_acts_56 ⟨Nat.le_of_ble_eq_true rfl, Nat.le_of_ble_eq_true rfl⟩) (List.range 49) [] (HW_all Y h a S O) rfl (by decide) (by decide) (fun r56 u56 hw56 => ?_)
              obtain ⟨rfl, he56, hG56, hV56⟩ := hw56
              refine J_eq (pc' := 59) (lv' := [(4, .int (nI 0)), (3, .int (nI (dX (stD S) 1))), (0, .ref (h 0)), (1, .int xx), (2, .int (nI yy))]) (st' := [.int (nI (szH 3 0))]) (ws' := HW Y h a u56 O) rfl rfl rfl rfl ?_
              refine J_wd (k' := 1) (n' := 6) (Nat.le_of_ble_eq_true rfl) (Nat.le_of_ble_eq_true rfl) ?_
              exact J_iret C hr dL_acts_59 u56 (aq_y (Nat.lt_of_le_of_lt (szH_le _ _) (by decide)) (Nat.le_succ b) hG56 hV56) (rfl)
          · refine J_top (y := .int (nI 4)) (by rw [h43]) ?_
            refine J_iload_n C dL_acts_45 rfl 4 rfl ?_
            refine J_iconst C dL_acts_46 (v := nI 3) (by decide) ?_
            refine J_iremN C dL_acts_47 (by omega) (by omega) (by omega) ?_
            refine J_if_neN (tgt := 55) C dL_acts_48 (by decide) (by omega) (fun cq48 => ?_) (fun cq48 => ?_)
            · refine J_iload_n C dL_acts_55 rfl 4 rfl ?_
              refine J_top (y := .int (iZ ((yy : Int)))) (by rw [iZ_nat]) ?_
              refine J_callI (wr := []) C (R_H (st := []) (wc := HW Y h a S O) C hXS (kW_begin4 ll Y hl0 h a S O b ((yy : Int)) (hG) (by omega) (by omega) (hgo)) (vx_cwSW 3 C.t gL_acts_L_begin rfl rfl rfl (by decide +kernel) ⟨by decide, by decide⟩) rfl (List.range 49) (HW_all Y h a S O) rng_nd49 rfl (Nat.le_of_ble_eq_true rfl) dL_acts_56 ⟨Nat.le_of_ble_eq_true rfl, Nat.le_of_ble_eq_true rfl⟩) (List.range 49) [] (HW_all Y h a S O) rfl (by decide) (by decide) (fun r56 u56 hw56 => ?_)
              obtain ⟨rfl, he56, hG56, hV56⟩ := hw56
              refine J_eq (pc' := 59) (lv' := [(4, .int (nI 0)), (3, .int (nI (dX (stD S) 1))), (0, .ref (h 0)), (1, .int xx), (2, .int (nI yy))]) (st' := [.int (nI (szH 4 0))]) (ws' := HW Y h a u56 O) rfl rfl rfl rfl ?_
              refine J_wd (k' := 1) (n' := 6) (Nat.le_of_ble_eq_true rfl) (Nat.le_of_ble_eq_true rfl) ?_
              exact J_iret C hr dL_acts_59 u56 (aq_y (Nat.lt_of_le_of_lt (szH_le _ _) (by decide)) (Nat.le_succ b) hG56 hV56) (rfl)
            · refine J_iconst C dL_acts_51 (v := iZ ((-1))) (by decide) ?_
              refine J_goto (tgt := 56) C dL_acts_52 (by decide) ?_
              refine J_callI (wr := []) C (R_H (st := []) (wc := HW Y h a S O) C hXS (kW_begin4 ll Y hl0 h a S O b ((-1)) (hG) (by omega) (by omega) (hgo)) (vx_cwSW 3 C.t gL_acts_L_begin rfl rfl rfl (by decide +kernel) ⟨by decide, by decide⟩) rfl (List.range 49) (HW_all Y h a S O) rng_nd49 rfl (Nat.le_of_ble_eq_true rfl) dL_acts_56 ⟨Nat.le_of_ble_eq_true rfl, Nat.le_of_ble_eq_true rfl⟩) (List.range 49) [] (HW_all Y h a S O) rfl (by decide) (by decide) (fun r56 u56 hw56 => ?_)
              obtain ⟨rfl, he56, hG56, hV56⟩ := hw56
              refine J_eq (pc' := 59) (lv' := [(4, .int (nI 0)), (3, .int (nI (dX (stD S) 1))), (0, .ref (h 0)), (1, .int xx), (2, .int (nI yy))]) (st' := [.int (nI (szH 4 0))]) (ws' := HW Y h a u56 O) rfl rfl rfl rfl ?_
              refine J_wd (k' := 1) (n' := 6) (Nat.le_of_ble_eq_true rfl) (Nat.le_of_ble_eq_true rfl) ?_
              exact J_iret C hr dL_acts_59 u56 (aq_y (Nat.lt_of_le_of_lt (szH_le _ _) (by decide)) (Nat.le_succ b) hG56 hV56) (rfl)
  · have hn4 := EI_4 (G_E hG)
    have hm20 := EI_12 (G_E hG)
    have hc8 := (G_E hG).1.2.2.1
    have y1 := hE.1
    have hkm : yy % (dX (stD S) 1) < dX (stD S) 1 := Nat.mod_lt _ (by omega)
    refine J_aload_n C dL_acts_0 rfl 0 rfl ?_
    refine J_iconst C dL_acts_1 (v := nI 0) (by decide) ?_
    refine J_callI (wr := []) C (R_H (st := []) (wc := HW Y h a S O) C hXS (kW_value ll Y hl0 h a S O b 0 (hG) (by omega) (by decide)) (vx_cwSW 2 C.t gL_acts_L_value rfl rfl rfl (by decide +kernel) ⟨by decide, by decide⟩) rfl (List.range 49) (HW_all Y h a S O) rng_nd49 rfl (Nat.le_of_ble_eq_true rfl) dL_acts_2 ⟨Nat.le_of_ble_eq_true rfl, Nat.le_of_ble_eq_true rfl⟩) (List.range 49) [] (HW_all Y h a S O) rfl (by decide) (by decide) (fun r2 u2 hw2 => ?_)
    subst hw2
    refine J_eq (pc' := 5) (lv' := [(0, .ref (h 0)), (1, .int xx), (2, .int (nI yy))]) (st' := [.int (nI (abH (dX (stD S)) 0))]) (ws' := HW Y h a S O) rfl rfl rfl rfl ?_
    refine J_top (y := .int (nI (dX (stD S) 1))) (rfl) ?_
    refine J_istore_n (lv' := [(3, .int (nI (dX (stD S) 1))), (0, .ref (h 0)), (1, .int xx), (2, .int (nI yy))]) C dL_acts_5 rfl (by decide) rfl ?_
    refine J_iload_n C dL_acts_6 rfl 0 rfl ?_
    refine J_if_neN (tgt := 14) C dL_acts_7 (by decide) (by omega) (fun cq7 => ?_) (fun cq7 => ?_)
    · refine J_iload_n C dL_acts_14 rfl 3 rfl ?_
      refine J_iload_n C dL_acts_15 rfl 0 rfl ?_
      refine J_iremN C dL_acts_16 (by omega) (by omega) (by omega) ?_
      refine J_istore (lv' := [(4, .int (nI (yy % (dX (stD S) 1)))), (3, .int (nI (dX (stD S) 1))), (0, .ref (h 0)), (1, .int xx), (2, .int (nI yy))]) C dL_acts_17 (by decide) rfl ?_
      refine J_aload_n C dL_acts_19 rfl 2 rfl ?_
      refine J_iconst C dL_acts_20 (v := nI 1) (by decide) ?_
      refine J_callI (wr := []) C (R_H (st := []) (wc := HW Y h a S O) C hXS (kW_value ll Y hl0 h a S O b 1 (hG) (by omega) (by decide)) (vx_cwSW 2 C.t gL_acts_L_value rfl rfl rfl (by decide +kernel) ⟨by decide, by decide⟩) rfl (List.range 49) (HW_all Y h a S O) rng_nd49 rfl (Nat.le_of_ble_eq_true rfl) dL_acts_21 ⟨Nat.le_of_ble_eq_true rfl, Nat.le_of_ble_eq_true rfl⟩) (List.range 49) [] (HW_all Y h a S O) rfl (by decide) (by decide) (fun r21 u21 hw21 => ?_)
      subst hw21
      refine J_eq (pc' := 24) (lv' := [(4, .int (nI (yy % (dX (stD S) 1)))), (3, .int (nI (dX (stD S) 1))), (0, .ref (h 0)), (1, .int xx), (2, .int (nI yy))]) (st' := [.int (nI (abH (dX (stD S)) 1))]) (ws' := HW Y h a S O) rfl rfl rfl rfl ?_
      refine J_top (y := .int (nI 1)) (by rw [show abH (dX (stD S)) 1 = dX (stD S) 2 from rfl, hgo]) ?_
      refine J_if_neN (tgt := 60) C dL_acts_24 (by decide) (by omega) (fun cq24 => ?_) (fun cq24 => ?_)
      · refine J_cut (pc' := 129) (lv' := [(4, .int (nI (yy % (dX (stD S) 1)))), (3, .int (nI (dX (stD S) 1))), (0, .ref (h 0)), (1, .int xx), (2, .int (nI yy))]) (st' := []) (ws' := HW Y h a S O) (True) (fun _hT1 => ?_) (fun jn129 => ?_)
        · rcases Decidable.em ((dX (stD S) 2 = 1 ∧ yy % (dX (stD S) 1) < dX (stD S) 1 ∧ dX (stD S) 7 / 2 ^ (yy % (dX (stD S) 1)) &&& 1 = 1) ∧ dX (stD S) 12 < 20 ∧ ¬ (yy / 7 % 3 = 0 ∧ dX (stD S) 8 / 2 ^ (yy % (dX (stD S) 1)) &&& 1 = 1)) with hcan | hcan
          · refine J_aload_n C dL_acts_129 rfl 2 rfl ?_
            refine J_iload C dL_acts_130 0 rfl ?_
            refine J_iconst C dL_acts_132 (v := nI 1) (by decide) ?_
            refine J_iload_n C dL_acts_133 rfl 4 rfl ?_
            refine J_iconst C dL_acts_134 (v := nI 4) (by decide) ?_
            refine J_idivN C dL_acts_135 (by omega) (by omega) (by omega) ?_
            refine J_sipush C dL_acts_136 (v := nI 255) (by decide) ?_
            refine J_iremN C dL_acts_139 (by omega) (by omega) (by omega) ?_
            refine J_iaddN C dL_acts_140 ?_
            refine J_iload_n C dL_acts_141 rfl 4 rfl ?_
            refine J_bipush C dL_acts_142 (v := nI 7) (by decide) ?_
            refine J_idivN C dL_acts_144 (by omega) (by omega) (by omega) ?_
            refine J_iconst C dL_acts_145 (v := nI 3) (by decide) ?_
            refine J_iremN C dL_acts_146 (by omega) (by omega) (by omega) ?_
            refine J_if_neN (tgt := 154) C dL_acts_147 (by decide) (by omega) (fun cq147 => ?_) (fun cq147 => ?_)
            · refine J_iconst C dL_acts_154 (v := nI 0) (by decide) ?_
              refine J_top (y := .int (p2i (yy / 7 % 3 = 0))) (by rw [p2i_f cq147]) ?_
              refine J_callI (wr := []) C (R_H (st := []) (wc := HW Y h a S O) C hXS (kW_ask ll Y hl0 h a S O b (yy % (dX (stD S) 1)) (1 + ((yy / 4) % 255)) (yy / 7 % 3 = 0) (hG) (by omega) (hkm) (by omega) (hcan)) (vx_cwSW 4 C.t gL_acts_L_ask rfl rfl rfl (by decide +kernel) ⟨by decide, by decide⟩) rfl (List.range 49) (HW_all Y h a S O) rng_nd49 rfl (Nat.le_of_ble_eq_true rfl) dL_acts_155 ⟨Nat.le_of_ble_eq_true rfl, Nat.le_of_ble_eq_true rfl⟩) (List.range 49) [] (HW_all Y h a S O) rfl (by decide) (by decide) (fun r155 u155 hw155 => ?_)
              obtain ⟨rfl, he155, hG155, hV155⟩ := hw155
              refine J_eq (pc' := 158) (lv' := [(4, .int (nI (yy % (dX (stD S) 1)))), (3, .int (nI (dX (stD S) 1))), (0, .ref (h 0)), (1, .int xx), (2, .int (nI yy))]) (st' := [.int (nI (ansN (dHd (stD S) (yy % (dX (stD S) 1))) (szH ((dX (stD S)) 1) (yy % (dX (stD S) 1))) (1 + ((yy / 4) % 255)) (yy / 7 % 3 = 0)))]) (ws' := HW Y h a u155 O) rfl rfl rfl rfl ?_
              refine J_wd (k' := 1) (n' := 6) (Nat.le_of_ble_eq_true rfl) (Nat.le_of_ble_eq_true rfl) ?_
              exact J_iret C hr dL_acts_158 u155 (aq_y (Nat.lt_of_le_of_lt (ansN_le (szH_le _ _)) (by decide)) (Nat.le_succ b) hG155 hV155) (rfl)
            · refine J_iconst C dL_acts_150 (v := nI 1) (by decide) ?_
              refine J_goto (tgt := 155) C dL_acts_151 (by decide) ?_
              refine J_top (y := .int (p2i (yy / 7 % 3 = 0))) (by rw [p2i_t cq147]) ?_
              refine J_callI (wr := []) C (R_H (st := []) (wc := HW Y h a S O) C hXS (kW_ask ll Y hl0 h a S O b (yy % (dX (stD S) 1)) (1 + ((yy / 4) % 255)) (yy / 7 % 3 = 0) (hG) (by omega) (hkm) (by omega) (hcan)) (vx_cwSW 4 C.t gL_acts_L_ask rfl rfl rfl (by decide +kernel) ⟨by decide, by decide⟩) rfl (List.range 49) (HW_all Y h a S O) rng_nd49 rfl (Nat.le_of_ble_eq_true rfl) dL_acts_155 ⟨Nat.le_of_ble_eq_true rfl, Nat.le_of_ble_eq_true rfl⟩) (List.range 49) [] (HW_all Y h a S O) rfl (by decide) (by decide) (fun r155 u155 hw155 => ?_)
              obtain ⟨rfl, he155, hG155, hV155⟩ := hw155
              refine J_eq (pc' := 158) (lv' := [(4, .int (nI (yy % (dX (stD S) 1)))), (3, .int (nI (dX (stD S) 1))), (0, .ref (h 0)), (1, .int xx), (2, .int (nI yy))]) (st' := [.int (nI (ansN (dHd (stD S) (yy % (dX (stD S) 1))) (szH ((dX (stD S)) 1) (yy % (dX (stD S) 1))) (1 + ((yy / 4) % 255)) (yy / 7 % 3 = 0)))]) (ws' := HW Y h a u155 O) rfl rfl rfl rfl ?_
              refine J_wd (k' := 1) (n' := 6) (Nat.le_of_ble_eq_true rfl) (Nat.le_of_ble_eq_true rfl) ?_
              exact J_iret C hr dL_acts_158 u155 (aq_y (Nat.lt_of_le_of_lt (ansN_le (szH_le _ _)) (by decide)) (Nat.le_succ b) hG155 hV155) (rfl)
          · refine J_aload_n C dL_acts_129 rfl 2 rfl ?_
            refine J_iload C dL_acts_130 0 rfl ?_
            refine J_iconst C dL_acts_132 (v := nI 1) (by decide) ?_
            refine J_iload_n C dL_acts_133 rfl 4 rfl ?_
            refine J_iconst C dL_acts_134 (v := nI 4) (by decide) ?_
            refine J_idivN C dL_acts_135 (by omega) (by omega) (by omega) ?_
            refine J_sipush C dL_acts_136 (v := nI 255) (by decide) ?_
            refine J_iremN C dL_acts_139 (by omega) (by omega) (by omega) ?_
            refine J_iaddN C dL_acts_140 ?_
            refine J_iload_n C dL_acts_141 rfl 4 rfl ?_
            refine J_bipush C dL_acts_142 (v := nI 7) (by decide) ?_
            refine J_idivN C dL_acts_144 (by omega) (by omega) (by omega) ?_
            refine J_iconst C dL_acts_145 (v := nI 3) (by decide) ?_
            refine J_iremN C dL_acts_146 (by omega) (by omega) (by omega) ?_
            refine J_if_neN (tgt := 154) C dL_acts_147 (by decide) (by omega) (fun cq147 => ?_) (fun cq147 => ?_)
            · refine J_iconst C dL_acts_154 (v := nI 0) (by decide) ?_
              refine J_top (y := .int (p2i (yy / 7 % 3 = 0))) (by rw [p2i_f cq147]) ?_
              refine J_callI (wr := []) C (R_H (st := []) (wc := HW Y h a S O) C hXS (kW_ask_x3 ll Y hl0 h a S O b (yy % (dX (stD S) 1)) (1 + ((yy / 4) % 255)) (yy / 7 % 3 = 0) (hG) (by omega) (hkm) (by omega) (hcan)) (vx_cwSW 4 C.t gL_acts_L_ask rfl rfl rfl (by decide +kernel) ⟨by decide, by decide⟩) rfl (List.range 49) (HW_all Y h a S O) rng_nd49 rfl (Nat.le_of_ble_eq_true rfl) dL_acts_155 ⟨Nat.le_of_ble_eq_true rfl, Nat.le_of_ble_eq_true rfl⟩) (List.range 49) [] (HW_all Y h a S O) rfl (by decide) (by decide) (fun r155 u155 hw155 => ?_)
              subst hw155
              refine J_eq (pc' := 158) (lv' := [(4, .int (nI (yy % (dX (stD S) 1)))), (3, .int (nI (dX (stD S) 1))), (0, .ref (h 0)), (1, .int xx), (2, .int (nI yy))]) (st' := [.int ((-5000002))]) (ws' := HW Y h a S O) rfl rfl rfl rfl ?_
              exact J_iret C hr dL_acts_158 S (aq_2) (rfl)
            · refine J_iconst C dL_acts_150 (v := nI 1) (by decide) ?_
              refine J_goto (tgt := 155) C dL_acts_151 (by decide) ?_
              refine J_top (y := .int (p2i (yy / 7 % 3 = 0))) (by rw [p2i_t cq147]) ?_
              refine J_callI (wr := []) C (R_H (st := []) (wc := HW Y h a S O) C hXS (kW_ask_x3 ll Y hl0 h a S O b (yy % (dX (stD S) 1)) (1 + ((yy / 4) % 255)) (yy / 7 % 3 = 0) (hG) (by omega) (hkm) (by omega) (hcan)) (vx_cwSW 4 C.t gL_acts_L_ask rfl rfl rfl (by decide +kernel) ⟨by decide, by decide⟩) rfl (List.range 49) (HW_all Y h a S O) rng_nd49 rfl (Nat.le_of_ble_eq_true rfl) dL_acts_155 ⟨Nat.le_of_ble_eq_true rfl, Nat.le_of_ble_eq_true rfl⟩) (List.range 49) [] (HW_all Y h a S O) rfl (by decide) (by decide) (fun r155 u155 hw155 => ?_)
              subst hw155
              refine J_eq (pc' := 158) (lv' := [(4, .int (nI (yy % (dX (stD S) 1)))), (3, .int (nI (dX (stD S) 1))), (0, .ref (h 0)), (1, .int xx), (2, .int (nI yy))]) (st' := [.int ((-5000002))]) (ws' := HW Y h a S O) rfl rfl rfl rfl ?_
              exact J_iret C hr dL_acts_158 S (aq_2) (rfl)
        · refine J_iload_n C dL_acts_60 rfl 3 rfl ?_
          refine J_cut (pc' := 116) (lv' := [(4, .int (nI (yy % (dX (stD S) 1)))), (3, .int (nI (dX (stD S) 1))), (0, .ref (h 0)), (1, .int xx), (2, .int (nI yy))]) (st' := []) (ws' := HW Y h a S O) (True) (fun _hT2 => ?_) (fun jn116 => ?_)
          · rcases Decidable.em (dX (stD S) 2 = 1 ∧ yy % (dX (stD S) 1) < dX (stD S) 1 ∧ dX (stD S) 7 / 2 ^ (yy % (dX (stD S) 1)) &&& 1 = 1) with hcan | hcan
            · refine J_aload_n C dL_acts_116 rfl 2 rfl ?_
              refine J_iload C dL_acts_117 0 rfl ?_
              refine J_iload_n C dL_acts_119 rfl 4 rfl ?_
              refine J_iconst C dL_acts_120 (v := nI 4) (by decide) ?_
              refine J_idivN C dL_acts_121 (by omega) (by omega) (by omega) ?_
              refine J_bipush C dL_acts_122 (v := nI 8) (by decide) ?_
              refine J_iremN C dL_acts_124 (by omega) (by omega) (by omega) ?_
              refine J_callI (wr := []) C (R_H (st := []) (wc := HW Y h a S O) C hXS (kW_prove ll Y hl0 h a S O b (yy % (dX (stD S) 1)) ((yy / 4) % 8) (hG) (by omega) (hkm) (by omega) (hcan)) (vx_cwSW 3 C.t gL_acts_L_prove rfl rfl rfl (by decide +kernel) ⟨by decide, by decide⟩) rfl (List.range 49) (HW_all Y h a S O) rng_nd49 rfl (Nat.le_of_ble_eq_true rfl) dL_acts_125 ⟨Nat.le_of_ble_eq_true rfl, Nat.le_of_ble_eq_true rfl⟩) (List.range 49) [] (HW_all Y h a S O) rfl (by decide) (by decide) (fun r125 u125 hw125 => ?_)
              obtain ⟨rfl, he125, hG125, hV125⟩ := hw125
              refine J_eq (pc' := 128) (lv' := [(4, .int (nI (yy % (dX (stD S) 1)))), (3, .int (nI (dX (stD S) 1))), (0, .ref (h 0)), (1, .int xx), (2, .int (nI yy))]) (st' := [.int (p2i (dHd (stD S) (yy % (dX (stD S) 1)) / 2 ^ ((yy / 4) % 8) &&& 1 = 1))]) (ws' := HW Y h a u125 O) rfl rfl rfl rfl ?_
              refine J_wd (k' := 1) (n' := 6) (Nat.le_of_ble_eq_true rfl) (Nat.le_of_ble_eq_true rfl) ?_
              exact J_iret C hr dL_acts_128 u125 (aq_p (Nat.le_succ b) hG125 hV125) (rfl)
            · refine J_aload_n C dL_acts_116 rfl 2 rfl ?_
              refine J_iload C dL_acts_117 0 rfl ?_
              refine J_iload_n C dL_acts_119 rfl 4 rfl ?_
              refine J_iconst C dL_acts_120 (v := nI 4) (by decide) ?_
              refine J_idivN C dL_acts_121 (by omega) (by omega) (by omega) ?_
              refine J_bipush C dL_acts_122 (v := nI 8) (by decide) ?_
              refine J_iremN C dL_acts_124 (by omega) (by omega) (by omega) ?_
              refine J_callI (wr := []) C (R_H (st := []) (wc := HW Y h a S O) C hXS (kW_prove_x2 ll Y hl0 h a S O b (yy % (dX (stD S) 1)) ((yy / 4) % 8) (hG) (by omega) (hkm) (by omega) (hcan)) (vx_cwSW 3 C.t gL_acts_L_prove rfl rfl rfl (by decide +kernel) ⟨by decide, by decide⟩) rfl (List.range 49) (HW_all Y h a S O) rng_nd49 rfl (Nat.le_of_ble_eq_true rfl) dL_acts_125 ⟨Nat.le_of_ble_eq_true rfl, Nat.le_of_ble_eq_true rfl⟩) (List.range 49) [] (HW_all Y h a S O) rfl (by decide) (by decide) (fun r125 u125 hw125 => ?_)
              subst hw125
              refine J_eq (pc' := 128) (lv' := [(4, .int (nI (yy % (dX (stD S) 1)))), (3, .int (nI (dX (stD S) 1))), (0, .ref (h 0)), (1, .int xx), (2, .int (nI yy))]) (st' := [.int ((-5000002))]) (ws' := HW Y h a S O) rfl rfl rfl rfl ?_
              exact J_iret C hr dL_acts_128 S (aq_2) (rfl)
          · refine J_bipush C dL_acts_61 (v := nI 16) (by decide) ?_
            refine J_callI (wr := HW Y h a S O) C (R_S (st := []) (wc := []) C (kL_low ll Y xx 16 (by decide)) (va_cwS 2 C.t gL_acts_L_low rfl rfl rfl (by decide +kernel) ⟨by decide, by decide⟩) rfl [] rfl (by decide) rfl (Nat.le_of_ble_eq_true rfl) dL_acts_63 ⟨Nat.le_of_ble_eq_true rfl, Nat.le_of_ble_eq_true rfl⟩) [] (List.range 49) rfl (HW_all Y h a S O) rng_nd49 (by decide +kernel) (fun r63 u63 hw63 => ?_)
            obtain ⟨rfl, hu63⟩ := hw63
            refine J_eq (pc' := 66) (lv' := [(4, .int (nI (yy % (dX (stD S) 1)))), (3, .int (nI (dX (stD S) 1))), (0, .ref (h 0)), (1, .int xx), (2, .int (nI yy))]) (st' := [.int (nI u63)]) (ws' := HW Y h a S O) rfl rfl rfl (List.append_nil _) ?_
            rcases (show u63 = 0 ∨ u63 = 1 ∨ u63 = 2 ∨ u63 = 3 ∨ u63 = 4 ∨ u63 = 5 ∨ u63 = 6 ∨ u63 = 7 ∨ u63 = 8 ∨ u63 = 9 ∨ u63 = 10 ∨ u63 = 11 ∨ u63 = 12 ∨ u63 = 13 ∨ u63 = 14 ∨ u63 = 15 by omega) with rfl | rfl | rfl | rfl | rfl | rfl | rfl | rfl | rfl | rfl | rfl | rfl | rfl | rfl | rfl | rfl
            · refine J_tabIn (off := 34) (tgt := 100) C dL_acts_66 (by decide) (by decide) (by decide) (by decide) ?_
              refine J_aload_n C dL_acts_100 rfl 2 rfl ?_
              refine J_iload_n C dL_acts_101 rfl 4 rfl ?_
              refine J_bipush C dL_acts_102 (v := nI 8) (by decide) ?_
              refine J_iremN C dL_acts_104 (by omega) (by omega) (by omega) ?_
              refine J_callI (wr := []) C (R_H (st := []) (wc := HW Y h a S O) C hXS (kW_accuse ll Y hl0 h a S O b (yy % 8) (hG) (by omega) (by omega) (hgo)) (vx_cwSW 2 C.t gL_acts_L_accuse rfl rfl rfl (by decide +kernel) ⟨by decide, by decide⟩) rfl (List.range 49) (HW_all Y h a S O) rng_nd49 rfl (Nat.le_of_ble_eq_true rfl) dL_acts_105 ⟨Nat.le_of_ble_eq_true rfl, Nat.le_of_ble_eq_true rfl⟩) (List.range 49) [] (HW_all Y h a S O) rfl (by decide) (by decide) (fun r105 u105 hw105 => ?_)
              obtain ⟨rfl, he105, hG105, hV105⟩ := hw105
              refine J_eq (pc' := 108) (lv' := [(4, .int (nI (yy % (dX (stD S) 1)))), (3, .int (nI (dX (stD S) 1))), (0, .ref (h 0)), (1, .int xx), (2, .int (nI yy))]) (st' := [.int (nI ((dX (stD S)) 3))]) (ws' := HW Y h a u105 O) rfl rfl rfl rfl ?_
              refine J_wd (k' := 1) (n' := 6) (Nat.le_of_ble_eq_true rfl) (Nat.le_of_ble_eq_true rfl) ?_
              exact J_iret C hr dL_acts_108 u105 (aq_y (Nat.lt_trans hc8 (by decide)) (Nat.le_refl _) hG105 hV105) (rfl)
            · refine J_tabIn (off := 43) (tgt := 109) C dL_acts_66 (by decide) (by decide) (by decide) (by decide) ?_
              rcases Decidable.em (dX (stD S) 2 = 1 ∧ yy % (dX (stD S) 1) < dX (stD S) 1 ∧ dX (stD S) 7 / 2 ^ (yy % (dX (stD S) 1)) &&& 1 = 1) with hcan | hcan
              · refine J_aload_n C dL_acts_109 rfl 2 rfl ?_
                refine J_iload C dL_acts_110 0 rfl ?_
                refine J_callI (wr := []) C (R_H (st := []) (wc := HW Y h a S O) C hXS (kW_leave ll Y hl0 h a S O b (yy % (dX (stD S) 1)) (hG) (by omega) (hkm) (hcan)) (vx_cwSW 2 C.t gL_acts_L_leave rfl rfl rfl (by decide +kernel) ⟨by decide, by decide⟩) rfl (List.range 49) (HW_all Y h a S O) rng_nd49 rfl (Nat.le_of_ble_eq_true rfl) dL_acts_112 ⟨Nat.le_of_ble_eq_true rfl, Nat.le_of_ble_eq_true rfl⟩) (List.range 49) [] (HW_all Y h a S O) rfl (by decide) (by decide) (fun r112 u112 hw112 => ?_)
                obtain ⟨rfl, he112, hG112, hV112⟩ := hw112
                refine J_eq (pc' := 115) (lv' := [(4, .int (nI (yy % (dX (stD S) 1)))), (3, .int (nI (dX (stD S) 1))), (0, .ref (h 0)), (1, .int xx), (2, .int (nI yy))]) (st' := [.int (nI (pc8 (clr ((dX (stD S)) 7) (yy % (dX (stD S) 1)))))]) (ws' := HW Y h a u112 O) rfl rfl rfl rfl ?_
                refine J_wd (k' := 1) (n' := 6) (Nat.le_of_ble_eq_true rfl) (Nat.le_of_ble_eq_true rfl) ?_
                exact J_iret C hr dL_acts_115 u112 (aq_y (Nat.lt_of_le_of_lt (pc8_le _) (by decide)) (Nat.le_succ b) hG112 hV112) (rfl)
              · refine J_aload_n C dL_acts_109 rfl 2 rfl ?_
                refine J_iload C dL_acts_110 0 rfl ?_
                refine J_callI (wr := []) C (R_H (st := []) (wc := HW Y h a S O) C hXS (kW_leave_x2 ll Y hl0 h a S O b (yy % (dX (stD S) 1)) (hG) (by omega) (hkm) (hcan)) (vx_cwSW 2 C.t gL_acts_L_leave rfl rfl rfl (by decide +kernel) ⟨by decide, by decide⟩) rfl (List.range 49) (HW_all Y h a S O) rng_nd49 rfl (Nat.le_of_ble_eq_true rfl) dL_acts_112 ⟨Nat.le_of_ble_eq_true rfl, Nat.le_of_ble_eq_true rfl⟩) (List.range 49) [] (HW_all Y h a S O) rfl (by decide) (by decide) (fun r112 u112 hw112 => ?_)
                subst hw112
                refine J_eq (pc' := 115) (lv' := [(4, .int (nI (yy % (dX (stD S) 1)))), (3, .int (nI (dX (stD S) 1))), (0, .ref (h 0)), (1, .int xx), (2, .int (nI yy))]) (st' := [.int ((-5000002))]) (ws' := HW Y h a S O) rfl rfl rfl rfl ?_
                exact J_iret C hr dL_acts_115 S (aq_2) (rfl)
            · refine J_tabIn (off := 50) (tgt := 116) C dL_acts_66 (by decide) (by decide) (by decide) (by decide) ?_
              exact jn116 (trivial)
            · refine J_tabIn (off := 50) (tgt := 116) C dL_acts_66 (by decide) (by decide) (by decide) (by decide) ?_
              exact jn116 (trivial)
            · refine J_tabIn (off := 50) (tgt := 116) C dL_acts_66 (by decide) (by decide) (by decide) (by decide) ?_
              exact jn116 (trivial)
            · refine J_tabOut (tgt := 129) C dL_acts_66 (by decide) (by decide) ?_
              exact jn129 (trivial)
            · refine J_tabOut (tgt := 129) C dL_acts_66 (by decide) (by decide) ?_
              exact jn129 (trivial)
            · refine J_tabOut (tgt := 129) C dL_acts_66 (by decide) (by decide) ?_
              exact jn129 (trivial)
            · refine J_tabOut (tgt := 129) C dL_acts_66 (by decide) (by decide) ?_
              exact jn129 (trivial)
            · refine J_tabOut (tgt := 129) C dL_acts_66 (by decide) (by decide) ?_
              exact jn129 (trivial)
            · refine J_tabOut (tgt := 129) C dL_acts_66 (by decide) (by decide) ?_
              exact jn129 (trivial)
            · refine J_tabOut (tgt := 129) C dL_acts_66 (by decide) (by decide) ?_
              exact jn129 (trivial)
            · refine J_tabOut (tgt := 129) C dL_acts_66 (by decide) (by decide) ?_
              exact jn129 (trivial)
            · refine J_tabOut (tgt := 129) C dL_acts_66 (by decide) (by decide) ?_
              exact jn129 (trivial)
            · refine J_tabOut (tgt := 129) C dL_acts_66 (by decide) (by decide) ?_
              exact jn129 (trivial)
            · refine J_tabOut (tgt := 129) C dL_acts_66 (by decide) (by decide) ?_
              exact jn129 (trivial)
      · exact absurd cq24 (by omega)
    · exact absurd cq7 (by omega)
  · have hn4 := EI_4 (G_E hG)
    have hm20 := EI_12 (G_E hG)
    have hc8 := (G_E hG).1.2.2.1
    have y1 := hE.1
    have hkm : yy % (dX (stD S) 1) < dX (stD S) 1 := Nat.mod_lt _ (by omega)
    refine J_aload_n C dL_acts_0 rfl 0 rfl ?_
    refine J_iconst C dL_acts_1 (v := nI 0) (by decide) ?_
    refine J_callI (wr := []) C (R_H (st := []) (wc := HW Y h a S O) C hXS (kW_value ll Y hl0 h a S O b 0 (hG) (by omega) (by decide)) (vx_cwSW 2 C.t gL_acts_L_value rfl rfl rfl (by decide +kernel) ⟨by decide, by decide⟩) rfl (List.range 49) (HW_all Y h a S O) rng_nd49 rfl (Nat.le_of_ble_eq_true rfl) dL_acts_2 ⟨Nat.le_of_ble_eq_true rfl, Nat.le_of_ble_eq_true rfl⟩) (List.range 49) [] (HW_all Y h a S O) rfl (by decide) (by decide) (fun r2 u2 hw2 => ?_)
    subst hw2
    refine J_eq (pc' := 5) (lv' := [(0, .ref (h 0)), (1, .int xx), (2, .int (nI yy))]) (st' := [.int (nI (abH (dX (stD S)) 0))]) (ws' := HW Y h a S O) rfl rfl rfl rfl ?_
    refine J_top (y := .int (nI (dX (stD S) 1))) (rfl) ?_
    refine J_istore_n (lv' := [(3, .int (nI (dX (stD S) 1))), (0, .ref (h 0)), (1, .int xx), (2, .int (nI yy))]) C dL_acts_5 rfl (by decide) rfl ?_
    refine J_iload_n C dL_acts_6 rfl 0 rfl ?_
    refine J_if_neN (tgt := 14) C dL_acts_7 (by decide) (by omega) (fun cq7 => ?_) (fun cq7 => ?_)
    · refine J_iload_n C dL_acts_14 rfl 3 rfl ?_
      refine J_iload_n C dL_acts_15 rfl 0 rfl ?_
      refine J_iremN C dL_acts_16 (by omega) (by omega) (by omega) ?_
      refine J_istore (lv' := [(4, .int (nI (yy % (dX (stD S) 1)))), (3, .int (nI (dX (stD S) 1))), (0, .ref (h 0)), (1, .int xx), (2, .int (nI yy))]) C dL_acts_17 (by decide) rfl ?_
      refine J_aload_n C dL_acts_19 rfl 2 rfl ?_
      refine J_iconst C dL_acts_20 (v := nI 1) (by decide) ?_
      refine J_callI (wr := []) C (R_H (st := []) (wc := HW Y h a S O) C hXS (kW_value ll Y hl0 h a S O b 1 (hG) (by omega) (by decide)) (vx_cwSW 2 C.t gL_acts_L_value rfl rfl rfl (by decide +kernel) ⟨by decide, by decide⟩) rfl (List.range 49) (HW_all Y h a S O) rng_nd49 rfl (Nat.le_of_ble_eq_true rfl) dL_acts_21 ⟨Nat.le_of_ble_eq_true rfl, Nat.le_of_ble_eq_true rfl⟩) (List.range 49) [] (HW_all Y h a S O) rfl (by decide) (by decide) (fun r21 u21 hw21 => ?_)
      subst hw21
      refine J_eq (pc' := 24) (lv' := [(4, .int (nI (yy % (dX (stD S) 1)))), (3, .int (nI (dX (stD S) 1))), (0, .ref (h 0)), (1, .int xx), (2, .int (nI yy))]) (st' := [.int (nI (abH (dX (stD S)) 1))]) (ws' := HW Y h a S O) rfl rfl rfl rfl ?_
      refine J_top (y := .int (nI 0)) (by rw [show abH (dX (stD S)) 1 = dX (stD S) 2 from rfl, hgo]) ?_
      refine J_if_neN (tgt := 60) C dL_acts_24 (by decide) (by omega) (fun cq24 => ?_) (fun cq24 => ?_)
      · exact absurd cq24 (by omega)
      · refine J_iload_n C dL_acts_27 rfl 3 rfl ?_
        refine J_iconst C dL_acts_28 (v := nI 3) (by decide) ?_
        refine J_ishr C dL_acts_29 ?_
        refine J_iconst C dL_acts_30 (v := nI 4) (by decide) ?_
        refine J_callI (wr := HW Y h a S O) C (R_S (st := []) (wc := []) C (kL_low ll Y (xx >>> ((nI 3) &&& 31)) 4 (by decide)) (va_cwS 2 C.t gL_acts_L_low rfl rfl rfl (by decide +kernel) ⟨by decide, by decide⟩) rfl [] rfl (by decide) rfl (Nat.le_of_ble_eq_true rfl) dL_acts_31 ⟨Nat.le_of_ble_eq_true rfl, Nat.le_of_ble_eq_true rfl⟩) [] (List.range 49) rfl (HW_all Y h a S O) rng_nd49 (by decide +kernel) (fun r31 u31 hw31 => ?_)
        obtain ⟨rfl, hu31⟩ := hw31
        refine J_eq (pc' := 34) (lv' := [(4, .int (nI (yy % (dX (stD S) 1)))), (3, .int (nI (dX (stD S) 1))), (0, .ref (h 0)), (1, .int xx), (2, .int (nI yy))]) (st' := [.int (nI u31)]) (ws' := HW Y h a S O) rfl rfl rfl (List.append_nil _) ?_
        refine J_if_leN (tgt := 60) C dL_acts_34 (by decide) (by omega) (fun cq34 => ?_) (fun cq34 => ?_)
        · refine J_cut (pc' := 129) (lv' := [(4, .int (nI (yy % (dX (stD S) 1)))), (3, .int (nI (dX (stD S) 1))), (0, .ref (h 0)), (1, .int xx), (2, .int (nI yy))]) (st' := []) (ws' := HW Y h a S O) (True) (fun _hT1 => ?_) (fun jn129 => ?_)
          · refine J_aload_n C dL_acts_129 rfl 2 rfl ?_
            refine J_iload C dL_acts_130 0 rfl ?_
            refine J_iconst C dL_acts_132 (v := nI 1) (by decide) ?_
            refine J_iload_n C dL_acts_133 rfl 4 rfl ?_
            refine J_iconst C dL_acts_134 (v := nI 4) (by decide) ?_
            refine J_idivN C dL_acts_135 (by omega) (by omega) (by omega) ?_
            refine J_sipush C dL_acts_136 (v := nI 255) (by decide) ?_
            refine J_iremN C dL_acts_139 (by omega) (by omega) (by omega) ?_
            refine J_iaddN C dL_acts_140 ?_
            refine J_iload_n C dL_acts_141 rfl 4 rfl ?_
            refine J_bipush C dL_acts_142 (v := nI 7) (by decide) ?_
            refine J_idivN C dL_acts_144 (by omega) (by omega) (by omega) ?_
            refine J_iconst C dL_acts_145 (v := nI 3) (by decide) ?_
            refine J_iremN C dL_acts_146 (by omega) (by omega) (by omega) ?_
            refine J_if_neN (tgt := 154) C dL_acts_147 (by decide) (by omega) (fun cq147 => ?_) (fun cq147 => ?_)
            · refine J_iconst C dL_acts_154 (v := nI 0) (by decide) ?_
              refine J_top (y := .int (p2i (yy / 7 % 3 = 0))) (by rw [p2i_f cq147]) ?_
              refine J_callI (wr := []) C (R_H (st := []) (wc := HW Y h a S O) C hXS (kW_ask_x3 ll Y hl0 h a S O b (yy % (dX (stD S) 1)) (1 + ((yy / 4) % 255)) (yy / 7 % 3 = 0) (hG) (by omega) (hkm) (by omega) (fun w => by have := w.1.1; omega)) (vx_cwSW 4 C.t gL_acts_L_ask rfl rfl rfl (by decide +kernel) ⟨by decide, by decide⟩) rfl (List.range 49) (HW_all Y h a S O) rng_nd49 rfl (Nat.le_of_ble_eq_true rfl) dL_acts_155 ⟨Nat.le_of_ble_eq_true rfl, Nat.le_of_ble_eq_true rfl⟩) (List.range 49) [] (HW_all Y h a S O) rfl (by decide) (by decide) (fun r155 u155 hw155 => ?_)
              subst hw155
              refine J_eq (pc' := 158) (lv' := [(4, .int (nI (yy % (dX (stD S) 1)))), (3, .int (nI (dX (stD S) 1))), (0, .ref (h 0)), (1, .int xx), (2, .int (nI yy))]) (st' := [.int ((-5000002))]) (ws' := HW Y h a S O) rfl rfl rfl rfl ?_
              exact J_iret C hr dL_acts_158 S (aq_2) (rfl)
            · refine J_iconst C dL_acts_150 (v := nI 1) (by decide) ?_
              refine J_goto (tgt := 155) C dL_acts_151 (by decide) ?_
              refine J_top (y := .int (p2i (yy / 7 % 3 = 0))) (by rw [p2i_t cq147]) ?_
              refine J_callI (wr := []) C (R_H (st := []) (wc := HW Y h a S O) C hXS (kW_ask_x3 ll Y hl0 h a S O b (yy % (dX (stD S) 1)) (1 + ((yy / 4) % 255)) (yy / 7 % 3 = 0) (hG) (by omega) (hkm) (by omega) (fun w => by have := w.1.1; omega)) (vx_cwSW 4 C.t gL_acts_L_ask rfl rfl rfl (by decide +kernel) ⟨by decide, by decide⟩) rfl (List.range 49) (HW_all Y h a S O) rng_nd49 rfl (Nat.le_of_ble_eq_true rfl) dL_acts_155 ⟨Nat.le_of_ble_eq_true rfl, Nat.le_of_ble_eq_true rfl⟩) (List.range 49) [] (HW_all Y h a S O) rfl (by decide) (by decide) (fun r155 u155 hw155 => ?_)
              subst hw155
              refine J_eq (pc' := 158) (lv' := [(4, .int (nI (yy % (dX (stD S) 1)))), (3, .int (nI (dX (stD S) 1))), (0, .ref (h 0)), (1, .int xx), (2, .int (nI yy))]) (st' := [.int ((-5000002))]) (ws' := HW Y h a S O) rfl rfl rfl rfl ?_
              exact J_iret C hr dL_acts_158 S (aq_2) (rfl)
          · refine J_iload_n C dL_acts_60 rfl 3 rfl ?_
            refine J_cut (pc' := 116) (lv' := [(4, .int (nI (yy % (dX (stD S) 1)))), (3, .int (nI (dX (stD S) 1))), (0, .ref (h 0)), (1, .int xx), (2, .int (nI yy))]) (st' := []) (ws' := HW Y h a S O) (True) (fun _hT2 => ?_) (fun jn116 => ?_)
            · refine J_aload_n C dL_acts_116 rfl 2 rfl ?_
              refine J_iload C dL_acts_117 0 rfl ?_
              refine J_iload_n C dL_acts_119 rfl 4 rfl ?_
              refine J_iconst C dL_acts_120 (v := nI 4) (by decide) ?_
              refine J_idivN C dL_acts_121 (by omega) (by omega) (by omega) ?_
              refine J_bipush C dL_acts_122 (v := nI 8) (by decide) ?_
              refine J_iremN C dL_acts_124 (by omega) (by omega) (by omega) ?_
              refine J_callI (wr := []) C (R_H (st := []) (wc := HW Y h a S O) C hXS (kW_prove_x2 ll Y hl0 h a S O b (yy % (dX (stD S) 1)) ((yy / 4) % 8) (hG) (by omega) (hkm) (by omega) (fun w => by have := w.1; omega)) (vx_cwSW 3 C.t gL_acts_L_prove rfl rfl rfl (by decide +kernel) ⟨by decide, by decide⟩) rfl (List.range 49) (HW_all Y h a S O) rng_nd49 rfl (Nat.le_of_ble_eq_true rfl) dL_acts_125 ⟨Nat.le_of_ble_eq_true rfl, Nat.le_of_ble_eq_true rfl⟩) (List.range 49) [] (HW_all Y h a S O) rfl (by decide) (by decide) (fun r125 u125 hw125 => ?_)
              subst hw125
              refine J_eq (pc' := 128) (lv' := [(4, .int (nI (yy % (dX (stD S) 1)))), (3, .int (nI (dX (stD S) 1))), (0, .ref (h 0)), (1, .int xx), (2, .int (nI yy))]) (st' := [.int ((-5000002))]) (ws' := HW Y h a S O) rfl rfl rfl rfl ?_
              exact J_iret C hr dL_acts_128 S (aq_2) (rfl)
            · refine J_bipush C dL_acts_61 (v := nI 16) (by decide) ?_
              refine J_callI (wr := HW Y h a S O) C (R_S (st := []) (wc := []) C (kL_low ll Y xx 16 (by decide)) (va_cwS 2 C.t gL_acts_L_low rfl rfl rfl (by decide +kernel) ⟨by decide, by decide⟩) rfl [] rfl (by decide) rfl (Nat.le_of_ble_eq_true rfl) dL_acts_63 ⟨Nat.le_of_ble_eq_true rfl, Nat.le_of_ble_eq_true rfl⟩) [] (List.range 49) rfl (HW_all Y h a S O) rng_nd49 (by decide +kernel) (fun r63 u63 hw63 => ?_)
              obtain ⟨rfl, hu63⟩ := hw63
              refine J_eq (pc' := 66) (lv' := [(4, .int (nI (yy % (dX (stD S) 1)))), (3, .int (nI (dX (stD S) 1))), (0, .ref (h 0)), (1, .int xx), (2, .int (nI yy))]) (st' := [.int (nI u63)]) (ws' := HW Y h a S O) rfl rfl rfl (List.append_nil _) ?_
              rcases (show u63 = 0 ∨ u63 = 1 ∨ u63 = 2 ∨ u63 = 3 ∨ u63 = 4 ∨ u63 = 5 ∨ u63 = 6 ∨ u63 = 7 ∨ u63 = 8 ∨ u63 = 9 ∨ u63 = 10 ∨ u63 = 11 ∨ u63 = 12 ∨ u63 = 13 ∨ u63 = 14 ∨ u63 = 15 by omega) with rfl | rfl | rfl | rfl | rfl | rfl | rfl | rfl | rfl | rfl | rfl | rfl | rfl | rfl | rfl | rfl
              · refine J_tabIn (off := 34) (tgt := 100) C dL_acts_66 (by decide) (by decide) (by decide) (by decide) ?_
                refine J_aload_n C dL_acts_100 rfl 2 rfl ?_
                refine J_iload_n C dL_acts_101 rfl 4 rfl ?_
                refine J_bipush C dL_acts_102 (v := nI 8) (by decide) ?_
                refine J_iremN C dL_acts_104 (by omega) (by omega) (by omega) ?_
                refine J_callI (wr := []) C (R_H (st := []) (wc := HW Y h a S O) C hXS (kW_accuse_x2 ll Y hl0 h a S O b (yy % 8) (hG) (by omega) (by omega) (hgo)) (vx_cwSW 2 C.t gL_acts_L_accuse rfl rfl rfl (by decide +kernel) ⟨by decide, by decide⟩) rfl (List.range 49) (HW_all Y h a S O) rng_nd49 rfl (Nat.le_of_ble_eq_true rfl) dL_acts_105 ⟨Nat.le_of_ble_eq_true rfl, Nat.le_of_ble_eq_true rfl⟩) (List.range 49) [] (HW_all Y h a S O) rfl (by decide) (by decide) (fun r105 u105 hw105 => ?_)
                subst hw105
                refine J_eq (pc' := 108) (lv' := [(4, .int (nI (yy % (dX (stD S) 1)))), (3, .int (nI (dX (stD S) 1))), (0, .ref (h 0)), (1, .int xx), (2, .int (nI yy))]) (st' := [.int ((-5000002))]) (ws' := HW Y h a S O) rfl rfl rfl rfl ?_
                exact J_iret C hr dL_acts_108 S (aq_2) (rfl)
              · refine J_tabIn (off := 43) (tgt := 109) C dL_acts_66 (by decide) (by decide) (by decide) (by decide) ?_
                refine J_aload_n C dL_acts_109 rfl 2 rfl ?_
                refine J_iload C dL_acts_110 0 rfl ?_
                refine J_callI (wr := []) C (R_H (st := []) (wc := HW Y h a S O) C hXS (kW_leave_x2 ll Y hl0 h a S O b (yy % (dX (stD S) 1)) (hG) (by omega) (hkm) (fun w => by have := w.1; omega)) (vx_cwSW 2 C.t gL_acts_L_leave rfl rfl rfl (by decide +kernel) ⟨by decide, by decide⟩) rfl (List.range 49) (HW_all Y h a S O) rng_nd49 rfl (Nat.le_of_ble_eq_true rfl) dL_acts_112 ⟨Nat.le_of_ble_eq_true rfl, Nat.le_of_ble_eq_true rfl⟩) (List.range 49) [] (HW_all Y h a S O) rfl (by decide) (by decide) (fun r112 u112 hw112 => ?_)
                subst hw112
                refine J_eq (pc' := 115) (lv' := [(4, .int (nI (yy % (dX (stD S) 1)))), (3, .int (nI (dX (stD S) 1))), (0, .ref (h 0)), (1, .int xx), (2, .int (nI yy))]) (st' := [.int ((-5000002))]) (ws' := HW Y h a S O) rfl rfl rfl rfl ?_
                exact J_iret C hr dL_acts_115 S (aq_2) (rfl)
              · refine J_tabIn (off := 50) (tgt := 116) C dL_acts_66 (by decide) (by decide) (by decide) (by decide) ?_
                exact jn116 (trivial)
              · refine J_tabIn (off := 50) (tgt := 116) C dL_acts_66 (by decide) (by decide) (by decide) (by decide) ?_
                exact jn116 (trivial)
              · refine J_tabIn (off := 50) (tgt := 116) C dL_acts_66 (by decide) (by decide) (by decide) (by decide) ?_
                exact jn116 (trivial)
              · refine J_tabOut (tgt := 129) C dL_acts_66 (by decide) (by decide) ?_
                exact jn129 (trivial)
              · refine J_tabOut (tgt := 129) C dL_acts_66 (by decide) (by decide) ?_
                exact jn129 (trivial)
              · refine J_tabOut (tgt := 129) C dL_acts_66 (by decide) (by decide) ?_
                exact jn129 (trivial)
              · refine J_tabOut (tgt := 129) C dL_acts_66 (by decide) (by decide) ?_
                exact jn129 (trivial)
              · refine J_tabOut (tgt := 129) C dL_acts_66 (by decide) (by decide) ?_
                exact jn129 (trivial)
              · refine J_tabOut (tgt := 129) C dL_acts_66 (by decide) (by decide) ?_
                exact jn129 (trivial)
              · refine J_tabOut (tgt := 129) C dL_acts_66 (by decide) (by decide) ?_
                exact jn129 (trivial)
              · refine J_tabOut (tgt := 129) C dL_acts_66 (by decide) (by decide) ?_
                exact jn129 (trivial)
              · refine J_tabOut (tgt := 129) C dL_acts_66 (by decide) (by decide) ?_
                exact jn129 (trivial)
              · refine J_tabOut (tgt := 129) C dL_acts_66 (by decide) (by decide) ?_
                exact jn129 (trivial)
              · refine J_tabOut (tgt := 129) C dL_acts_66 (by decide) (by decide) ?_
                exact jn129 (trivial)
        · refine J_aload_n C dL_acts_37 rfl 2 rfl ?_
          refine J_iconst C dL_acts_38 (v := nI 3) (by decide) ?_
          refine J_iload_n C dL_acts_39 rfl 4 rfl ?_
          refine J_iconst C dL_acts_40 (v := nI 4) (by decide) ?_
          refine J_iremN C dL_acts_41 (by omega) (by omega) (by omega) ?_
          refine J_iconst C dL_acts_42 (v := nI 3) (by decide) ?_
          refine J_idivN C dL_acts_43 (by omega) (by omega) (by omega) ?_
          refine J_iaddN C dL_acts_44 ?_
          rcases (show yy % 4 / 3 = 0 ∨ yy % 4 / 3 = 1 by omega) with h43 | h43
          · refine J_top (y := .int (nI 3)) (by rw [h43]) ?_
            refine J_iload_n C dL_acts_45 rfl 4 rfl ?_
            refine J_iconst C dL_acts_46 (v := nI 3) (by decide) ?_
            refine J_iremN C dL_acts_47 (by omega) (by omega) (by omega) ?_
            refine J_if_neN (tgt := 55) C dL_acts_48 (by decide) (by omega) (fun cq48 => ?_) (fun cq48 => ?_)
            · refine J_iload_n C dL_acts_55 rfl 4 rfl ?_
              refine J_top (y := .int (iZ ((yy : Int)))) (by rw [iZ_nat]) ?_
              refine J_callI (wr := []) C (R_H (st := []) (wc := HW Y h a S O) C hXS (kW_begin3 ll Y hl0 h a S O b ((yy : Int)) (hG) (by omega) (by omega) (hgo)) (vx_cwSW 3 C.t gL_acts_L_begin rfl rfl rfl (by decide +kernel) ⟨by decide, by decide⟩) rfl (List.range 49) (HW_all Y h a S O) rng_nd49 rfl (Nat.le_of_ble_eq_true rfl) dL_acts_56 ⟨Nat.le_of_ble_eq_true rfl, Nat.le_of_ble_eq_true rfl⟩) (List.range 49) [] (HW_all Y h a S O) rfl (by decide) (by decide) (fun r56 u56 hw56 => ?_)
              obtain ⟨rfl, he56, hG56, hV56⟩ := hw56
              refine J_eq (pc' := 59) (lv' := [(4, .int (nI (yy % (dX (stD S) 1)))), (3, .int (nI (dX (stD S) 1))), (0, .ref (h 0)), (1, .int xx), (2, .int (nI yy))]) (st' := [.int (nI (szH 3 0))]) (ws' := HW Y h a u56 O) rfl rfl rfl rfl ?_
              refine J_wd (k' := 1) (n' := 6) (Nat.le_of_ble_eq_true rfl) (Nat.le_of_ble_eq_true rfl) ?_
              exact J_iret C hr dL_acts_59 u56 (aq_y (Nat.lt_of_le_of_lt (szH_le _ _) (by decide)) (Nat.le_succ b) hG56 hV56) (rfl)
            · refine J_iconst C dL_acts_51 (v := iZ ((-1))) (by decide) ?_
              refine J_goto (tgt := 56) C dL_acts_52 (by decide) ?_
              refine J_callI (wr := []) C (R_H (st := []) (wc := HW Y h a S O) C hXS (kW_begin3 ll Y hl0 h a S O b ((-1)) (hG) (by omega) (by omega) (hgo)) (vx_cwSW 3 C.t gL_acts_L_begin rfl rfl rfl (by decide +kernel) ⟨by decide, by decide⟩) rfl (List.range 49) (HW_all Y h a S O) rng_nd49 rfl (Nat.le_of_ble_eq_true rfl) dL_acts_56 ⟨Nat.le_of_ble_eq_true rfl, Nat.le_of_ble_eq_true rfl⟩) (List.range 49) [] (HW_all Y h a S O) rfl (by decide) (by decide) (fun r56 u56 hw56 => ?_)
              obtain ⟨rfl, he56, hG56, hV56⟩ := hw56
              refine J_eq (pc' := 59) (lv' := [(4, .int (nI (yy % (dX (stD S) 1)))), (3, .int (nI (dX (stD S) 1))), (0, .ref (h 0)), (1, .int xx), (2, .int (nI yy))]) (st' := [.int (nI (szH 3 0))]) (ws' := HW Y h a u56 O) rfl rfl rfl rfl ?_
              refine J_wd (k' := 1) (n' := 6) (Nat.le_of_ble_eq_true rfl) (Nat.le_of_ble_eq_true rfl) ?_
              exact J_iret C hr dL_acts_59 u56 (aq_y (Nat.lt_of_le_of_lt (szH_le _ _) (by decide)) (Nat.le_succ b) hG56 hV56) (rfl)
          · refine J_top (y := .int (nI 4)) (by rw [h43]) ?_
            refine J_iload_n C dL_acts_45 rfl 4 rfl ?_
            refine J_iconst C dL_acts_46 (v := nI 3) (by decide) ?_
            refine J_iremN C dL_acts_47 (by omega) (by omega) (by omega) ?_
            refine J_if_neN (tgt := 55) C dL_acts_48 (by decide) (by omega) (fun cq48 => ?_) (fun cq48 => ?_)
            · refine J_iload_n C dL_acts_55 rfl 4 rfl ?_
              refine J_top (y := .int (iZ ((yy : Int)))) (by rw [iZ_nat]) ?_
              refine J_callI (wr := []) C (R_H (st := []) (wc := HW Y h a S O) C hXS (kW_begin4 ll Y hl0 h a S O b ((yy : Int)) (hG) (by omega) (by omega) (hgo)) (vx_cwSW 3 C.t gL_acts_L_begin rfl rfl rfl (by decide +kernel) ⟨by decide, by decide⟩) rfl (List.range 49) (HW_all Y h a S O) rng_nd49 rfl (Nat.le_of_ble_eq_true rfl) dL_acts_56 ⟨Nat.le_of_ble_eq_true rfl, Nat.le_of_ble_eq_true rfl⟩) (List.range 49) [] (HW_all Y h a S O) rfl (by decide) (by decide) (fun r56 u56 hw56 => ?_)
              obtain ⟨rfl, he56, hG56, hV56⟩ := hw56
              refine J_eq (pc' := 59) (lv' := [(4, .int (nI (yy % (dX (stD S) 1)))), (3, .int (nI (dX (stD S) 1))), (0, .ref (h 0)), (1, .int xx), (2, .int (nI yy))]) (st' := [.int (nI (szH 4 0))]) (ws' := HW Y h a u56 O) rfl rfl rfl rfl ?_
              refine J_wd (k' := 1) (n' := 6) (Nat.le_of_ble_eq_true rfl) (Nat.le_of_ble_eq_true rfl) ?_
              exact J_iret C hr dL_acts_59 u56 (aq_y (Nat.lt_of_le_of_lt (szH_le _ _) (by decide)) (Nat.le_succ b) hG56 hV56) (rfl)
            · refine J_iconst C dL_acts_51 (v := iZ ((-1))) (by decide) ?_
              refine J_goto (tgt := 56) C dL_acts_52 (by decide) ?_
              refine J_callI (wr := []) C (R_H (st := []) (wc := HW Y h a S O) C hXS (kW_begin4 ll Y hl0 h a S O b ((-1)) (hG) (by omega) (by omega) (hgo)) (vx_cwSW 3 C.t gL_acts_L_begin rfl rfl rfl (by decide +kernel) ⟨by decide, by decide⟩) rfl (List.range 49) (HW_all Y h a S O) rng_nd49 rfl (Nat.le_of_ble_eq_true rfl) dL_acts_56 ⟨Nat.le_of_ble_eq_true rfl, Nat.le_of_ble_eq_true rfl⟩) (List.range 49) [] (HW_all Y h a S O) rfl (by decide) (by decide) (fun r56 u56 hw56 => ?_)
              obtain ⟨rfl, he56, hG56, hV56⟩ := hw56
              refine J_eq (pc' := 59) (lv' := [(4, .int (nI (yy % (dX (stD S) 1)))), (3, .int (nI (dX (stD S) 1))), (0, .ref (h 0)), (1, .int xx), (2, .int (nI yy))]) (st' := [.int (nI (szH 4 0))]) (ws' := HW Y h a u56 O) rfl rfl rfl rfl ?_
              refine J_wd (k' := 1) (n' := 6) (Nat.le_of_ble_eq_true rfl) (Nat.le_of_ble_eq_true rfl) ?_
              exact J_iret C hr dL_acts_59 u56 (aq_y (Nat.lt_of_le_of_lt (szH_le _ _) (by decide)) (Nat.le_succ b) hG56 hV56) (rfl)
    · exact absurd cq7 (by omega)

