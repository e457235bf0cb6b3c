set_option maxHeartbeats 4000000 in
set_option maxRecDepth 100000 in
theorem kO_areGuests (ll : Launch) (Y : GY) (hl0 : ll.stackTraces = false) (h : Nat → Nat) (a : Nat → Nat) (S : ST) (O : OT) (b : Nat) (hG : G b S) (hbd : b ≤ 1000) : CH ll yL_areGuests wsL_areGuests { frames := 5, cells := 0, slots := 0, locals := 111 } Y [.ref (h 0)] (HW Y h a S O) (QI (S := Unit) Y (fun (r : Int32) (_ : Unit) => r = nI 1) (fun (u : Unit) => HW Y h a S O)) 0 0 := by
  refine CP_of (cc := cL_areGuests) (maxL := 11) (ret := (some .boolean)) (by decide) rfl (Nat.le_of_ble_eq_true rfl) ?_
  intro pp ee ss mm bl mt cc AA C hr hXS
  refine J_eq (lv' := [(0, .ref (h 0))]) (ws' := HW Y h a S O) rfl rfl rfl rfl ?_
  rcases three hG with hz | ⟨hE, hgo⟩ | ⟨hE, hgo⟩
  · have hn4 := EI_4 (G_E hG)
    have hm20 := EI_12 (G_E hG)
    have h54 := EI_54 (G_E hG)
    have h4b := G_b hG
    have ah := (G_E hG).1.2.2.2.2
    have hc8 := (G_E hG).1.2.2.1
    obtain ⟨z1, hgo, z4, z5, z7, z10, z12, zL⟩ := id hz
    refine J_iconst C dL_areGuests_0 (v := nI 0) (by decide) ?_
    refine J_istore_n (lv' := [(1, .int (nI 0)), (0, .ref (h 0))]) C dL_areGuests_1 rfl (by decide) rfl ?_
    refine J_iconst C dL_areGuests_2 (v := nI 0) (by decide) ?_
    refine J_istore_n (lv' := [(2, .int (nI 0)), (1, .int (nI 0)), (0, .ref (h 0))]) C dL_areGuests_3 rfl (by decide) rfl ?_
    refine J_iconst C dL_areGuests_4 (v := nI 0) (by decide) ?_
    refine J_istore_n (lv' := [(3, .int (nI 0)), (2, .int (nI 0)), (1, .int (nI 0)), (0, .ref (h 0))]) C dL_areGuests_5 rfl (by decide) rfl ?_
    refine J_iconst C dL_areGuests_6 (v := nI 0) (by decide) ?_
    refine J_istore (lv' := [(4, .int (nI 0)), (3, .int (nI 0)), (2, .int (nI 0)), (1, .int (nI 0)), (0, .ref (h 0))]) C dL_areGuests_7 (by decide) rfl ?_
    refine J_iconst C dL_areGuests_9 (v := nI 0) (by decide) ?_
    refine J_istore (lv' := [(5, .int (nI 0)), (4, .int (nI 0)), (3, .int (nI 0)), (2, .int (nI 0)), (1, .int (nI 0)), (0, .ref (h 0))]) C dL_areGuests_10 (by decide) rfl ?_
    refine J_aload_n C dL_areGuests_12 rfl 5 rfl ?_
    refine J_iconst C dL_areGuests_13 (v := nI 0) (by decide) ?_
    refine J_callI (wr := []) C (R_H (st := []) (wc := HW Y h a S O) C hXS (kW_value ll Y hl0 h a S O b 0 (hG) (by omega) (by decide)) (vx_cwSW 2 C.t gL_areGuests_L_value rfl rfl rfl (by decide +kernel) ⟨by decide, by decide⟩) rfl (List.range 49) (HW_all Y h a S O) rng_nd49 rfl (Nat.le_of_ble_eq_true rfl) dL_areGuests_14 ⟨Nat.le_of_ble_eq_true rfl, Nat.le_of_ble_eq_true rfl⟩) (List.range 49) [] (HW_all Y h a S O) rfl (by decide) (by decide) (fun r14 u14 hw14 => ?_)
    subst hw14
    refine J_eq (pc' := 17) (lv' := [(5, .int (nI 0)), (4, .int (nI 0)), (3, .int (nI 0)), (2, .int (nI 0)), (1, .int (nI 0)), (0, .ref (h 0))]) (st' := [.int (nI (abH (dX (stD S)) 0))]) (ws' := HW Y h a S O) rfl rfl rfl rfl ?_
    refine J_top (y := .int (nI (dX (stD S) 1))) (rfl) ?_
    refine J_istore (lv' := [(6, .int (nI (dX (stD S) 1))), (5, .int (nI 0)), (4, .int (nI 0)), (3, .int (nI 0)), (2, .int (nI 0)), (1, .int (nI 0)), (0, .ref (h 0))]) C dL_areGuests_17 (by decide) rfl ?_
    refine J_aload_n C dL_areGuests_19 rfl 6 rfl ?_
    refine J_iconst C dL_areGuests_20 (v := nI 2) (by decide) ?_
    refine J_callI (wr := []) C (R_H (st := []) (wc := HW Y h a S O) C hXS (kW_value ll Y hl0 h a S O b 2 (hG) (by omega) (by decide)) (vx_cwSW 2 C.t gL_areGuests_L_value rfl rfl rfl (by decide +kernel) ⟨by decide, by decide⟩) rfl (List.range 49) (HW_all Y h a S O) rng_nd49 rfl (Nat.le_of_ble_eq_true rfl) dL_areGuests_21 ⟨Nat.le_of_ble_eq_true rfl, Nat.le_of_ble_eq_true rfl⟩) (List.range 49) [] (HW_all Y h a S O) rfl (by decide) (by decide) (fun r21 u21 hw21 => ?_)
    subst hw21
    refine J_eq (pc' := 24) (lv' := [(6, .int (nI (dX (stD S) 1))), (5, .int (nI 0)), (4, .int (nI 0)), (3, .int (nI 0)), (2, .int (nI 0)), (1, .int (nI 0)), (0, .ref (h 0))]) (st' := [.int (nI (abH (dX (stD S)) 2))]) (ws' := HW Y h a S O) rfl rfl rfl rfl ?_
    refine J_top (y := .int (nI (dX (stD S) 12))) (rfl) ?_
    refine J_bipush C dL_areGuests_24 (v := nI 20) (by decide) ?_
    refine J_icmp_gtN (tgt := 63) C dL_areGuests_26 (by decide) (by omega) (by omega) (fun cq26 => ?_) (fun cq26 => ?_)
    · exact absurd cq26 (by omega)
    · refine J_aload_n C dL_areGuests_29 rfl 6 rfl ?_
      refine J_iconst C dL_areGuests_30 (v := nI 5) (by decide) ?_
      refine J_callI (wr := []) C (R_H (st := []) (wc := HW Y h a S O) C hXS (kW_value ll Y hl0 h a S O b 5 (hG) (by omega) (by decide)) (vx_cwSW 2 C.t gL_areGuests_L_value rfl rfl rfl (by decide +kernel) ⟨by decide, by decide⟩) rfl (List.range 49) (HW_all Y h a S O) rng_nd49 rfl (Nat.le_of_ble_eq_true rfl) dL_areGuests_31 ⟨Nat.le_of_ble_eq_true rfl, Nat.le_of_ble_eq_true rfl⟩) (List.range 49) [] (HW_all Y h a S O) rfl (by decide) (by decide) (fun r31 u31 hw31 => ?_)
      subst hw31
      refine J_eq (pc' := 34) (lv' := [(6, .int (nI (dX (stD S) 1))), (5, .int (nI 0)), (4, .int (nI 0)), (3, .int (nI 0)), (2, .int (nI 0)), (1, .int (nI 0)), (0, .ref (h 0))]) (st' := [.int (nI (abH (dX (stD S)) 5))]) (ws' := HW Y h a S O) rfl rfl rfl rfl ?_
      refine J_top (y := .int (nI (dX (stD S) 5))) (rfl) ?_
      refine J_aload_n C dL_areGuests_34 rfl 6 rfl ?_
      refine J_iconst C dL_areGuests_35 (v := nI 4) (by decide) ?_
      refine J_callI (wr := []) C (R_H (st := [.int (nI (dX (stD S) 5))]) (wc := HW Y h a S O) C hXS (kW_value ll Y hl0 h a S O b 4 (hG) (by omega) (by decide)) (vx_cwSW 2 C.t gL_areGuests_L_value rfl rfl rfl (by decide +kernel) ⟨by decide, by decide⟩) rfl (List.range 49) (HW_all Y h a S O) rng_nd49 rfl (Nat.le_of_ble_eq_true rfl) dL_areGuests_36 ⟨Nat.le_of_ble_eq_true rfl, Nat.le_of_ble_eq_true rfl⟩) (List.range 49) [] (HW_all Y h a S O) rfl (by decide) (by decide) (fun r36 u36 hw36 => ?_)
      subst hw36
      refine J_eq (pc' := 39) (lv' := [(6, .int (nI (dX (stD S) 1))), (5, .int (nI 0)), (4, .int (nI 0)), (3, .int (nI 0)), (2, .int (nI 0)), (1, .int (nI 0)), (0, .ref (h 0))]) (st' := [.int (nI (abH (dX (stD S)) 4)), .int (nI (dX (stD S) 5))]) (ws' := HW Y h a S O) rfl rfl rfl rfl ?_
      refine J_top (y := .int (nI (dX (stD S) 4))) (rfl) ?_
      refine J_icmp_gtN (tgt := 63) C dL_areGuests_39 (by decide) (by omega) (by omega) (fun cq39 => ?_) (fun cq39 => ?_)
      · exact absurd cq39 (by omega)
      · refine J_cut (pc' := 59) (lv' := [(6, .int (nI (dX (stD S) 1))), (5, .int (nI 0)), (4, .int (nI 0)), (3, .int (nI 0)), (2, .int (nI 0)), (1, .int (nI 0)), (0, .ref (h 0))]) (st' := []) (ws' := HW Y h a S O) (True) (fun _hT => ?_) (fun jn59 => ?_)
        · refine J_iconst C dL_areGuests_59 (v := nI 1) (by decide) ?_
          refine J_goto (tgt := 64) C dL_areGuests_60 (by decide) ?_
          refine J_istore (lv' := [(7, .int (nI 1)), (6, .int (nI (dX (stD S) 1))), (5, .int (nI 0)), (4, .int (nI 0)), (3, .int (nI 0)), (2, .int (nI 0)), (1, .int (nI 0)), (0, .ref (h 0))]) C dL_areGuests_64 (by decide) rfl ?_
          refine J_iconst C dL_areGuests_66 (v := nI 0) (by decide) ?_
          refine J_istore (lv' := [(8, .int (nI 0)), (7, .int (nI 1)), (6, .int (nI (dX (stD S) 1))), (5, .int (nI 0)), (4, .int (nI 0)), (3, .int (nI 0)), (2, .int (nI 0)), (1, .int (nI 0)), (0, .ref (h 0))]) C dL_areGuests_67 (by decide) rfl ?_
          refine J_lv (lv' := [(0, .ref (h 0)), (1, .int (nI 0)), (2, .int (nI 0)), (3, .int (nI 0)), (4, .int (nI 0)), (5, .int (nI 0)), (6, .int (nI (dX (stD S) 1))), (7, .int (nI 1)), (8, .int (nI 0))]) [8, 7, 6, 5, 4, 3, 2, 1, 0] rfl ?_
          refine J_loop (σ := Nat) (I := fun (k : Nat) => (k ≤ dX (stD S) 1)) (μ := fun (k : Nat) => dX (stD S) 1 - k) (lvf := fun (k : Nat) => [(0, .ref (h 0)), (1, .int (nI (fb_sm (fun g => dX (stD S) 7 / 2 ^ g &&& 1) k))), (2, .int (nI (fb_sm (fun g => qtN (dAg (stD S)) (dX (stD S) 12) g) k))), (3, .int (nI (fb_sm (dPb (stD S)) k))), (4, .int (nI 0)), (5, .int (nI (fb_sm (fun g => szH (dX (stD S) 1) g) k))), (6, .int (nI (dX (stD S) 1))), (7, .int (nI 1)), (8, .int (nI k))]) (stf := fun (k : Nat) => []) (wsf := fun (k : Nat) => HW Y h a S O) ?_ (0) (by omega) (rfl) rfl (rfl)
          rintro k hk ih69
          refine J_eq (lv' := [(0, .ref (h 0)), (1, .int (nI (fb_sm (fun g => dX (stD S) 7 / 2 ^ g &&& 1) k))), (2, .int (nI (fb_sm (fun g => qtN (dAg (stD S)) (dX (stD S) 12) g) k))), (3, .int (nI (fb_sm (dPb (stD S)) k))), (4, .int (nI 0)), (5, .int (nI (fb_sm (fun g => szH (dX (stD S) 1) g) k))), (6, .int (nI (dX (stD S) 1))), (7, .int (nI 1)), (8, .int (nI k))]) (st' := []) (ws' := HW Y h a S O) rfl rfl rfl rfl ?_
          refine J_iload C dL_areGuests_69 8 rfl ?_
          refine J_iload C dL_areGuests_71 6 rfl ?_
          refine J_icmp_geN (tgt := 209) C dL_areGuests_73 (by decide) (by omega) (by omega) (fun cq73 => ?_) (fun cq73 => ?_)
          · refine J_eq (lv' := [(0, .ref (h 0)), (1, .int (nI (pc8 (dX (stD S) 7)))), (2, .int (nI (dX (stD S) 12))), (3, .int (nI (dX (stD S) 10))), (4, .int (nI 0)), (5, .int (nI 0)), (6, .int (nI (dX (stD S) 1))), (7, .int (nI 1)), (8, .int (nI k))]) rfl (by rw [show k = 0 from by omega, z7, z12, z10]; rfl) rfl rfl ?_
            refine J_iconst C dL_areGuests_209 (v := nI 0) (by decide) ?_
            refine J_istore (lv' := [(8, .int (nI 0)), (0, .ref (h 0)), (1, .int (nI (pc8 (dX (stD S) 7)))), (2, .int (nI (dX (stD S) 12))), (3, .int (nI (dX (stD S) 10))), (4, .int (nI 0)), (5, .int (nI 0)), (6, .int (nI (dX (stD S) 1))), (7, .int (nI 1))]) C dL_areGuests_210 (by decide) rfl ?_
            refine J_lv (lv' := [(0, .ref (h 0)), (1, .int (nI (pc8 (dX (stD S) 7)))), (2, .int (nI (dX (stD S) 12))), (3, .int (nI (dX (stD S) 10))), (4, .int (nI 0)), (5, .int (nI 0)), (6, .int (nI (dX (stD S) 1))), (7, .int (nI 1)), (8, .int (nI 0))]) [1, 2, 3, 4, 5, 6, 7, 8, 0] rfl ?_
            refine J_loop (σ := Nat) (I := fun (q : Nat) => (q ≤ dX (stD S) 12)) (μ := fun (q : Nat) => dX (stD S) 12 - q) (lvf := fun (q : Nat) => [(0, .ref (h 0)), (1, .int (nI (pc8 (dX (stD S) 7)))), (2, .int (nI (dX (stD S) 12))), (3, .int (nI (dX (stD S) 10))), (4, .int (nI 0)), (5, .int (nI 0)), (6, .int (nI (dX (stD S) 1))), (7, .int (nI 1)), (8, .int (nI q))]) (stf := fun (q : Nat) => []) (wsf := fun (q : Nat) => HW Y h a S O) ?_ (0) (by omega) (rfl) rfl (rfl)
            rintro q hq ih212
            refine J_eq (lv' := [(0, .ref (h 0)), (1, .int (nI (pc8 (dX (stD S) 7)))), (2, .int (nI (dX (stD S) 12))), (3, .int (nI (dX (stD S) 10))), (4, .int (nI 0)), (5, .int (nI 0)), (6, .int (nI (dX (stD S) 1))), (7, .int (nI 1)), (8, .int (nI q))]) (st' := []) (ws' := HW Y h a S O) rfl rfl rfl rfl ?_
            refine J_iload C dL_areGuests_212 8 rfl ?_
            refine J_aload_n C dL_areGuests_214 rfl 0 rfl ?_
            refine J_iconst C dL_areGuests_215 (v := nI 2) (by decide) ?_
            refine J_callI (wr := []) C (R_H (st := [.int (nI q)]) (wc := HW Y h a S O) C hXS (kW_value ll Y hl0 h a S O b 2 (hG) (by omega) (by decide)) (vx_cwSW 2 C.t gL_areGuests_L_value rfl rfl rfl (by decide +kernel) ⟨by decide, by decide⟩) rfl (List.range 49) (HW_all Y h a S O) rng_nd49 rfl (Nat.le_of_ble_eq_true rfl) dL_areGuests_216 ⟨Nat.le_of_ble_eq_true rfl, Nat.le_of_ble_eq_true rfl⟩) (List.range 49) [] (HW_all Y h a S O) rfl (by decide) (by decide) (fun r216 u216 hw216 => ?_)
            subst hw216
            refine J_eq (pc' := 219) (lv' := [(0, .ref (h 0)), (1, .int (nI (pc8 (dX (stD S) 7)))), (2, .int (nI (dX (stD S) 12))), (3, .int (nI (dX (stD S) 10))), (4, .int (nI 0)), (5, .int (nI 0)), (6, .int (nI (dX (stD S) 1))), (7, .int (nI 1)), (8, .int (nI q))]) (st' := [.int (nI (abH (dX (stD S)) 2)), .int (nI q)]) (ws' := HW Y h a S O) rfl rfl rfl rfl ?_
            refine J_top (y := .int (nI (dX (stD S) 12))) (rfl) ?_
            refine J_icmp_geN (tgt := 325) C dL_areGuests_219 (by decide) (by omega) (by omega) (fun cq219 => ?_) (fun cq219 => ?_)
            · refine J_iload C dL_areGuests_325 7 rfl ?_
              refine J_if_eqN (tgt := 432) C dL_areGuests_327 (by decide) (by omega) (fun cq327 => ?_) (fun cq327 => ?_)
              · exact absurd cq327 (by omega)
              · refine J_iload_n C dL_areGuests_330 rfl 1 rfl ?_
                refine J_aload_n C dL_areGuests_331 rfl 0 rfl ?_
                refine J_bipush C dL_areGuests_332 (v := nI 8) (by decide) ?_
                refine J_callI (wr := []) C (R_H (st := [.int (nI (pc8 (dX (stD S) 7)))]) (wc := HW Y h a S O) C hXS (kW_value ll Y hl0 h a S O b 8 (hG) (by omega) (by decide)) (vx_cwSW 2 C.t gL_areGuests_L_value rfl rfl rfl (by decide +kernel) ⟨by decide, by decide⟩) rfl (List.range 49) (HW_all Y h a S O) rng_nd49 rfl (Nat.le_of_ble_eq_true rfl) dL_areGuests_334 ⟨Nat.le_of_ble_eq_true rfl, Nat.le_of_ble_eq_true rfl⟩) (List.range 49) [] (HW_all Y h a S O) rfl (by decide) (by decide) (fun r334 u334 hw334 => ?_)
                subst hw334
                refine J_eq (pc' := 337) (lv' := [(0, .ref (h 0)), (1, .int (nI (pc8 (dX (stD S) 7)))), (2, .int (nI (dX (stD S) 12))), (3, .int (nI (dX (stD S) 10))), (4, .int (nI 0)), (5, .int (nI 0)), (6, .int (nI (dX (stD S) 1))), (7, .int (nI 1)), (8, .int (nI q))]) (st' := [.int (nI (abH (dX (stD S)) 8)), .int (nI (pc8 (dX (stD S) 7)))]) (ws' := HW Y h a S O) rfl rfl rfl rfl ?_
                refine J_top (y := .int (nI (pc8 (dX (stD S) 7)))) (rfl) ?_
                refine J_icmp_ne (tgt := 432) C dL_areGuests_337 (by decide) (fun cq337 => ?_) (fun cq337 => ?_)
                · exact absurd rfl cq337
                · refine J_iload_n C dL_areGuests_340 rfl 2 rfl ?_
                  refine J_aload_n C dL_areGuests_341 rfl 0 rfl ?_
                  refine J_iconst C dL_areGuests_342 (v := nI 2) (by decide) ?_
                  refine J_callI (wr := []) C (R_H (st := [.int (nI (dX (stD S) 12))]) (wc := HW Y h a S O) C hXS (kW_value ll Y hl0 h a S O b 2 (hG) (by omega) (by decide)) (vx_cwSW 2 C.t gL_areGuests_L_value rfl rfl rfl (by decide +kernel) ⟨by decide, by decide⟩) rfl (List.range 49) (HW_all Y h a S O) rng_nd49 rfl (Nat.le_of_ble_eq_true rfl) dL_areGuests_343 ⟨Nat.le_of_ble_eq_true rfl, Nat.le_of_ble_eq_true rfl⟩) (List.range 49) [] (HW_all Y h a S O) rfl (by decide) (by decide) (fun r343 u343 hw343 => ?_)
                  subst hw343
                  refine J_eq (pc' := 346) (lv' := [(0, .ref (h 0)), (1, .int (nI (pc8 (dX (stD S) 7)))), (2, .int (nI (dX (stD S) 12))), (3, .int (nI (dX (stD S) 10))), (4, .int (nI 0)), (5, .int (nI 0)), (6, .int (nI (dX (stD S) 1))), (7, .int (nI 1)), (8, .int (nI q))]) (st' := [.int (nI (abH (dX (stD S)) 2)), .int (nI (dX (stD S) 12))]) (ws' := HW Y h a S O) rfl rfl rfl rfl ?_
                  refine J_top (y := .int (nI (dX (stD S) 12))) (rfl) ?_
                  refine J_icmp_ne (tgt := 432) C dL_areGuests_346 (by decide) (fun cq346 => ?_) (fun cq346 => ?_)
                  · exact absurd rfl cq346
                  · refine J_iload_n C dL_areGuests_349 rfl 3 rfl ?_
                    refine J_aload_n C dL_areGuests_350 rfl 0 rfl ?_
                    refine J_iconst C dL_areGuests_351 (v := nI 3) (by decide) ?_
                    refine J_callI (wr := []) C (R_H (st := [.int (nI (dX (stD S) 10))]) (wc := HW Y h a S O) C hXS (kW_value ll Y hl0 h a S O b 3 (hG) (by omega) (by decide)) (vx_cwSW 2 C.t gL_areGuests_L_value rfl rfl rfl (by decide +kernel) ⟨by decide, by decide⟩) rfl (List.range 49) (HW_all Y h a S O) rng_nd49 rfl (Nat.le_of_ble_eq_true rfl) dL_areGuests_352 ⟨Nat.le_of_ble_eq_true rfl, Nat.le_of_ble_eq_true rfl⟩) (List.range 49) [] (HW_all Y h a S O) rfl (by decide) (by decide) (fun r352 u352 hw352 => ?_)
                    subst hw352
                    refine J_eq (pc' := 355) (lv' := [(0, .ref (h 0)), (1, .int (nI (pc8 (dX (stD S) 7)))), (2, .int (nI (dX (stD S) 12))), (3, .int (nI (dX (stD S) 10))), (4, .int (nI 0)), (5, .int (nI 0)), (6, .int (nI (dX (stD S) 1))), (7, .int (nI 1)), (8, .int (nI q))]) (st' := [.int (nI (abH (dX (stD S)) 3)), .int (nI (dX (stD S) 10))]) (ws' := HW Y h a S O) rfl rfl rfl rfl ?_
                    refine J_top (y := .int (nI (dX (stD S) 10))) (rfl) ?_
                    refine J_icmp_ne (tgt := 432) C dL_areGuests_355 (by decide) (fun cq355 => ?_) (fun cq355 => ?_)
                    · exact absurd rfl cq355
                    · refine J_iload C dL_areGuests_358 6 rfl ?_
                      refine J_if_eqN (tgt := 370) C dL_areGuests_360 (by decide) (by omega) (fun cq360 => ?_) (fun cq360 => ?_)
                      · refine J_iload C dL_areGuests_370 6 rfl ?_
                        refine J_if_eqN (tgt := 384) C dL_areGuests_372 (by decide) (by omega) (fun cq372 => ?_) (fun cq372 => ?_)
                        · refine J_aload_n C dL_areGuests_384 rfl 0 rfl ?_
                          refine J_bipush C dL_areGuests_385 (v := nI 9) (by decide) ?_
                          refine J_callI (wr := []) C (R_H (st := []) (wc := HW Y h a S O) C hXS (kW_value ll Y hl0 h a S O b 9 (hG) (by omega) (by decide)) (vx_cwSW 2 C.t gL_areGuests_L_value rfl rfl rfl (by decide +kernel) ⟨by decide, by decide⟩) rfl (List.range 49) (HW_all Y h a S O) rng_nd49 rfl (Nat.le_of_ble_eq_true rfl) dL_areGuests_387 ⟨Nat.le_of_ble_eq_true rfl, Nat.le_of_ble_eq_true rfl⟩) (List.range 49) [] (HW_all Y h a S O) rfl (by decide) (by decide) (fun r387 u387 hw387 => ?_)
                          subst hw387
                          refine J_eq (pc' := 390) (lv' := [(0, .ref (h 0)), (1, .int (nI (pc8 (dX (stD S) 7)))), (2, .int (nI (dX (stD S) 12))), (3, .int (nI (dX (stD S) 10))), (4, .int (nI 0)), (5, .int (nI 0)), (6, .int (nI (dX (stD S) 1))), (7, .int (nI 1)), (8, .int (nI q))]) (st' := [.int (nI (abH (dX (stD S)) 9))]) (ws' := HW Y h a S O) rfl rfl rfl rfl ?_
                          refine J_top (y := .int (iZ ((-1)))) (by rw [show abH (dX (stD S)) 9 = 4294967295 from if_pos (Or.inr z4), m1_nI]) ?_
                          refine J_iconst C dL_areGuests_390 (v := iZ ((-1))) (by decide) ?_
                          refine J_icmp_ne (tgt := 432) C dL_areGuests_391 (by decide) (fun cq391 => ?_) (fun cq391 => ?_)
                          · exact absurd rfl cq391
                          · refine J_goto (tgt := 428) C dL_areGuests_394 (by decide) ?_
                            refine J_iconst C dL_areGuests_428 (v := nI 1) (by decide) ?_
                            refine J_goto (tgt := 433) C dL_areGuests_429 (by decide) ?_
                            exact J_zret C hr (by decide) dL_areGuests_433 (()) (rfl) (rfl)
                        · exact absurd cq372 (by omega)
                      · exact absurd cq360 (by omega)
            · exact absurd cq219 (by omega)
          · exact absurd cq73 (by omega)
        · refine J_iload C dL_areGuests_42 0 rfl ?_
          refine J_if_eqN (tgt := 59) C dL_areGuests_44 (by decide) (by omega) (fun cq44 => ?_) (fun cq44 => ?_)
          · exact jn59 (trivial)
          · exact absurd cq44 (by omega)
  · have hn4 := EI_4 (G_E hG)
    have hm20 := EI_12 (G_E hG)
    have h54 := EI_54 (G_E hG)
    have h4b := G_b hG
    have ah := (G_E hG).1.2.2.2.2
    have hc8 := (G_E hG).1.2.2.1
    obtain ⟨y1, y7, y12, y5, y2, yp, yq, yl⟩ := id hE
    refine J_iconst C dL_areGuests_0 (v := nI 0) (by decide) ?_
    refine J_istore_n (lv' := [(1, .int (nI 0)), (0, .ref (h 0))]) C dL_areGuests_1 rfl (by decide) rfl ?_
    refine J_iconst C dL_areGuests_2 (v := nI 0) (by decide) ?_
    refine J_istore_n (lv' := [(2, .int (nI 0)), (1, .int (nI 0)), (0, .ref (h 0))]) C dL_areGuests_3 rfl (by decide) rfl ?_
    refine J_iconst C dL_areGuests_4 (v := nI 0) (by decide) ?_
    refine J_istore_n (lv' := [(3, .int (nI 0)), (2, .int (nI 0)), (1, .int (nI 0)), (0, .ref (h 0))]) C dL_areGuests_5 rfl (by decide) rfl ?_
    refine J_iconst C dL_areGuests_6 (v := nI 0) (by decide) ?_
    refine J_istore (lv' := [(4, .int (nI 0)), (3, .int (nI 0)), (2, .int (nI 0)), (1, .int (nI 0)), (0, .ref (h 0))]) C dL_areGuests_7 (by decide) rfl ?_
    refine J_iconst C dL_areGuests_9 (v := nI 0) (by decide) ?_
    refine J_istore (lv' := [(5, .int (nI 0)), (4, .int (nI 0)), (3, .int (nI 0)), (2, .int (nI 0)), (1, .int (nI 0)), (0, .ref (h 0))]) C dL_areGuests_10 (by decide) rfl ?_
    refine J_aload_n C dL_areGuests_12 rfl 5 rfl ?_
    refine J_iconst C dL_areGuests_13 (v := nI 0) (by decide) ?_
    refine J_callI (wr := []) C (R_H (st := []) (wc := HW Y h a S O) C hXS (kW_value ll Y hl0 h a S O b 0 (hG) (by omega) (by decide)) (vx_cwSW 2 C.t gL_areGuests_L_value rfl rfl rfl (by decide +kernel) ⟨by decide, by decide⟩) rfl (List.range 49) (HW_all Y h a S O) rng_nd49 rfl (Nat.le_of_ble_eq_true rfl) dL_areGuests_14 ⟨Nat.le_of_ble_eq_true rfl, Nat.le_of_ble_eq_true rfl⟩) (List.range 49) [] (HW_all Y h a S O) rfl (by decide) (by decide) (fun r14 u14 hw14 => ?_)
    subst hw14
    refine J_eq (pc' := 17) (lv' := [(5, .int (nI 0)), (4, .int (nI 0)), (3, .int (nI 0)), (2, .int (nI 0)), (1, .int (nI 0)), (0, .ref (h 0))]) (st' := [.int (nI (abH (dX (stD S)) 0))]) (ws' := HW Y h a S O) rfl rfl rfl rfl ?_
    refine J_top (y := .int (nI (dX (stD S) 1))) (rfl) ?_
    refine J_istore (lv' := [(6, .int (nI (dX (stD S) 1))), (5, .int (nI 0)), (4, .int (nI 0)), (3, .int (nI 0)), (2, .int (nI 0)), (1, .int (nI 0)), (0, .ref (h 0))]) C dL_areGuests_17 (by decide) rfl ?_
    refine J_aload_n C dL_areGuests_19 rfl 6 rfl ?_
    refine J_iconst C dL_areGuests_20 (v := nI 2) (by decide) ?_
    refine J_callI (wr := []) C (R_H (st := []) (wc := HW Y h a S O) C hXS (kW_value ll Y hl0 h a S O b 2 (hG) (by omega) (by decide)) (vx_cwSW 2 C.t gL_areGuests_L_value rfl rfl rfl (by decide +kernel) ⟨by decide, by decide⟩) rfl (List.range 49) (HW_all Y h a S O) rng_nd49 rfl (Nat.le_of_ble_eq_true rfl) dL_areGuests_21 ⟨Nat.le_of_ble_eq_true rfl, Nat.le_of_ble_eq_true rfl⟩) (List.range 49) [] (HW_all Y h a S O) rfl (by decide) (by decide) (fun r21 u21 hw21 => ?_)
    subst hw21
    refine J_eq (pc' := 24) (lv' := [(6, .int (nI (dX (stD S) 1))), (5, .int (nI 0)), (4, .int (nI 0)), (3, .int (nI 0)), (2, .int (nI 0)), (1, .int (nI 0)), (0, .ref (h 0))]) (st' := [.int (nI (abH (dX (stD S)) 2))]) (ws' := HW Y h a S O) rfl rfl rfl rfl ?_
    refine J_top (y := .int (nI (dX (stD S) 12))) (rfl) ?_
    refine J_bipush C dL_areGuests_24 (v := nI 20) (by decide) ?_
    refine J_icmp_gtN (tgt := 63) C dL_areGuests_26 (by decide) (by omega) (by omega) (fun cq26 => ?_) (fun cq26 => ?_)
    · exact absurd cq26 (by omega)
    · refine J_aload_n C dL_areGuests_29 rfl 6 rfl ?_
      refine J_iconst C dL_areGuests_30 (v := nI 5) (by decide) ?_
      refine J_callI (wr := []) C (R_H (st := []) (wc := HW Y h a S O) C hXS (kW_value ll Y hl0 h a S O b 5 (hG) (by omega) (by decide)) (vx_cwSW 2 C.t gL_areGuests_L_value rfl rfl rfl (by decide +kernel) ⟨by decide, by decide⟩) rfl (List.range 49) (HW_all Y h a S O) rng_nd49 rfl (Nat.le_of_ble_eq_true rfl) dL_areGuests_31 ⟨Nat.le_of_ble_eq_true rfl, Nat.le_of_ble_eq_true rfl⟩) (List.range 49) [] (HW_all Y h a S O) rfl (by decide) (by decide) (fun r31 u31 hw31 => ?_)
      subst hw31
      refine J_eq (pc' := 34) (lv' := [(6, .int (nI (dX (stD S) 1))), (5, .int (nI 0)), (4, .int (nI 0)), (3, .int (nI 0)), (2, .int (nI 0)), (1, .int (nI 0)), (0, .ref (h 0))]) (st' := [.int (nI (abH (dX (stD S)) 5))]) (ws' := HW Y h a S O) rfl rfl rfl rfl ?_
      refine J_top (y := .int (nI (dX (stD S) 5))) (rfl) ?_
      refine J_aload_n C dL_areGuests_34 rfl 6 rfl ?_
      refine J_iconst C dL_areGuests_35 (v := nI 4) (by decide) ?_
      refine J_callI (wr := []) C (R_H (st := [.int (nI (dX (stD S) 5))]) (wc := HW Y h a S O) C hXS (kW_value ll Y hl0 h a S O b 4 (hG) (by omega) (by decide)) (vx_cwSW 2 C.t gL_areGuests_L_value rfl rfl rfl (by decide +kernel) ⟨by decide, by decide⟩) rfl (List.range 49) (HW_all Y h a S O) rng_nd49 rfl (Nat.le_of_ble_eq_true rfl) dL_areGuests_36 ⟨Nat.le_of_ble_eq_true rfl, Nat.le_of_ble_eq_true rfl⟩) (List.range 49) [] (HW_all Y h a S O) rfl (by decide) (by decide) (fun r36 u36 hw36 => ?_)
      subst hw36
      refine J_eq (pc' := 39) (lv' := [(6, .int (nI (dX (stD S) 1))), (5, .int (nI 0)), (4, .int (nI 0)), (3, .int (nI 0)), (2, .int (nI 0)), (1, .int (nI 0)), (0, .ref (h 0))]) (st' := [.int (nI (abH (dX (stD S)) 4)), .int (nI (dX (stD S) 5))]) (ws' := HW Y h a S O) rfl rfl rfl rfl ?_
      refine J_top (y := .int (nI (dX (stD S) 4))) (rfl) ?_
      refine J_icmp_gtN (tgt := 63) C dL_areGuests_39 (by decide) (by omega) (by omega) (fun cq39 => ?_) (fun cq39 => ?_)
      · exact absurd cq39 (by omega)
      · refine J_cut (pc' := 59) (lv' := [(6, .int (nI (dX (stD S) 1))), (5, .int (nI 0)), (4, .int (nI 0)), (3, .int (nI 0)), (2, .int (nI 0)), (1, .int (nI 0)), (0, .ref (h 0))]) (st' := []) (ws' := HW Y h a S O) (True) (fun _hT => ?_) (fun jn59 => ?_)
        · refine J_iconst C dL_areGuests_59 (v := nI 1) (by decide) ?_
          refine J_goto (tgt := 64) C dL_areGuests_60 (by decide) ?_
          refine J_istore (lv' := [(7, .int (nI 1)), (6, .int (nI (dX (stD S) 1))), (5, .int (nI 0)), (4, .int (nI 0)), (3, .int (nI 0)), (2, .int (nI 0)), (1, .int (nI 0)), (0, .ref (h 0))]) C dL_areGuests_64 (by decide) rfl ?_
          refine J_iconst C dL_areGuests_66 (v := nI 0) (by decide) ?_
          refine J_istore (lv' := [(8, .int (nI 0)), (7, .int (nI 1)), (6, .int (nI (dX (stD S) 1))), (5, .int (nI 0)), (4, .int (nI 0)), (3, .int (nI 0)), (2, .int (nI 0)), (1, .int (nI 0)), (0, .ref (h 0))]) C dL_areGuests_67 (by decide) rfl ?_
          refine J_lv (lv' := [(0, .ref (h 0)), (1, .int (nI 0)), (2, .int (nI 0)), (3, .int (nI 0)), (4, .int (nI 0)), (5, .int (nI 0)), (6, .int (nI (dX (stD S) 1))), (7, .int (nI 1)), (8, .int (nI 0))]) [8, 7, 6, 5, 4, 3, 2, 1, 0] rfl ?_
          refine J_loop (σ := Nat) (I := fun (k : Nat) => (k ≤ dX (stD S) 1)) (μ := fun (k : Nat) => dX (stD S) 1 - k) (lvf := fun (k : Nat) => [(0, .ref (h 0)), (1, .int (nI (fb_sm (fun g => dX (stD S) 7 / 2 ^ g &&& 1) k))), (2, .int (nI (fb_sm (fun g => qtN (dAg (stD S)) (dX (stD S) 12) g) k))), (3, .int (nI (fb_sm (dPb (stD S)) k))), (4, .int (nI 0)), (5, .int (nI (fb_sm (fun g => szH (dX (stD S) 1) g) k))), (6, .int (nI (dX (stD S) 1))), (7, .int (nI 1)), (8, .int (nI k))]) (stf := fun (k : Nat) => []) (wsf := fun (k : Nat) => HW Y h a S O) ?_ (0) (by omega) (rfl) rfl (rfl)
          rintro k hk ih69
          refine J_eq (lv' := [(0, .ref (h 0)), (1, .int (nI (fb_sm (fun g => dX (stD S) 7 / 2 ^ g &&& 1) k))), (2, .int (nI (fb_sm (fun g => qtN (dAg (stD S)) (dX (stD S) 12) g) k))), (3, .int (nI (fb_sm (dPb (stD S)) k))), (4, .int (nI 0)), (5, .int (nI (fb_sm (fun g => szH (dX (stD S) 1) g) k))), (6, .int (nI (dX (stD S) 1))), (7, .int (nI 1)), (8, .int (nI k))]) (st' := []) (ws' := HW Y h a S O) rfl rfl rfl rfl ?_
          refine J_iload C dL_areGuests_69 8 rfl ?_
          refine J_iload C dL_areGuests_71 6 rfl ?_
          refine J_icmp_geN (tgt := 209) C dL_areGuests_73 (by decide) (by omega) (by omega) (fun cq73 => ?_) (fun cq73 => ?_)
          · refine J_eq (lv' := [(0, .ref (h 0)), (1, .int (nI (pc8 (dX (stD S) 7)))), (2, .int (nI (dX (stD S) 12))), (3, .int (nI (dX (stD S) 10))), (4, .int (nI 0)), (5, .int (nI 7)), (6, .int (nI (dX (stD S) 1))), (7, .int (nI 1)), (8, .int (nI k))]) rfl (by rw [show k = dX (stD S) 1 from by omega, here_n _ hn4 _ y7, ask_n _ (fun i hi => (yq i hi).1), yp, sz_7 y1]) rfl rfl ?_
            refine J_iconst C dL_areGuests_209 (v := nI 0) (by decide) ?_
            refine J_istore (lv' := [(8, .int (nI 0)), (0, .ref (h 0)), (1, .int (nI (pc8 (dX (stD S) 7)))), (2, .int (nI (dX (stD S) 12))), (3, .int (nI (dX (stD S) 10))), (4, .int (nI 0)), (5, .int (nI 7)), (6, .int (nI (dX (stD S) 1))), (7, .int (nI 1))]) C dL_areGuests_210 (by decide) rfl ?_
            refine J_lv (lv' := [(0, .ref (h 0)), (1, .int (nI (pc8 (dX (stD S) 7)))), (2, .int (nI (dX (stD S) 12))), (3, .int (nI (dX (stD S) 10))), (4, .int (nI 0)), (5, .int (nI 7)), (6, .int (nI (dX (stD S) 1))), (7, .int (nI 1)), (8, .int (nI 0))]) [1, 2, 3, 4, 5, 6, 7, 8, 0] rfl ?_
            refine J_loop (σ := Nat) (I := fun (q : Nat) => (q ≤ dX (stD S) 12)) (μ := fun (q : Nat) => dX (stD S) 12 - q) (lvf := fun (q : Nat) => [(0, .ref (h 0)), (1, .int (nI (pc8 (dX (stD S) 7)))), (2, .int (nI (dX (stD S) 12))), (3, .int (nI (dX (stD S) 10))), (4, .int (nI 0)), (5, .int (nI 7)), (6, .int (nI (dX (stD S) 1))), (7, .int (nI 1)), (8, .int (nI q))]) (stf := fun (q : Nat) => []) (wsf := fun (q : Nat) => HW Y h a S O) ?_ (0) (by omega) (rfl) rfl (rfl)
            rintro q hq ih212
            refine J_eq (lv' := [(0, .ref (h 0)), (1, .int (nI (pc8 (dX (stD S) 7)))), (2, .int (nI (dX (stD S) 12))), (3, .int (nI (dX (stD S) 10))), (4, .int (nI 0)), (5, .int (nI 7)), (6, .int (nI (dX (stD S) 1))), (7, .int (nI 1)), (8, .int (nI q))]) (st' := []) (ws' := HW Y h a S O) rfl rfl rfl rfl ?_
            refine J_iload C dL_areGuests_212 8 rfl ?_
            refine J_aload_n C dL_areGuests_214 rfl 0 rfl ?_
            refine J_iconst C dL_areGuests_215 (v := nI 2) (by decide) ?_
            refine J_callI (wr := []) C (R_H (st := [.int (nI q)]) (wc := HW Y h a S O) C hXS (kW_value ll Y hl0 h a S O b 2 (hG) (by omega) (by decide)) (vx_cwSW 2 C.t gL_areGuests_L_value rfl rfl rfl (by decide +kernel) ⟨by decide, by decide⟩) rfl (List.range 49) (HW_all Y h a S O) rng_nd49 rfl (Nat.le_of_ble_eq_true rfl) dL_areGuests_216 ⟨Nat.le_of_ble_eq_true rfl, Nat.le_of_ble_eq_true rfl⟩) (List.range 49) [] (HW_all Y h a S O) rfl (by decide) (by decide) (fun r216 u216 hw216 => ?_)
            subst hw216
            refine J_eq (pc' := 219) (lv' := [(0, .ref (h 0)), (1, .int (nI (pc8 (dX (stD S) 7)))), (2, .int (nI (dX (stD S) 12))), (3, .int (nI (dX (stD S) 10))), (4, .int (nI 0)), (5, .int (nI 7)), (6, .int (nI (dX (stD S) 1))), (7, .int (nI 1)), (8, .int (nI q))]) (st' := [.int (nI (abH (dX (stD S)) 2)), .int (nI q)]) (ws' := HW Y h a S O) rfl rfl rfl rfl ?_
            refine J_top (y := .int (nI (dX (stD S) 12))) (rfl) ?_
            refine J_icmp_geN (tgt := 325) C dL_areGuests_219 (by decide) (by omega) (by omega) (fun cq219 => ?_) (fun cq219 => ?_)
            · refine J_iload C dL_areGuests_325 7 rfl ?_
              refine J_if_eqN (tgt := 432) C dL_areGuests_327 (by decide) (by omega) (fun cq327 => ?_) (fun cq327 => ?_)
              · exact absurd cq327 (by omega)
              · refine J_iload_n C dL_areGuests_330 rfl 1 rfl ?_
                refine J_aload_n C dL_areGuests_331 rfl 0 rfl ?_
                refine J_bipush C dL_areGuests_332 (v := nI 8) (by decide) ?_
                refine J_callI (wr := []) C (R_H (st := [.int (nI (pc8 (dX (stD S) 7)))]) (wc := HW Y h a S O) C hXS (kW_value ll Y hl0 h a S O b 8 (hG) (by omega) (by decide)) (vx_cwSW 2 C.t gL_areGuests_L_value rfl rfl rfl (by decide +kernel) ⟨by decide, by decide⟩) rfl (List.range 49) (HW_all Y h a S O) rng_nd49 rfl (Nat.le_of_ble_eq_true rfl) dL_areGuests_334 ⟨Nat.le_of_ble_eq_true rfl, Nat.le_of_ble_eq_true rfl⟩) (List.range 49) [] (HW_all Y h a S O) rfl (by decide) (by decide) (fun r334 u334 hw334 => ?_)
                subst hw334
                refine J_eq (pc' := 337) (lv' := [(0, .ref (h 0)), (1, .int (nI (pc8 (dX (stD S) 7)))), (2, .int (nI (dX (stD S) 12))), (3, .int (nI (dX (stD S) 10))), (4, .int (nI 0)), (5, .int (nI 7)), (6, .int (nI (dX (stD S) 1))), (7, .int (nI 1)), (8, .int (nI q))]) (st' := [.int (nI (abH (dX (stD S)) 8)), .int (nI (pc8 (dX (stD S) 7)))]) (ws' := HW Y h a S O) rfl rfl rfl rfl ?_
                refine J_top (y := .int (nI (pc8 (dX (stD S) 7)))) (rfl) ?_
                refine J_icmp_ne (tgt := 432) C dL_areGuests_337 (by decide) (fun cq337 => ?_) (fun cq337 => ?_)
                · exact absurd rfl cq337
                · refine J_iload_n C dL_areGuests_340 rfl 2 rfl ?_
                  refine J_aload_n C dL_areGuests_341 rfl 0 rfl ?_
                  refine J_iconst C dL_areGuests_342 (v := nI 2) (by decide) ?_
                  refine J_callI (wr := []) C (R_H (st := [.int (nI (dX (stD S) 12))]) (wc := HW Y h a S O) C hXS (kW_value ll Y hl0 h a S O b 2 (hG) (by omega) (by decide)) (vx_cwSW 2 C.t gL_areGuests_L_value rfl rfl rfl (by decide +kernel) ⟨by decide, by decide⟩) rfl (List.range 49) (HW_all Y h a S O) rng_nd49 rfl (Nat.le_of_ble_eq_true rfl) dL_areGuests_343 ⟨Nat.le_of_ble_eq_true rfl, Nat.le_of_ble_eq_true rfl⟩) (List.range 49) [] (HW_all Y h a S O) rfl (by decide) (by decide) (fun r343 u343 hw343 => ?_)
                  subst hw343
                  refine J_eq (pc' := 346) (lv' := [(0, .ref (h 0)), (1, .int (nI (pc8 (dX (stD S) 7)))), (2, .int (nI (dX (stD S) 12))), (3, .int (nI (dX (stD S) 10))), (4, .int (nI 0)), (5, .int (nI 7)), (6, .int (nI (dX (stD S) 1))), (7, .int (nI 1)), (8, .int (nI q))]) (st' := [.int (nI (abH (dX (stD S)) 2)), .int (nI (dX (stD S) 12))]) (ws' := HW Y h a S O) rfl rfl rfl rfl ?_
                  refine J_top (y := .int (nI (dX (stD S) 12))) (rfl) ?_
                  refine J_icmp_ne (tgt := 432) C dL_areGuests_346 (by decide) (fun cq346 => ?_) (fun cq346 => ?_)
                  · exact absurd rfl cq346
                  · refine J_iload_n C dL_areGuests_349 rfl 3 rfl ?_
                    refine J_aload_n C dL_areGuests_350 rfl 0 rfl ?_
                    refine J_iconst C dL_areGuests_351 (v := nI 3) (by decide) ?_
                    refine J_callI (wr := []) C (R_H (st := [.int (nI (dX (stD S) 10))]) (wc := HW Y h a S O) C hXS (kW_value ll Y hl0 h a S O b 3 (hG) (by omega) (by decide)) (vx_cwSW 2 C.t gL_areGuests_L_value rfl rfl rfl (by decide +kernel) ⟨by decide, by decide⟩) rfl (List.range 49) (HW_all Y h a S O) rng_nd49 rfl (Nat.le_of_ble_eq_true rfl) dL_areGuests_352 ⟨Nat.le_of_ble_eq_true rfl, Nat.le_of_ble_eq_true rfl⟩) (List.range 49) [] (HW_all Y h a S O) rfl (by decide) (by decide) (fun r352 u352 hw352 => ?_)
                    subst hw352
                    refine J_eq (pc' := 355) (lv' := [(0, .ref (h 0)), (1, .int (nI (pc8 (dX (stD S) 7)))), (2, .int (nI (dX (stD S) 12))), (3, .int (nI (dX (stD S) 10))), (4, .int (nI 0)), (5, .int (nI 7)), (6, .int (nI (dX (stD S) 1))), (7, .int (nI 1)), (8, .int (nI q))]) (st' := [.int (nI (abH (dX (stD S)) 3)), .int (nI (dX (stD S) 10))]) (ws' := HW Y h a S O) rfl rfl rfl rfl ?_
                    refine J_top (y := .int (nI (dX (stD S) 10))) (rfl) ?_
                    refine J_icmp_ne (tgt := 432) C dL_areGuests_355 (by decide) (fun cq355 => ?_) (fun cq355 => ?_)
                    · exact absurd rfl cq355
                    · refine J_iload C dL_areGuests_358 6 rfl ?_
                      refine J_if_eqN (tgt := 370) C dL_areGuests_360 (by decide) (by omega) (fun cq360 => ?_) (fun cq360 => ?_)
                      · exact absurd cq360 (by omega)
                      · refine J_iload C dL_areGuests_363 5 rfl ?_
                        refine J_bipush C dL_areGuests_365 (v := nI 7) (by decide) ?_
                        refine J_icmp_neN (tgt := 432) C dL_areGuests_367 (by decide) (by omega) (by omega) (fun cq367 => ?_) (fun cq367 => ?_)
                        · exact absurd cq367 (by omega)
                        · refine J_iload C dL_areGuests_370 6 rfl ?_
                          refine J_if_eqN (tgt := 384) C dL_areGuests_372 (by decide) (by omega) (fun cq372 => ?_) (fun cq372 => ?_)
                          · exact absurd cq372 (by omega)
                          · refine J_aload_n C dL_areGuests_375 rfl 0 rfl ?_
                            refine J_iconst C dL_areGuests_376 (v := nI 1) (by decide) ?_
                            refine J_callI (wr := []) C (R_H (st := []) (wc := HW Y h a S O) C hXS (kW_value ll Y hl0 h a S O b 1 (hG) (by omega) (by decide)) (vx_cwSW 2 C.t gL_areGuests_L_value rfl rfl rfl (by decide +kernel) ⟨by decide, by decide⟩) rfl (List.range 49) (HW_all Y h a S O) rng_nd49 rfl (Nat.le_of_ble_eq_true rfl) dL_areGuests_377 ⟨Nat.le_of_ble_eq_true rfl, Nat.le_of_ble_eq_true rfl⟩) (List.range 49) [] (HW_all Y h a S O) rfl (by decide) (by decide) (fun r377 u377 hw377 => ?_)
                            subst hw377
                            refine J_eq (pc' := 380) (lv' := [(0, .ref (h 0)), (1, .int (nI (pc8 (dX (stD S) 7)))), (2, .int (nI (dX (stD S) 12))), (3, .int (nI (dX (stD S) 10))), (4, .int (nI 0)), (5, .int (nI 7)), (6, .int (nI (dX (stD S) 1))), (7, .int (nI 1)), (8, .int (nI q))]) (st' := [.int (nI (abH (dX (stD S)) 1))]) (ws' := HW Y h a S O) rfl rfl rfl rfl ?_
                            refine J_top (y := .int (nI 1)) (by rw [show abH (dX (stD S)) 1 = dX (stD S) 2 from rfl, hgo]) ?_
                            refine J_iconst C dL_areGuests_380 (v := nI 1) (by decide) ?_
                            refine J_icmp_neN (tgt := 397) C dL_areGuests_381 (by decide) (by omega) (by omega) (fun cq381 => ?_) (fun cq381 => ?_)
                            · exact absurd cq381 (by omega)
                            · refine J_aload_n C dL_areGuests_384 rfl 0 rfl ?_
                              refine J_bipush C dL_areGuests_385 (v := nI 9) (by decide) ?_
                              refine J_callI (wr := []) C (R_H (st := []) (wc := HW Y h a S O) C hXS (kW_value ll Y hl0 h a S O b 9 (hG) (by omega) (by decide)) (vx_cwSW 2 C.t gL_areGuests_L_value rfl rfl rfl (by decide +kernel) ⟨by decide, by decide⟩) rfl (List.range 49) (HW_all Y h a S O) rng_nd49 rfl (Nat.le_of_ble_eq_true rfl) dL_areGuests_387 ⟨Nat.le_of_ble_eq_true rfl, Nat.le_of_ble_eq_true rfl⟩) (List.range 49) [] (HW_all Y h a S O) rfl (by decide) (by decide) (fun r387 u387 hw387 => ?_)
                              subst hw387
                              refine J_eq (pc' := 390) (lv' := [(0, .ref (h 0)), (1, .int (nI (pc8 (dX (stD S) 7)))), (2, .int (nI (dX (stD S) 12))), (3, .int (nI (dX (stD S) 10))), (4, .int (nI 0)), (5, .int (nI 7)), (6, .int (nI (dX (stD S) 1))), (7, .int (nI 1)), (8, .int (nI q))]) (st' := [.int (nI (abH (dX (stD S)) 9))]) (ws' := HW Y h a S O) rfl rfl rfl rfl ?_
                              refine J_top (y := .int (iZ ((-1)))) (by rw [show abH (dX (stD S)) 9 = 4294967295 from if_pos (Or.inl hgo), m1_nI]) ?_
                              refine J_iconst C dL_areGuests_390 (v := iZ ((-1))) (by decide) ?_
                              refine J_icmp_ne (tgt := 432) C dL_areGuests_391 (by decide) (fun cq391 => ?_) (fun cq391 => ?_)
                              · exact absurd rfl cq391
                              · refine J_goto (tgt := 428) C dL_areGuests_394 (by decide) ?_
                                refine J_iconst C dL_areGuests_428 (v := nI 1) (by decide) ?_
                                refine J_goto (tgt := 433) C dL_areGuests_429 (by decide) ?_
                                exact J_zret C hr (by decide) dL_areGuests_433 (()) (rfl) (rfl)
            · refine J_iload C dL_areGuests_222 7 rfl ?_
              refine J_if_eqN (tgt := 325) C dL_areGuests_224 (by decide) (by omega) (fun cq224 => ?_) (fun cq224 => ?_)
              · exact absurd cq224 (by omega)
              · obtain ⟨q1, q2, q3, q4⟩ := yq q (by omega)
                have b1 := pc8_le (dAc (stD S) q)
                have b2 := szH_le (dX (stD S) 1) (dAg (stD S) q)
                refine J_aload_n C dL_areGuests_227 rfl 0 rfl ?_
                refine J_iload C dL_areGuests_228 8 rfl ?_
                refine J_iconst C dL_areGuests_230 (v := nI 0) (by decide) ?_
                refine J_callI (wr := []) C (R_H (st := []) (wc := HW Y h a S O) C hXS (kW_question ll Y hl0 h a S O b q 0 (hG) (by omega) (by omega) (by decide)) (vx_cwSW 3 C.t gL_areGuests_L_question rfl rfl rfl (by decide +kernel) ⟨by decide, by decide⟩) rfl (List.range 49) (HW_all Y h a S O) rng_nd49 rfl (Nat.le_of_ble_eq_true rfl) dL_areGuests_231 ⟨Nat.le_of_ble_eq_true rfl, Nat.le_of_ble_eq_true rfl⟩) (List.range 49) [] (HW_all Y h a S O) rfl (by decide) (by decide) (fun r231 u231 hw231 => ?_)
                subst hw231
                refine J_eq (pc' := 234) (lv' := [(0, .ref (h 0)), (1, .int (nI (pc8 (dX (stD S) 7)))), (2, .int (nI (dX (stD S) 12))), (3, .int (nI (dX (stD S) 10))), (4, .int (nI 0)), (5, .int (nI 7)), (6, .int (nI (dX (stD S) 1))), (7, .int (nI 1)), (8, .int (nI q))]) (st' := [.int (nI (abQ (dAg (stD S)) (dAc (stD S)) (dAn (stD S)) q 0))]) (ws' := HW Y h a S O) rfl rfl rfl rfl ?_
                refine J_top (y := .int (nI (dAg (stD S) q))) (rfl) ?_
                refine J_istore (lv' := [(9, .int (nI (dAg (stD S) q))), (0, .ref (h 0)), (1, .int (nI (pc8 (dX (stD S) 7)))), (2, .int (nI (dX (stD S) 12))), (3, .int (nI (dX (stD S) 10))), (4, .int (nI 0)), (5, .int (nI 7)), (6, .int (nI (dX (stD S) 1))), (7, .int (nI 1)), (8, .int (nI q))]) C dL_areGuests_234 (by decide) rfl ?_
                refine J_aload_n C dL_areGuests_236 rfl 1 rfl ?_
                refine J_iload C dL_areGuests_237 9 rfl ?_
                refine J_iconst C dL_areGuests_239 (v := nI 1) (by decide) ?_
                refine J_callI (wr := []) C (R_H (st := []) (wc := HW Y h a S O) C hXS (kW_question ll Y hl0 h a S O b q 1 (hG) (by omega) (by omega) (by decide)) (vx_cwSW 3 C.t gL_areGuests_L_question rfl rfl rfl (by decide +kernel) ⟨by decide, by decide⟩) rfl (List.range 49) (HW_all Y h a S O) rng_nd49 rfl (Nat.le_of_ble_eq_true rfl) dL_areGuests_240 ⟨Nat.le_of_ble_eq_true rfl, Nat.le_of_ble_eq_true rfl⟩) (List.range 49) [] (HW_all Y h a S O) rfl (by decide) (by decide) (fun r240 u240 hw240 => ?_)
                subst hw240
                refine J_eq (pc' := 243) (lv' := [(9, .int (nI (dAg (stD S) q))), (0, .ref (h 0)), (1, .int (nI (pc8 (dX (stD S) 7)))), (2, .int (nI (dX (stD S) 12))), (3, .int (nI (dX (stD S) 10))), (4, .int (nI 0)), (5, .int (nI 7)), (6, .int (nI (dX (stD S) 1))), (7, .int (nI 1)), (8, .int (nI q))]) (st' := [.int (nI (abQ (dAg (stD S)) (dAc (stD S)) (dAn (stD S)) q 1))]) (ws' := HW Y h a S O) rfl rfl rfl rfl ?_
                refine J_top (y := .int (nI (dAc (stD S) q))) (rfl) ?_
                refine J_callI (wr := HW Y h a S O) C (R_S (st := []) (wc := []) C (kL_ones ll Y (dAc (stD S) q) (by omega)) (va_cwS 1 C.t gL_areGuests_L_ones rfl rfl rfl (by decide +kernel) ⟨by decide, by decide⟩) rfl [] rfl (by decide) rfl (Nat.le_of_ble_eq_true rfl) dL_areGuests_243 ⟨Nat.le_of_ble_eq_true rfl, Nat.le_of_ble_eq_true rfl⟩) [] (List.range 49) rfl (HW_all Y h a S O) rng_nd49 (by decide +kernel) (fun r243 u243 hw243 => ?_)
                subst hw243
                refine J_eq (pc' := 246) (lv' := [(9, .int (nI (dAg (stD S) q))), (0, .ref (h 0)), (1, .int (nI (pc8 (dX (stD S) 7)))), (2, .int (nI (dX (stD S) 12))), (3, .int (nI (dX (stD S) 10))), (4, .int (nI 0)), (5, .int (nI 7)), (6, .int (nI (dX (stD S) 1))), (7, .int (nI 1)), (8, .int (nI q))]) (st' := [.int (nI (pc8 (dAc (stD S) q)))]) (ws' := HW Y h a S O) rfl rfl rfl (List.append_nil _) ?_
                refine J_aload_n C dL_areGuests_246 rfl 1 rfl ?_
                refine J_iload C dL_areGuests_247 0 rfl ?_
                refine J_iconst C dL_areGuests_249 (v := nI 0) (by decide) ?_
                refine J_callI (wr := []) C (R_H (st := [.int (nI (pc8 (dAc (stD S) q)))]) (wc := HW Y h a S O) C hXS (kW_guest ll Y hl0 h a S O b (dAg (stD S) q) 0 (hG) (by omega) (q1) (by decide)) (vx_cwSW 3 C.t gL_areGuests_L_guest rfl rfl rfl (by decide +kernel) ⟨by decide, by decide⟩) rfl (List.range 49) (HW_all Y h a S O) rng_nd49 rfl (Nat.le_of_ble_eq_true rfl) dL_areGuests_250 ⟨Nat.le_of_ble_eq_true rfl, Nat.le_of_ble_eq_true rfl⟩) (List.range 49) [] (HW_all Y h a S O) rfl (by decide) (by decide) (fun r250 u250 hw250 => ?_)
                subst hw250
                refine J_eq (pc' := 253) (lv' := [(9, .int (nI (dAg (stD S) q))), (0, .ref (h 0)), (1, .int (nI (pc8 (dX (stD S) 7)))), (2, .int (nI (dX (stD S) 12))), (3, .int (nI (dX (stD S) 10))), (4, .int (nI 0)), (5, .int (nI 7)), (6, .int (nI (dX (stD S) 1))), (7, .int (nI 1)), (8, .int (nI q))]) (st' := [.int (nI (abG (dX (stD S)) (dHd (stD S)) (dPb (stD S)) (dAg (stD S)) (dL (stD S)) (dAg (stD S) q) 0)), .int (nI (pc8 (dAc (stD S) q)))]) (ws' := HW Y h a S O) rfl rfl rfl rfl ?_
                refine J_top (y := .int (nI (szH (dX (stD S) 1) (dAg (stD S) q)))) (rfl) ?_
                refine J_icmp_geN (tgt := 269) C dL_areGuests_253 (by decide) (by omega) (by omega) (fun cq253 => ?_) (fun cq253 => ?_)
                · refine J_aload_n C dL_areGuests_269 rfl 1 rfl ?_
                  refine J_iload C dL_areGuests_270 0 rfl ?_
                  refine J_iconst C dL_areGuests_272 (v := nI 0) (by decide) ?_
                  refine J_callI (wr := []) C (R_H (st := []) (wc := HW Y h a S O) C hXS (kW_guest ll Y hl0 h a S O b (dAg (stD S) q) 0 (hG) (by omega) (q1) (by decide)) (vx_cwSW 3 C.t gL_areGuests_L_guest rfl rfl rfl (by decide +kernel) ⟨by decide, by decide⟩) rfl (List.range 49) (HW_all Y h a S O) rng_nd49 rfl (Nat.le_of_ble_eq_true rfl) dL_areGuests_273 ⟨Nat.le_of_ble_eq_true rfl, Nat.le_of_ble_eq_true rfl⟩) (List.range 49) [] (HW_all Y h a S O) rfl (by decide) (by decide) (fun r273 u273 hw273 => ?_)
                  subst hw273
                  refine J_eq (pc' := 276) (lv' := [(9, .int (nI (dAg (stD S) q))), (0, .ref (h 0)), (1, .int (nI (pc8 (dX (stD S) 7)))), (2, .int (nI (dX (stD S) 12))), (3, .int (nI (dX (stD S) 10))), (4, .int (nI 0)), (5, .int (nI 7)), (6, .int (nI (dX (stD S) 1))), (7, .int (nI 1)), (8, .int (nI q))]) (st' := [.int (nI (abG (dX (stD S)) (dHd (stD S)) (dPb (stD S)) (dAg (stD S)) (dL (stD S)) (dAg (stD S) q) 0))]) (ws' := HW Y h a S O) rfl rfl rfl rfl ?_
                  refine J_top (y := .int (nI (szH (dX (stD S) 1) (dAg (stD S) q)))) (rfl) ?_
                  refine J_istore (lv' := [(10, .int (nI (szH (dX (stD S) 1) (dAg (stD S) q)))), (9, .int (nI (dAg (stD S) q))), (0, .ref (h 0)), (1, .int (nI (pc8 (dX (stD S) 7)))), (2, .int (nI (dX (stD S) 12))), (3, .int (nI (dX (stD S) 10))), (4, .int (nI 0)), (5, .int (nI 7)), (6, .int (nI (dX (stD S) 1))), (7, .int (nI 1)), (8, .int (nI q))]) C dL_areGuests_276 (by decide) rfl ?_
                  refine J_iload C dL_areGuests_278 1 rfl ?_
                  refine J_if_ltN (tgt := 316) C dL_areGuests_280 (by decide) (by omega) ?_
                  refine J_iload C dL_areGuests_283 1 rfl ?_
                  refine J_iload C dL_areGuests_285 8 rfl ?_
                  refine J_icmp_geN (tgt := 316) C dL_areGuests_287 (by decide) (by omega) (by omega) (fun cq287 => ?_) (fun cq287 => ?_)
                  · exact absurd cq287 (by omega)
                  · refine J_aload_n C dL_areGuests_290 rfl 2 rfl ?_
                    refine J_iload C dL_areGuests_291 10 rfl ?_
                    refine J_iconst C dL_areGuests_293 (v := nI 2) (by decide) ?_
                    refine J_callI (wr := []) C (R_H (st := []) (wc := HW Y h a S O) C hXS (kW_question ll Y hl0 h a S O b q 2 (hG) (by omega) (by omega) (by decide)) (vx_cwSW 3 C.t gL_areGuests_L_question rfl rfl rfl (by decide +kernel) ⟨by decide, by decide⟩) rfl (List.range 49) (HW_all Y h a S O) rng_nd49 rfl (Nat.le_of_ble_eq_true rfl) dL_areGuests_294 ⟨Nat.le_of_ble_eq_true rfl, Nat.le_of_ble_eq_true rfl⟩) (List.range 49) [] (HW_all Y h a S O) rfl (by decide) (by decide) (fun r294 u294 hw294 => ?_)
                    subst hw294
                    refine J_eq (pc' := 297) (lv' := [(10, .int (nI (szH (dX (stD S) 1) (dAg (stD S) q)))), (9, .int (nI (dAg (stD S) q))), (0, .ref (h 0)), (1, .int (nI (pc8 (dX (stD S) 7)))), (2, .int (nI (dX (stD S) 12))), (3, .int (nI (dX (stD S) 10))), (4, .int (nI 0)), (5, .int (nI 7)), (6, .int (nI (dX (stD S) 1))), (7, .int (nI 1)), (8, .int (nI q))]) (st' := [.int (nI (abQ (dAg (stD S)) (dAc (stD S)) (dAn (stD S)) q 2))]) (ws' := HW Y h a S O) rfl rfl rfl rfl ?_
                    refine J_top (y := .int (nI (dAn (stD S) q))) (rfl) ?_
                    refine J_if_ltN (tgt := 316) C dL_areGuests_297 (by decide) (by omega) ?_
                    refine J_aload_n C dL_areGuests_300 rfl 2 rfl ?_
                    refine J_iload C dL_areGuests_301 10 rfl ?_
                    refine J_iconst C dL_areGuests_303 (v := nI 2) (by decide) ?_
                    refine J_callI (wr := []) C (R_H (st := []) (wc := HW Y h a S O) C hXS (kW_question ll Y hl0 h a S O b q 2 (hG) (by omega) (by omega) (by decide)) (vx_cwSW 3 C.t gL_areGuests_L_question rfl rfl rfl (by decide +kernel) ⟨by decide, by decide⟩) rfl (List.range 49) (HW_all Y h a S O) rng_nd49 rfl (Nat.le_of_ble_eq_true rfl) dL_areGuests_304 ⟨Nat.le_of_ble_eq_true rfl, Nat.le_of_ble_eq_true rfl⟩) (List.range 49) [] (HW_all Y h a S O) rfl (by decide) (by decide) (fun r304 u304 hw304 => ?_)
                    subst hw304
                    refine J_eq (pc' := 307) (lv' := [(10, .int (nI (szH (dX (stD S) 1) (dAg (stD S) q)))), (9, .int (nI (dAg (stD S) q))), (0, .ref (h 0)), (1, .int (nI (pc8 (dX (stD S) 7)))), (2, .int (nI (dX (stD S) 12))), (3, .int (nI (dX (stD S) 10))), (4, .int (nI 0)), (5, .int (nI 7)), (6, .int (nI (dX (stD S) 1))), (7, .int (nI 1)), (8, .int (nI q))]) (st' := [.int (nI (abQ (dAg (stD S)) (dAc (stD S)) (dAn (stD S)) q 2))]) (ws' := HW Y h a S O) rfl rfl rfl rfl ?_
                    refine J_top (y := .int (nI (dAn (stD S) q))) (rfl) ?_
                    refine J_iload C dL_areGuests_307 0 rfl ?_
                    refine J_icmp_gtN (tgt := 316) C dL_areGuests_309 (by decide) (by omega) (by omega) (fun cq309 => ?_) (fun cq309 => ?_)
                    · exact absurd cq309 (by omega)
                    · refine J_iconst C dL_areGuests_312 (v := nI 1) (by decide) ?_
                      refine J_goto (tgt := 317) C dL_areGuests_313 (by decide) ?_
                      refine J_istore (lv' := [(7, .int (nI 1)), (10, .int (nI (szH (dX (stD S) 1) (dAg (stD S) q)))), (9, .int (nI (dAg (stD S) q))), (0, .ref (h 0)), (1, .int (nI (pc8 (dX (stD S) 7)))), (2, .int (nI (dX (stD S) 12))), (3, .int (nI (dX (stD S) 10))), (4, .int (nI 0)), (5, .int (nI 7)), (6, .int (nI (dX (stD S) 1))), (8, .int (nI q))]) C dL_areGuests_317 (by decide) rfl ?_
                      refine J_iinc (j := 10) (v := nI (q + 1)) (lv' := [(8, .int (nI (q + 1))), (7, .int (nI 1)), (10, .int (nI (szH (dX (stD S) 1) (dAg (stD S) q)))), (9, .int (nI (dAg (stD S) q))), (0, .ref (h 0)), (1, .int (nI (pc8 (dX (stD S) 7)))), (2, .int (nI (dX (stD S) 12))), (3, .int (nI (dX (stD S) 10))), (4, .int (nI 0)), (5, .int (nI 7)), (6, .int (nI (dX (stD S) 1)))]) C dL_areGuests_319 rfl (nI_1 _) (by decide) rfl ?_
                      refine J_goto (tgt := 212) C dL_areGuests_322 (by decide) ?_
                      refine J_lv (lv' := [(0, .ref (h 0)), (1, .int (nI (pc8 (dX (stD S) 7)))), (2, .int (nI (dX (stD S) 12))), (3, .int (nI (dX (stD S) 10))), (4, .int (nI 0)), (5, .int (nI 7)), (6, .int (nI (dX (stD S) 1))), (7, .int (nI 1)), (8, .int (nI (q + 1)))]) [4, 5, 6, 7, 8, 9, 10, 1, 0] rfl ?_
                      exact ih212 (q + 1) (by omega) (show dX (stD S) 12 - (q + 1) < dX (stD S) 12 - q from by omega)
                · refine J_aload_n C dL_areGuests_256 rfl 1 rfl ?_
                  refine J_iload C dL_areGuests_257 9 rfl ?_
                  refine J_iconst C dL_areGuests_259 (v := nI 1) (by decide) ?_
                  refine J_callI (wr := []) C (R_H (st := []) (wc := HW Y h a S O) C hXS (kW_question ll Y hl0 h a S O b q 1 (hG) (by omega) (by omega) (by decide)) (vx_cwSW 3 C.t gL_areGuests_L_question rfl rfl rfl (by decide +kernel) ⟨by decide, by decide⟩) rfl (List.range 49) (HW_all Y h a S O) rng_nd49 rfl (Nat.le_of_ble_eq_true rfl) dL_areGuests_260 ⟨Nat.le_of_ble_eq_true rfl, Nat.le_of_ble_eq_true rfl⟩) (List.range 49) [] (HW_all Y h a S O) rfl (by decide) (by decide) (fun r260 u260 hw260 => ?_)
                  subst hw260
                  refine J_eq (pc' := 263) (lv' := [(9, .int (nI (dAg (stD S) q))), (0, .ref (h 0)), (1, .int (nI (pc8 (dX (stD S) 7)))), (2, .int (nI (dX (stD S) 12))), (3, .int (nI (dX (stD S) 10))), (4, .int (nI 0)), (5, .int (nI 7)), (6, .int (nI (dX (stD S) 1))), (7, .int (nI 1)), (8, .int (nI q))]) (st' := [.int (nI (abQ (dAg (stD S)) (dAc (stD S)) (dAn (stD S)) q 1))]) (ws' := HW Y h a S O) rfl rfl rfl rfl ?_
                  refine J_top (y := .int (nI (dAc (stD S) q))) (rfl) ?_
                  refine J_callI (wr := HW Y h a S O) C (R_S (st := []) (wc := []) C (kL_ones ll Y (dAc (stD S) q) (by omega)) (va_cwS 1 C.t gL_areGuests_L_ones rfl rfl rfl (by decide +kernel) ⟨by decide, by decide⟩) rfl [] rfl (by decide) rfl (Nat.le_of_ble_eq_true rfl) dL_areGuests_263 ⟨Nat.le_of_ble_eq_true rfl, Nat.le_of_ble_eq_true rfl⟩) [] (List.range 49) rfl (HW_all Y h a S O) rng_nd49 (by decide +kernel) (fun r263 u263 hw263 => ?_)
                  subst hw263
                  refine J_eq (pc' := 266) (lv' := [(9, .int (nI (dAg (stD S) q))), (0, .ref (h 0)), (1, .int (nI (pc8 (dX (stD S) 7)))), (2, .int (nI (dX (stD S) 12))), (3, .int (nI (dX (stD S) 10))), (4, .int (nI 0)), (5, .int (nI 7)), (6, .int (nI (dX (stD S) 1))), (7, .int (nI 1)), (8, .int (nI q))]) (st' := [.int (nI (pc8 (dAc (stD S) q)))]) (ws' := HW Y h a S O) rfl rfl rfl (List.append_nil _) ?_
                  refine J_goto (tgt := 276) C dL_areGuests_266 (by decide) ?_
                  refine J_istore (lv' := [(10, .int (nI (pc8 (dAc (stD S) q)))), (9, .int (nI (dAg (stD S) q))), (0, .ref (h 0)), (1, .int (nI (pc8 (dX (stD S) 7)))), (2, .int (nI (dX (stD S) 12))), (3, .int (nI (dX (stD S) 10))), (4, .int (nI 0)), (5, .int (nI 7)), (6, .int (nI (dX (stD S) 1))), (7, .int (nI 1)), (8, .int (nI q))]) C dL_areGuests_276 (by decide) rfl ?_
                  refine J_iload C dL_areGuests_278 1 rfl ?_
                  refine J_if_ltN (tgt := 316) C dL_areGuests_280 (by decide) (by omega) ?_
                  refine J_iload C dL_areGuests_283 1 rfl ?_
                  refine J_iload C dL_areGuests_285 8 rfl ?_
                  refine J_icmp_geN (tgt := 316) C dL_areGuests_287 (by decide) (by omega) (by omega) (fun cq287 => ?_) (fun cq287 => ?_)
                  · exact absurd cq287 (by omega)
                  · refine J_aload_n C dL_areGuests_290 rfl 2 rfl ?_
                    refine J_iload C dL_areGuests_291 10 rfl ?_
                    refine J_iconst C dL_areGuests_293 (v := nI 2) (by decide) ?_
                    refine J_callI (wr := []) C (R_H (st := []) (wc := HW Y h a S O) C hXS (kW_question ll Y hl0 h a S O b q 2 (hG) (by omega) (by omega) (by decide)) (vx_cwSW 3 C.t gL_areGuests_L_question rfl rfl rfl (by decide +kernel) ⟨by decide, by decide⟩) rfl (List.range 49) (HW_all Y h a S O) rng_nd49 rfl (Nat.le_of_ble_eq_true rfl) dL_areGuests_294 ⟨Nat.le_of_ble_eq_true rfl, Nat.le_of_ble_eq_true rfl⟩) (List.range 49) [] (HW_all Y h a S O) rfl (by decide) (by decide) (fun r294 u294 hw294 => ?_)
                    subst hw294
                    refine J_eq (pc' := 297) (lv' := [(10, .int (nI (pc8 (dAc (stD S) q)))), (9, .int (nI (dAg (stD S) q))), (0, .ref (h 0)), (1, .int (nI (pc8 (dX (stD S) 7)))), (2, .int (nI (dX (stD S) 12))), (3, .int (nI (dX (stD S) 10))), (4, .int (nI 0)), (5, .int (nI 7)), (6, .int (nI (dX (stD S) 1))), (7, .int (nI 1)), (8, .int (nI q))]) (st' := [.int (nI (abQ (dAg (stD S)) (dAc (stD S)) (dAn (stD S)) q 2))]) (ws' := HW Y h a S O) rfl rfl rfl rfl ?_
                    refine J_top (y := .int (nI (dAn (stD S) q))) (rfl) ?_
                    refine J_if_ltN (tgt := 316) C dL_areGuests_297 (by decide) (by omega) ?_
                    refine J_aload_n C dL_areGuests_300 rfl 2 rfl ?_
                    refine J_iload C dL_areGuests_301 10 rfl ?_
                    refine J_iconst C dL_areGuests_303 (v := nI 2) (by decide) ?_
                    refine J_callI (wr := []) C (R_H (st := []) (wc := HW Y h a S O) C hXS (kW_question ll Y hl0 h a S O b q 2 (hG) (by omega) (by omega) (by decide)) (vx_cwSW 3 C.t gL_areGuests_L_question rfl rfl rfl (by decide +kernel) ⟨by decide, by decide⟩) rfl (List.range 49) (HW_all Y h a S O) rng_nd49 rfl (Nat.le_of_ble_eq_true rfl) dL_areGuests_304 ⟨Nat.le_of_ble_eq_true rfl, Nat.le_of_ble_eq_true rfl⟩) (List.range 49) [] (HW_all Y h a S O) rfl (by decide) (by decide) (fun r304 u304 hw304 => ?_)
                    subst hw304
                    refine J_eq (pc' := 307) (lv' := [(10, .int (nI (pc8 (dAc (stD S) q)))), (9, .int (nI (dAg (stD S) q))), (0, .ref (h 0)), (1, .int (nI (pc8 (dX (stD S) 7)))), (2, .int (nI (dX (stD S) 12))), (3, .int (nI (dX (stD S) 10))), (4, .int (nI 0)), (5, .int (nI 7)), (6, .int (nI (dX (stD S) 1))), (7, .int (nI 1)), (8, .int (nI q))]) (st' := [.int (nI (abQ (dAg (stD S)) (dAc (stD S)) (dAn (stD S)) q 2))]) (ws' := HW Y h a S O) rfl rfl rfl rfl ?_
                    refine J_top (y := .int (nI (dAn (stD S) q))) (rfl) ?_
                    refine J_iload C dL_areGuests_307 0 rfl ?_
                    refine J_icmp_gtN (tgt := 316) C dL_areGuests_309 (by decide) (by omega) (by omega) (fun cq309 => ?_) (fun cq309 => ?_)
                    · exact absurd cq309 (by omega)
                    · refine J_iconst C dL_areGuests_312 (v := nI 1) (by decide) ?_
                      refine J_goto (tgt := 317) C dL_areGuests_313 (by decide) ?_
                      refine J_istore (lv' := [(7, .int (nI 1)), (10, .int (nI (pc8 (dAc (stD S) q)))), (9, .int (nI (dAg (stD S) q))), (0, .ref (h 0)), (1, .int (nI (pc8 (dX (stD S) 7)))), (2, .int (nI (dX (stD S) 12))), (3, .int (nI (dX (stD S) 10))), (4, .int (nI 0)), (5, .int (nI 7)), (6, .int (nI (dX (stD S) 1))), (8, .int (nI q))]) C dL_areGuests_317 (by decide) rfl ?_
                      refine J_iinc (j := 10) (v := nI (q + 1)) (lv' := [(8, .int (nI (q + 1))), (7, .int (nI 1)), (10, .int (nI (pc8 (dAc (stD S) q)))), (9, .int (nI (dAg (stD S) q))), (0, .ref (h 0)), (1, .int (nI (pc8 (dX (stD S) 7)))), (2, .int (nI (dX (stD S) 12))), (3, .int (nI (dX (stD S) 10))), (4, .int (nI 0)), (5, .int (nI 7)), (6, .int (nI (dX (stD S) 1)))]) C dL_areGuests_319 rfl (nI_1 _) (by decide) rfl ?_
                      refine J_goto (tgt := 212) C dL_areGuests_322 (by decide) ?_
                      refine J_lv (lv' := [(0, .ref (h 0)), (1, .int (nI (pc8 (dX (stD S) 7)))), (2, .int (nI (dX (stD S) 12))), (3, .int (nI (dX (stD S) 10))), (4, .int (nI 0)), (5, .int (nI 7)), (6, .int (nI (dX (stD S) 1))), (7, .int (nI 1)), (8, .int (nI (q + 1)))]) [4, 5, 6, 7, 8, 9, 10, 1, 0] rfl ?_
                      exact ih212 (q + 1) (by omega) (show dX (stD S) 12 - (q + 1) < dX (stD S) 12 - q from by omega)
          · refine J_iload C dL_areGuests_76 7 rfl ?_
            refine J_if_eqN (tgt := 209) C dL_areGuests_78 (by decide) (by omega) (fun cq78 => ?_) (fun cq78 => ?_)
            · exact absurd cq78 (by omega)
            · refine J_iload_n C dL_areGuests_81 rfl 1 rfl ?_
              refine J_aload_n C dL_areGuests_82 rfl 0 rfl ?_
              refine J_iload C dL_areGuests_83 8 rfl ?_
              refine J_iconst C dL_areGuests_85 (v := nI 1) (by decide) ?_
              refine J_callI (wr := []) C (R_H (st := [.int (nI (fb_sm (fun g => dX (stD S) 7 / 2 ^ g &&& 1) k))]) (wc := HW Y h a S O) C hXS (kW_guest ll Y hl0 h a S O b k 1 (hG) (by omega) (by first | assumption | omega) (by decide)) (vx_cwSW 3 C.t gL_areGuests_L_guest rfl rfl rfl (by decide +kernel) ⟨by decide, by decide⟩) rfl (List.range 49) (HW_all Y h a S O) rng_nd49 rfl (Nat.le_of_ble_eq_true rfl) dL_areGuests_86 ⟨Nat.le_of_ble_eq_true rfl, Nat.le_of_ble_eq_true rfl⟩) (List.range 49) [] (HW_all Y h a S O) rfl (by decide) (by decide) (fun r86 u86 hw86 => ?_)
              subst hw86
              refine J_eq (pc' := 89) (lv' := [(0, .ref (h 0)), (1, .int (nI (fb_sm (fun g => dX (stD S) 7 / 2 ^ g &&& 1) k))), (2, .int (nI (fb_sm (fun g => qtN (dAg (stD S)) (dX (stD S) 12) g) k))), (3, .int (nI (fb_sm (dPb (stD S)) k))), (4, .int (nI 0)), (5, .int (nI (fb_sm (fun g => szH (dX (stD S) 1) g) k))), (6, .int (nI (dX (stD S) 1))), (7, .int (nI 1)), (8, .int (nI k))]) (st' := [.int (nI (abG (dX (stD S)) (dHd (stD S)) (dPb (stD S)) (dAg (stD S)) (dL (stD S)) k 1)), .int (nI (fb_sm (fun g => dX (stD S) 7 / 2 ^ g &&& 1) k))]) (ws' := HW Y h a S O) rfl rfl rfl rfl ?_
              refine J_top (y := .int (nI (dX (stD S) 7 / 2 ^ k &&& 1))) (rfl) ?_
              refine J_iaddN C dL_areGuests_89 ?_
              refine J_istore_n (lv' := [(1, .int (nI ((fb_sm (fun g => dX (stD S) 7 / 2 ^ g &&& 1) k) + (dX (stD S) 7 / 2 ^ k &&& 1)))), (0, .ref (h 0)), (2, .int (nI (fb_sm (fun g => qtN (dAg (stD S)) (dX (stD S) 12) g) k))), (3, .int (nI (fb_sm (dPb (stD S)) k))), (4, .int (nI 0)), (5, .int (nI (fb_sm (fun g => szH (dX (stD S) 1) g) k))), (6, .int (nI (dX (stD S) 1))), (7, .int (nI 1)), (8, .int (nI k))]) C dL_areGuests_90 rfl (by decide) rfl ?_
              refine J_iload_n C dL_areGuests_91 rfl 2 rfl ?_
              refine J_aload_n C dL_areGuests_92 rfl 1 rfl ?_
              refine J_iload C dL_areGuests_93 8 rfl ?_
              refine J_iconst C dL_areGuests_95 (v := nI 2) (by decide) ?_
              refine J_callI (wr := []) C (R_H (st := [.int (nI (fb_sm (fun g => qtN (dAg (stD S)) (dX (stD S) 12) g) k))]) (wc := HW Y h a S O) C hXS (kW_guest ll Y hl0 h a S O b k 2 (hG) (by omega) (by first | assumption | omega) (by decide)) (vx_cwSW 3 C.t gL_areGuests_L_guest rfl rfl rfl (by decide +kernel) ⟨by decide, by decide⟩) rfl (List.range 49) (HW_all Y h a S O) rng_nd49 rfl (Nat.le_of_ble_eq_true rfl) dL_areGuests_96 ⟨Nat.le_of_ble_eq_true rfl, Nat.le_of_ble_eq_true rfl⟩) (List.range 49) [] (HW_all Y h a S O) rfl (by decide) (by decide) (fun r96 u96 hw96 => ?_)
              subst hw96
              refine J_eq (pc' := 99) (lv' := [(1, .int (nI ((fb_sm (fun g => dX (stD S) 7 / 2 ^ g &&& 1) k) + (dX (stD S) 7 / 2 ^ k &&& 1)))), (0, .ref (h 0)), (2, .int (nI (fb_sm (fun g => qtN (dAg (stD S)) (dX (stD S) 12) g) k))), (3, .int (nI (fb_sm (dPb (stD S)) k))), (4, .int (nI 0)), (5, .int (nI (fb_sm (fun g => szH (dX (stD S) 1) g) k))), (6, .int (nI (dX (stD S) 1))), (7, .int (nI 1)), (8, .int (nI k))]) (st' := [.int (nI (abG (dX (stD S)) (dHd (stD S)) (dPb (stD S)) (dAg (stD S)) (dL (stD S)) k 2)), .int (nI (fb_sm (fun g => qtN (dAg (stD S)) (dX (stD S) 12) g) k))]) (ws' := HW Y h a S O) rfl rfl rfl rfl ?_
              refine J_top (y := .int (nI (qtN (dAg (stD S)) (dX (stD S) 12) k))) (rfl) ?_
              refine J_iaddN C dL_areGuests_99 ?_
              refine J_istore_n (lv' := [(2, .int (nI ((fb_sm (fun g => qtN (dAg (stD S)) (dX (stD S) 12) g) k) + (qtN (dAg (stD S)) (dX (stD S) 12) k)))), (1, .int (nI ((fb_sm (fun g => dX (stD S) 7 / 2 ^ g &&& 1) k) + (dX (stD S) 7 / 2 ^ k &&& 1)))), (0, .ref (h 0)), (3, .int (nI (fb_sm (dPb (stD S)) k))), (4, .int (nI 0)), (5, .int (nI (fb_sm (fun g => szH (dX (stD S) 1) g) k))), (6, .int (nI (dX (stD S) 1))), (7, .int (nI 1)), (8, .int (nI k))]) C dL_areGuests_100 rfl (by decide) rfl ?_
              refine J_iload_n C dL_areGuests_101 rfl 3 rfl ?_
              refine J_aload_n C dL_areGuests_102 rfl 2 rfl ?_
              refine J_iload C dL_areGuests_103 8 rfl ?_
              refine J_iconst C dL_areGuests_105 (v := nI 3) (by decide) ?_
              refine J_callI (wr := []) C (R_H (st := [.int (nI (fb_sm (dPb (stD S)) k))]) (wc := HW Y h a S O) C hXS (kW_guest ll Y hl0 h a S O b k 3 (hG) (by omega) (by first | assumption | omega) (by decide)) (vx_cwSW 3 C.t gL_areGuests_L_guest rfl rfl rfl (by decide +kernel) ⟨by decide, by decide⟩) rfl (List.range 49) (HW_all Y h a S O) rng_nd49 rfl (Nat.le_of_ble_eq_true rfl) dL_areGuests_106 ⟨Nat.le_of_ble_eq_true rfl, Nat.le_of_ble_eq_true rfl⟩) (List.range 49) [] (HW_all Y h a S O) rfl (by decide) (by decide) (fun r106 u106 hw106 => ?_)
              subst hw106
              refine J_eq (pc' := 109) (lv' := [(2, .int (nI ((fb_sm (fun g => qtN (dAg (stD S)) (dX (stD S) 12) g) k) + (qtN (dAg (stD S)) (dX (stD S) 12) k)))), (1, .int (nI ((fb_sm (fun g => dX (stD S) 7 / 2 ^ g &&& 1) k) + (dX (stD S) 7 / 2 ^ k &&& 1)))), (0, .ref (h 0)), (3, .int (nI (fb_sm (dPb (stD S)) k))), (4, .int (nI 0)), (5, .int (nI (fb_sm (fun g => szH (dX (stD S) 1) g) k))), (6, .int (nI (dX (stD S) 1))), (7, .int (nI 1)), (8, .int (nI k))]) (st' := [.int (nI (abG (dX (stD S)) (dHd (stD S)) (dPb (stD S)) (dAg (stD S)) (dL (stD S)) k 3)), .int (nI (fb_sm (dPb (stD S)) k))]) (ws' := HW Y h a S O) rfl rfl rfl rfl ?_
              refine J_top (y := .int (nI (dPb (stD S) k))) (rfl) ?_
              refine J_iaddN C dL_areGuests_109 ?_
              refine J_istore_n (lv' := [(3, .int (nI ((fb_sm (dPb (stD S)) k) + (dPb (stD S) k)))), (2, .int (nI ((fb_sm (fun g => qtN (dAg (stD S)) (dX (stD S) 12) g) k) + (qtN (dAg (stD S)) (dX (stD S) 12) k)))), (1, .int (nI ((fb_sm (fun g => dX (stD S) 7 / 2 ^ g &&& 1) k) + (dX (stD S) 7 / 2 ^ k &&& 1)))), (0, .ref (h 0)), (4, .int (nI 0)), (5, .int (nI (fb_sm (fun g => szH (dX (stD S) 1) g) k))), (6, .int (nI (dX (stD S) 1))), (7, .int (nI 1)), (8, .int (nI k))]) C dL_areGuests_110 rfl (by decide) rfl ?_
              refine J_iload C dL_areGuests_111 5 rfl ?_
              refine J_aload_n C dL_areGuests_113 rfl 3 rfl ?_
              refine J_iload C dL_areGuests_114 8 rfl ?_
              refine J_iconst C dL_areGuests_116 (v := nI 0) (by decide) ?_
              refine J_callI (wr := []) C (R_H (st := [.int (nI (fb_sm (fun g => szH (dX (stD S) 1) g) k))]) (wc := HW Y h a S O) C hXS (kW_guest ll Y hl0 h a S O b k 0 (hG) (by omega) (by first | assumption | omega) (by decide)) (vx_cwSW 3 C.t gL_areGuests_L_guest rfl rfl rfl (by decide +kernel) ⟨by decide, by decide⟩) rfl (List.range 49) (HW_all Y h a S O) rng_nd49 rfl (Nat.le_of_ble_eq_true rfl) dL_areGuests_117 ⟨Nat.le_of_ble_eq_true rfl, Nat.le_of_ble_eq_true rfl⟩) (List.range 49) [] (HW_all Y h a S O) rfl (by decide) (by decide) (fun r117 u117 hw117 => ?_)
              subst hw117
              refine J_eq (pc' := 120) (lv' := [(3, .int (nI ((fb_sm (dPb (stD S)) k) + (dPb (stD S) k)))), (2, .int (nI ((fb_sm (fun g => qtN (dAg (stD S)) (dX (stD S) 12) g) k) + (qtN (dAg (stD S)) (dX (stD S) 12) k)))), (1, .int (nI ((fb_sm (fun g => dX (stD S) 7 / 2 ^ g &&& 1) k) + (dX (stD S) 7 / 2 ^ k &&& 1)))), (0, .ref (h 0)), (4, .int (nI 0)), (5, .int (nI (fb_sm (fun g => szH (dX (stD S) 1) g) k))), (6, .int (nI (dX (stD S) 1))), (7, .int (nI 1)), (8, .int (nI k))]) (st' := [.int (nI (abG (dX (stD S)) (dHd (stD S)) (dPb (stD S)) (dAg (stD S)) (dL (stD S)) k 0)), .int (nI (fb_sm (fun g => szH (dX (stD S) 1) g) k))]) (ws' := HW Y h a S O) rfl rfl rfl rfl ?_
              refine J_top (y := .int (nI (szH (dX (stD S) 1) k))) (rfl) ?_
              refine J_iaddN C dL_areGuests_120 ?_
              refine J_istore (lv' := [(5, .int (nI ((fb_sm (fun g => szH (dX (stD S) 1) g) k) + (szH (dX (stD S) 1) k)))), (3, .int (nI ((fb_sm (dPb (stD S)) k) + (dPb (stD S) k)))), (2, .int (nI ((fb_sm (fun g => qtN (dAg (stD S)) (dX (stD S) 12) g) k) + (qtN (dAg (stD S)) (dX (stD S) 12) k)))), (1, .int (nI ((fb_sm (fun g => dX (stD S) 7 / 2 ^ g &&& 1) k) + (dX (stD S) 7 / 2 ^ k &&& 1)))), (0, .ref (h 0)), (4, .int (nI 0)), (6, .int (nI (dX (stD S) 1))), (7, .int (nI 1)), (8, .int (nI k))]) C dL_areGuests_121 (by decide) rfl ?_
              refine J_aload_n C dL_areGuests_123 rfl 4 rfl ?_
              refine J_iload C dL_areGuests_124 8 rfl ?_
              refine J_bipush C dL_areGuests_126 (v := nI 7) (by decide) ?_
              refine J_callI (wr := []) C (R_H (st := []) (wc := HW Y h a S O) C hXS (kW_guest ll Y hl0 h a S O b k 7 (hG) (by omega) (by first | assumption | omega) (by decide)) (vx_cwSW 3 C.t gL_areGuests_L_guest rfl rfl rfl (by decide +kernel) ⟨by decide, by decide⟩) rfl (List.range 49) (HW_all Y h a S O) rng_nd49 rfl (Nat.le_of_ble_eq_true rfl) dL_areGuests_128 ⟨Nat.le_of_ble_eq_true rfl, Nat.le_of_ble_eq_true rfl⟩) (List.range 49) [] (HW_all Y h a S O) rfl (by decide) (by decide) (fun r128 u128 hw128 => ?_)
              subst hw128
              refine J_eq (pc' := 131) (lv' := [(5, .int (nI ((fb_sm (fun g => szH (dX (stD S) 1) g) k) + (szH (dX (stD S) 1) k)))), (3, .int (nI ((fb_sm (dPb (stD S)) k) + (dPb (stD S) k)))), (2, .int (nI ((fb_sm (fun g => qtN (dAg (stD S)) (dX (stD S) 12) g) k) + (qtN (dAg (stD S)) (dX (stD S) 12) k)))), (1, .int (nI ((fb_sm (fun g => dX (stD S) 7 / 2 ^ g &&& 1) k) + (dX (stD S) 7 / 2 ^ k &&& 1)))), (0, .ref (h 0)), (4, .int (nI 0)), (6, .int (nI (dX (stD S) 1))), (7, .int (nI 1)), (8, .int (nI k))]) (st' := [.int (nI (abG (dX (stD S)) (dHd (stD S)) (dPb (stD S)) (dAg (stD S)) (dL (stD S)) k 7))]) (ws' := HW Y h a S O) rfl rfl rfl rfl ?_
              refine J_top (y := .int (iZ ((-1)))) (by rw [show abG (dX (stD S)) (dHd (stD S)) (dPb (stD S)) (dAg (stD S)) (dL (stD S)) k 7 = 4294967295 from if_pos hgo, m1_nI]) ?_
              refine J_istore (lv' := [(9, .int (iZ ((-1)))), (5, .int (nI ((fb_sm (fun g => szH (dX (stD S) 1) g) k) + (szH (dX (stD S) 1) k)))), (3, .int (nI ((fb_sm (dPb (stD S)) k) + (dPb (stD S) k)))), (2, .int (nI ((fb_sm (fun g => qtN (dAg (stD S)) (dX (stD S) 12) g) k) + (qtN (dAg (stD S)) (dX (stD S) 12) k)))), (1, .int (nI ((fb_sm (fun g => dX (stD S) 7 / 2 ^ g &&& 1) k) + (dX (stD S) 7 / 2 ^ k &&& 1)))), (0, .ref (h 0)), (4, .int (nI 0)), (6, .int (nI (dX (stD S) 1))), (7, .int (nI 1)), (8, .int (nI k))]) C dL_areGuests_131 (by decide) rfl ?_
              refine J_aload_n C dL_areGuests_133 rfl 5 rfl ?_
              refine J_iconst C dL_areGuests_134 (v := nI 1) (by decide) ?_
              refine J_callI (wr := []) C (R_H (st := []) (wc := HW Y h a S O) C hXS (kW_value ll Y hl0 h a S O b 1 (hG) (by omega) (by decide)) (vx_cwSW 2 C.t gL_areGuests_L_value rfl rfl rfl (by decide +kernel) ⟨by decide, by decide⟩) rfl (List.range 49) (HW_all Y h a S O) rng_nd49 rfl (Nat.le_of_ble_eq_true rfl) dL_areGuests_135 ⟨Nat.le_of_ble_eq_true rfl, Nat.le_of_ble_eq_true rfl⟩) (List.range 49) [] (HW_all Y h a S O) rfl (by decide) (by decide) (fun r135 u135 hw135 => ?_)
              subst hw135
              refine J_eq (pc' := 138) (lv' := [(9, .int (iZ ((-1)))), (5, .int (nI ((fb_sm (fun g => szH (dX (stD S) 1) g) k) + (szH (dX (stD S) 1) k)))), (3, .int (nI ((fb_sm (dPb (stD S)) k) + (dPb (stD S) k)))), (2, .int (nI ((fb_sm (fun g => qtN (dAg (stD S)) (dX (stD S) 12) g) k) + (qtN (dAg (stD S)) (dX (stD S) 12) k)))), (1, .int (nI ((fb_sm (fun g => dX (stD S) 7 / 2 ^ g &&& 1) k) + (dX (stD S) 7 / 2 ^ k &&& 1)))), (0, .ref (h 0)), (4, .int (nI 0)), (6, .int (nI (dX (stD S) 1))), (7, .int (nI 1)), (8, .int (nI k))]) (st' := [.int (nI (abH (dX (stD S)) 1))]) (ws' := HW Y h a S O) rfl rfl rfl rfl ?_
              refine J_top (y := .int (nI 1)) (by rw [show abH (dX (stD S)) 1 = dX (stD S) 2 from rfl, hgo]) ?_
              refine J_iconst C dL_areGuests_138 (v := nI 1) (by decide) ?_
              refine J_icmp_neN (tgt := 156) C dL_areGuests_139 (by decide) (by omega) (by omega) (fun cq139 => ?_) (fun cq139 => ?_)
              · exact absurd cq139 (by omega)
              · refine J_iload C dL_areGuests_142 0 rfl ?_
                refine J_iconst C dL_areGuests_144 (v := iZ ((-1))) (by decide) ?_
                refine J_icmp_ne (tgt := 152) C dL_areGuests_145 (by decide) (fun cq145 => ?_) (fun cq145 => ?_)
                · exact absurd rfl cq145
                · refine J_iconst C dL_areGuests_148 (v := nI 1) (by decide) ?_
                  refine J_goto (tgt := 184) C dL_areGuests_149 (by decide) ?_
                  refine J_istore (lv' := [(7, .int (nI 1)), (9, .int (iZ ((-1)))), (5, .int (nI ((fb_sm (fun g => szH (dX (stD S) 1) g) k) + (szH (dX (stD S) 1) k)))), (3, .int (nI ((fb_sm (dPb (stD S)) k) + (dPb (stD S) k)))), (2, .int (nI ((fb_sm (fun g => qtN (dAg (stD S)) (dX (stD S) 12) g) k) + (qtN (dAg (stD S)) (dX (stD S) 12) k)))), (1, .int (nI ((fb_sm (fun g => dX (stD S) 7 / 2 ^ g &&& 1) k) + (dX (stD S) 7 / 2 ^ k &&& 1)))), (0, .ref (h 0)), (4, .int (nI 0)), (6, .int (nI (dX (stD S) 1))), (8, .int (nI k))]) C dL_areGuests_184 (by decide) rfl ?_
                  refine J_iload C dL_areGuests_186 7 rfl ?_
                  refine J_iload C dL_areGuests_188 1 rfl ?_
                  refine J_iconst C dL_areGuests_190 (v := iZ ((-1))) (by decide) ?_
                  refine J_icmp_ne (tgt := 198) C dL_areGuests_191 (by decide) (fun cq191 => ?_) (fun cq191 => ?_)
                  · exact absurd rfl cq191
                  · refine J_iconst C dL_areGuests_194 (v := nI 0) (by decide) ?_
                    refine J_goto (tgt := 200) C dL_areGuests_195 (by decide) ?_
                    refine J_iorN C dL_areGuests_200 ?_
                    refine J_top (y := .int (nI 0)) (rfl) ?_
                    refine J_istore (lv' := [(4, .int (nI 0)), (7, .int (nI 1)), (9, .int (iZ ((-1)))), (5, .int (nI ((fb_sm (fun g => szH (dX (stD S) 1) g) k) + (szH (dX (stD S) 1) k)))), (3, .int (nI ((fb_sm (dPb (stD S)) k) + (dPb (stD S) k)))), (2, .int (nI ((fb_sm (fun g => qtN (dAg (stD S)) (dX (stD S) 12) g) k) + (qtN (dAg (stD S)) (dX (stD S) 12) k)))), (1, .int (nI ((fb_sm (fun g => dX (stD S) 7 / 2 ^ g &&& 1) k) + (dX (stD S) 7 / 2 ^ k &&& 1)))), (0, .ref (h 0)), (6, .int (nI (dX (stD S) 1))), (8, .int (nI k))]) C dL_areGuests_201 (by decide) rfl ?_
                    refine J_iinc (j := 9) (v := nI (k + 1)) (lv' := [(8, .int (nI (k + 1))), (4, .int (nI 0)), (7, .int (nI 1)), (9, .int (iZ ((-1)))), (5, .int (nI ((fb_sm (fun g => szH (dX (stD S) 1) g) k) + (szH (dX (stD S) 1) k)))), (3, .int (nI ((fb_sm (dPb (stD S)) k) + (dPb (stD S) k)))), (2, .int (nI ((fb_sm (fun g => qtN (dAg (stD S)) (dX (stD S) 12) g) k) + (qtN (dAg (stD S)) (dX (stD S) 12) k)))), (1, .int (nI ((fb_sm (fun g => dX (stD S) 7 / 2 ^ g &&& 1) k) + (dX (stD S) 7 / 2 ^ k &&& 1)))), (0, .ref (h 0)), (6, .int (nI (dX (stD S) 1)))]) C dL_areGuests_203 rfl (nI_1 _) (by decide) rfl ?_
                    refine J_goto (tgt := 69) C dL_areGuests_206 (by decide) ?_
                    refine J_lv (lv' := [(0, .ref (h 0)), (1, .int (nI ((fb_sm (fun g => dX (stD S) 7 / 2 ^ g &&& 1) k) + (dX (stD S) 7 / 2 ^ k &&& 1)))), (2, .int (nI ((fb_sm (fun g => qtN (dAg (stD S)) (dX (stD S) 12) g) k) + (qtN (dAg (stD S)) (dX (stD S) 12) k)))), (3, .int (nI ((fb_sm (dPb (stD S)) k) + (dPb (stD S) k)))), (4, .int (nI 0)), (5, .int (nI ((fb_sm (fun g => szH (dX (stD S) 1) g) k) + (szH (dX (stD S) 1) k)))), (6, .int (nI (dX (stD S) 1))), (7, .int (nI 1)), (8, .int (nI (k + 1)))]) [8, 7, 6, 5, 1, 4, 9, 2, 0] rfl ?_
                    exact ih69 (k + 1) (by omega) (show dX (stD S) 1 - (k + 1) < dX (stD S) 1 - k from by omega)
        · refine J_iload C dL_areGuests_42 0 rfl ?_
          refine J_if_eqN (tgt := 59) C dL_areGuests_44 (by decide) (by omega) (fun cq44 => ?_) (fun cq44 => ?_)
          · exact absurd cq44 (by omega)
          · refine J_iload C dL_areGuests_47 0 rfl ?_
            refine J_iconst C dL_areGuests_49 (v := nI 3) (by decide) ?_
            refine J_icmp_eqN (tgt := 59) C dL_areGuests_50 (by decide) (by omega) (by omega) (fun cq50 => ?_) (fun cq50 => ?_)
            · exact jn59 (trivial)
            · refine J_iload C dL_areGuests_53 0 rfl ?_
              refine J_iconst C dL_areGuests_55 (v := nI 4) (by decide) ?_
              refine J_icmp_neN (tgt := 63) C dL_areGuests_56 (by decide) (by omega) (by omega) (fun cq56 => ?_) (fun cq56 => ?_)
              · exact absurd cq56 (by omega)
              · exact jn59 (trivial)
  · have hn4 := EI_4 (G_E hG)
    have hm20 := EI_12 (G_E hG)
    have h54 := EI_54 (G_E hG)
    have h4b := G_b hG
    have ah := (G_E hG).1.2.2.2.2
    have hc8 := (G_E hG).1.2.2.1
    obtain ⟨y1, y7, y12, y5, y2, yp, yq, yl⟩ := id hE
    refine J_iconst C dL_areGuests_0 (v := nI 0) (by decide) ?_
    refine J_istore_n (lv' := [(1, .int (nI 0)), (0, .ref (h 0))]) C dL_areGuests_1 rfl (by decide) rfl ?_
    refine J_iconst C dL_areGuests_2 (v := nI 0) (by decide) ?_
    refine J_istore_n (lv' := [(2, .int (nI 0)), (1, .int (nI 0)), (0, .ref (h 0))]) C dL_areGuests_3 rfl (by decide) rfl ?_
    refine J_iconst C dL_areGuests_4 (v := nI 0) (by decide) ?_
    refine J_istore_n (lv' := [(3, .int (nI 0)), (2, .int (nI 0)), (1, .int (nI 0)), (0, .ref (h 0))]) C dL_areGuests_5 rfl (by decide) rfl ?_
    refine J_iconst C dL_areGuests_6 (v := nI 0) (by decide) ?_
    refine J_istore (lv' := [(4, .int (nI 0)), (3, .int (nI 0)), (2, .int (nI 0)), (1, .int (nI 0)), (0, .ref (h 0))]) C dL_areGuests_7 (by decide) rfl ?_
    refine J_iconst C dL_areGuests_9 (v := nI 0) (by decide) ?_
    refine J_istore (lv' := [(5, .int (nI 0)), (4, .int (nI 0)), (3, .int (nI 0)), (2, .int (nI 0)), (1, .int (nI 0)), (0, .ref (h 0))]) C dL_areGuests_10 (by decide) rfl ?_
    refine J_aload_n C dL_areGuests_12 rfl 5 rfl ?_
    refine J_iconst C dL_areGuests_13 (v := nI 0) (by decide) ?_
    refine J_callI (wr := []) C (R_H (st := []) (wc := HW Y h a S O) C hXS (kW_value ll Y hl0 h a S O b 0 (hG) (by omega) (by decide)) (vx_cwSW 2 C.t gL_areGuests_L_value rfl rfl rfl (by decide +kernel) ⟨by decide, by decide⟩) rfl (List.range 49) (HW_all Y h a S O) rng_nd49 rfl (Nat.le_of_ble_eq_true rfl) dL_areGuests_14 ⟨Nat.le_of_ble_eq_true rfl, Nat.le_of_ble_eq_true rfl⟩) (List.range 49) [] (HW_all Y h a S O) rfl (by decide) (by decide) (fun r14 u14 hw14 => ?_)
    subst hw14
    refine J_eq (pc' := 17) (lv' := [(5, .int (nI 0)), (4, .int (nI 0)), (3, .int (nI 0)), (2, .int (nI 0)), (1, .int (nI 0)), (0, .ref (h 0))]) (st' := [.int (nI (abH (dX (stD S)) 0))]) (ws' := HW Y h a S O) rfl rfl rfl rfl ?_
    refine J_top (y := .int (nI (dX (stD S) 1))) (rfl) ?_
    refine J_istore (lv' := [(6, .int (nI (dX (stD S) 1))), (5, .int (nI 0)), (4, .int (nI 0)), (3, .int (nI 0)), (2, .int (nI 0)), (1, .int (nI 0)), (0, .ref (h 0))]) C dL_areGuests_17 (by decide) rfl ?_
    refine J_aload_n C dL_areGuests_19 rfl 6 rfl ?_
    refine J_iconst C dL_areGuests_20 (v := nI 2) (by decide) ?_
    refine J_callI (wr := []) C (R_H (st := []) (wc := HW Y h a S O) C hXS (kW_value ll Y hl0 h a S O b 2 (hG) (by omega) (by decide)) (vx_cwSW 2 C.t gL_areGuests_L_value rfl rfl rfl (by decide +kernel) ⟨by decide, by decide⟩) rfl (List.range 49) (HW_all Y h a S O) rng_nd49 rfl (Nat.le_of_ble_eq_true rfl) dL_areGuests_21 ⟨Nat.le_of_ble_eq_true rfl, Nat.le_of_ble_eq_true rfl⟩) (List.range 49) [] (HW_all Y h a S O) rfl (by decide) (by decide) (fun r21 u21 hw21 => ?_)
    subst hw21
    refine J_eq (pc' := 24) (lv' := [(6, .int (nI (dX (stD S) 1))), (5, .int (nI 0)), (4, .int (nI 0)), (3, .int (nI 0)), (2, .int (nI 0)), (1, .int (nI 0)), (0, .ref (h 0))]) (st' := [.int (nI (abH (dX (stD S)) 2))]) (ws' := HW Y h a S O) rfl rfl rfl rfl ?_
    refine J_top (y := .int (nI (dX (stD S) 12))) (rfl) ?_
    refine J_bipush C dL_areGuests_24 (v := nI 20) (by decide) ?_
    refine J_icmp_gtN (tgt := 63) C dL_areGuests_26 (by decide) (by omega) (by omega) (fun cq26 => ?_) (fun cq26 => ?_)
    · exact absurd cq26 (by omega)
    · refine J_aload_n C dL_areGuests_29 rfl 6 rfl ?_
      refine J_iconst C dL_areGuests_30 (v := nI 5) (by decide) ?_
      refine J_callI (wr := []) C (R_H (st := []) (wc := HW Y h a S O) C hXS (kW_value ll Y hl0 h a S O b 5 (hG) (by omega) (by decide)) (vx_cwSW 2 C.t gL_areGuests_L_value rfl rfl rfl (by decide +kernel) ⟨by decide, by decide⟩) rfl (List.range 49) (HW_all Y h a S O) rng_nd49 rfl (Nat.le_of_ble_eq_true rfl) dL_areGuests_31 ⟨Nat.le_of_ble_eq_true rfl, Nat.le_of_ble_eq_true rfl⟩) (List.range 49) [] (HW_all Y h a S O) rfl (by decide) (by decide) (fun r31 u31 hw31 => ?_)
      subst hw31
      refine J_eq (pc' := 34) (lv' := [(6, .int (nI (dX (stD S) 1))), (5, .int (nI 0)), (4, .int (nI 0)), (3, .int (nI 0)), (2, .int (nI 0)), (1, .int (nI 0)), (0, .ref (h 0))]) (st' := [.int (nI (abH (dX (stD S)) 5))]) (ws' := HW Y h a S O) rfl rfl rfl rfl ?_
      refine J_top (y := .int (nI (dX (stD S) 5))) (rfl) ?_
      refine J_aload_n C dL_areGuests_34 rfl 6 rfl ?_
      refine J_iconst C dL_areGuests_35 (v := nI 4) (by decide) ?_
      refine J_callI (wr := []) C (R_H (st := [.int (nI (dX (stD S) 5))]) (wc := HW Y h a S O) C hXS (kW_value ll Y hl0 h a S O b 4 (hG) (by omega) (by decide)) (vx_cwSW 2 C.t gL_areGuests_L_value rfl rfl rfl (by decide +kernel) ⟨by decide, by decide⟩) rfl (List.range 49) (HW_all Y h a S O) rng_nd49 rfl (Nat.le_of_ble_eq_true rfl) dL_areGuests_36 ⟨Nat.le_of_ble_eq_true rfl, Nat.le_of_ble_eq_true rfl⟩) (List.range 49) [] (HW_all Y h a S O) rfl (by decide) (by decide) (fun r36 u36 hw36 => ?_)
      subst hw36
      refine J_eq (pc' := 39) (lv' := [(6, .int (nI (dX (stD S) 1))), (5, .int (nI 0)), (4, .int (nI 0)), (3, .int (nI 0)), (2, .int (nI 0)), (1, .int (nI 0)), (0, .ref (h 0))]) (st' := [.int (nI (abH (dX (stD S)) 4)), .int (nI (dX (stD S) 5))]) (ws' := HW Y h a S O) rfl rfl rfl rfl ?_
      refine J_top (y := .int (nI (dX (stD S) 4))) (rfl) ?_
      refine J_icmp_gtN (tgt := 63) C dL_areGuests_39 (by decide) (by omega) (by omega) (fun cq39 => ?_) (fun cq39 => ?_)
      · exact absurd cq39 (by omega)
      · refine J_cut (pc' := 59) (lv' := [(6, .int (nI (dX (stD S) 1))), (5, .int (nI 0)), (4, .int (nI 0)), (3, .int (nI 0)), (2, .int (nI 0)), (1, .int (nI 0)), (0, .ref (h 0))]) (st' := []) (ws' := HW Y h a S O) (True) (fun _hT => ?_) (fun jn59 => ?_)
        · refine J_iconst C dL_areGuests_59 (v := nI 1) (by decide) ?_
          refine J_goto (tgt := 64) C dL_areGuests_60 (by decide) ?_
          refine J_istore (lv' := [(7, .int (nI 1)), (6, .int (nI (dX (stD S) 1))), (5, .int (nI 0)), (4, .int (nI 0)), (3, .int (nI 0)), (2, .int (nI 0)), (1, .int (nI 0)), (0, .ref (h 0))]) C dL_areGuests_64 (by decide) rfl ?_
          refine J_iconst C dL_areGuests_66 (v := nI 0) (by decide) ?_
          refine J_istore (lv' := [(8, .int (nI 0)), (7, .int (nI 1)), (6, .int (nI (dX (stD S) 1))), (5, .int (nI 0)), (4, .int (nI 0)), (3, .int (nI 0)), (2, .int (nI 0)), (1, .int (nI 0)), (0, .ref (h 0))]) C dL_areGuests_67 (by decide) rfl ?_
          refine J_lv (lv' := [(0, .ref (h 0)), (1, .int (nI 0)), (2, .int (nI 0)), (3, .int (nI 0)), (4, .int (nI 0)), (5, .int (nI 0)), (6, .int (nI (dX (stD S) 1))), (7, .int (nI 1)), (8, .int (nI 0))]) [8, 7, 6, 5, 4, 3, 2, 1, 0] rfl ?_
          refine J_loop (σ := Nat) (I := fun (k : Nat) => (k ≤ dX (stD S) 1)) (μ := fun (k : Nat) => dX (stD S) 1 - k) (lvf := fun (k : Nat) => [(0, .ref (h 0)), (1, .int (nI (fb_sm (fun g => dX (stD S) 7 / 2 ^ g &&& 1) k))), (2, .int (nI (fb_sm (fun g => qtN (dAg (stD S)) (dX (stD S) 12) g) k))), (3, .int (nI (fb_sm (dPb (stD S)) k))), (4, .int (nI (orN (dHd (stD S)) k))), (5, .int (nI (fb_sm (fun g => szH (dX (stD S) 1) g) k))), (6, .int (nI (dX (stD S) 1))), (7, .int (nI 1)), (8, .int (nI k))]) (stf := fun (k : Nat) => []) (wsf := fun (k : Nat) => HW Y h a S O) ?_ (0) (by omega) (rfl) rfl (rfl)
          rintro k hk ih69
          refine J_eq (lv' := [(0, .ref (h 0)), (1, .int (nI (fb_sm (fun g => dX (stD S) 7 / 2 ^ g &&& 1) k))), (2, .int (nI (fb_sm (fun g => qtN (dAg (stD S)) (dX (stD S) 12) g) k))), (3, .int (nI (fb_sm (dPb (stD S)) k))), (4, .int (nI (orN (dHd (stD S)) k))), (5, .int (nI (fb_sm (fun g => szH (dX (stD S) 1) g) k))), (6, .int (nI (dX (stD S) 1))), (7, .int (nI 1)), (8, .int (nI k))]) (st' := []) (ws' := HW Y h a S O) rfl rfl rfl rfl ?_
          refine J_iload C dL_areGuests_69 8 rfl ?_
          refine J_iload C dL_areGuests_71 6 rfl ?_
          refine J_icmp_geN (tgt := 209) C dL_areGuests_73 (by decide) (by omega) (by omega) (fun cq73 => ?_) (fun cq73 => ?_)
          · refine J_eq (lv' := [(0, .ref (h 0)), (1, .int (nI (pc8 (dX (stD S) 7)))), (2, .int (nI (dX (stD S) 12))), (3, .int (nI (dX (stD S) 10))), (4, .int (nI (orN (dHd (stD S)) (dX (stD S) 1)))), (5, .int (nI 7)), (6, .int (nI (dX (stD S) 1))), (7, .int (nI 1)), (8, .int (nI k))]) rfl (by rw [show k = dX (stD S) 1 from by omega, here_n _ hn4 _ y7, ask_n _ (fun i hi => (yq i hi).1), yp, sz_7 y1]) rfl rfl ?_
            refine J_iconst C dL_areGuests_209 (v := nI 0) (by decide) ?_
            refine J_istore (lv' := [(8, .int (nI 0)), (0, .ref (h 0)), (1, .int (nI (pc8 (dX (stD S) 7)))), (2, .int (nI (dX (stD S) 12))), (3, .int (nI (dX (stD S) 10))), (4, .int (nI (orN (dHd (stD S)) (dX (stD S) 1)))), (5, .int (nI 7)), (6, .int (nI (dX (stD S) 1))), (7, .int (nI 1))]) C dL_areGuests_210 (by decide) rfl ?_
            refine J_lv (lv' := [(0, .ref (h 0)), (1, .int (nI (pc8 (dX (stD S) 7)))), (2, .int (nI (dX (stD S) 12))), (3, .int (nI (dX (stD S) 10))), (4, .int (nI (orN (dHd (stD S)) (dX (stD S) 1)))), (5, .int (nI 7)), (6, .int (nI (dX (stD S) 1))), (7, .int (nI 1)), (8, .int (nI 0))]) [1, 2, 3, 4, 5, 6, 7, 8, 0] rfl ?_
            refine J_loop (σ := Nat) (I := fun (q : Nat) => (q ≤ dX (stD S) 12)) (μ := fun (q : Nat) => dX (stD S) 12 - q) (lvf := fun (q : Nat) => [(0, .ref (h 0)), (1, .int (nI (pc8 (dX (stD S) 7)))), (2, .int (nI (dX (stD S) 12))), (3, .int (nI (dX (stD S) 10))), (4, .int (nI (orN (dHd (stD S)) (dX (stD S) 1)))), (5, .int (nI 7)), (6, .int (nI (dX (stD S) 1))), (7, .int (nI 1)), (8, .int (nI q))]) (stf := fun (q : Nat) => []) (wsf := fun (q : Nat) => HW Y h a S O) ?_ (0) (by omega) (rfl) rfl (rfl)
            rintro q hq ih212
            refine J_eq (lv' := [(0, .ref (h 0)), (1, .int (nI (pc8 (dX (stD S) 7)))), (2, .int (nI (dX (stD S) 12))), (3, .int (nI (dX (stD S) 10))), (4, .int (nI (orN (dHd (stD S)) (dX (stD S) 1)))), (5, .int (nI 7)), (6, .int (nI (dX (stD S) 1))), (7, .int (nI 1)), (8, .int (nI q))]) (st' := []) (ws' := HW Y h a S O) rfl rfl rfl rfl ?_
            refine J_iload C dL_areGuests_212 8 rfl ?_
            refine J_aload_n C dL_areGuests_214 rfl 0 rfl ?_
            refine J_iconst C dL_areGuests_215 (v := nI 2) (by decide) ?_
            refine J_callI (wr := []) C (R_H (st := [.int (nI q)]) (wc := HW Y h a S O) C hXS (kW_value ll Y hl0 h a S O b 2 (hG) (by omega) (by decide)) (vx_cwSW 2 C.t gL_areGuests_L_value rfl rfl rfl (by decide +kernel) ⟨by decide, by decide⟩) rfl (List.range 49) (HW_all Y h a S O) rng_nd49 rfl (Nat.le_of_ble_eq_true rfl) dL_areGuests_216 ⟨Nat.le_of_ble_eq_true rfl, Nat.le_of_ble_eq_true rfl⟩) (List.range 49) [] (HW_all Y h a S O) rfl (by decide) (by decide) (fun r216 u216 hw216 => ?_)
            subst hw216
            refine J_eq (pc' := 219) (lv' := [(0, .ref (h 0)), (1, .int (nI (pc8 (dX (stD S) 7)))), (2, .int (nI (dX (stD S) 12))), (3, .int (nI (dX (stD S) 10))), (4, .int (nI (orN (dHd (stD S)) (dX (stD S) 1)))), (5, .int (nI 7)), (6, .int (nI (dX (stD S) 1))), (7, .int (nI 1)), (8, .int (nI q))]) (st' := [.int (nI (abH (dX (stD S)) 2)), .int (nI q)]) (ws' := HW Y h a S O) rfl rfl rfl rfl ?_
            refine J_top (y := .int (nI (dX (stD S) 12))) (rfl) ?_
            refine J_icmp_geN (tgt := 325) C dL_areGuests_219 (by decide) (by omega) (by omega) (fun cq219 => ?_) (fun cq219 => ?_)
            · refine J_iload C dL_areGuests_325 7 rfl ?_
              refine J_if_eqN (tgt := 432) C dL_areGuests_327 (by decide) (by omega) (fun cq327 => ?_) (fun cq327 => ?_)
              · exact absurd cq327 (by omega)
              · refine J_iload_n C dL_areGuests_330 rfl 1 rfl ?_
                refine J_aload_n C dL_areGuests_331 rfl 0 rfl ?_
                refine J_bipush C dL_areGuests_332 (v := nI 8) (by decide) ?_
                refine J_callI (wr := []) C (R_H (st := [.int (nI (pc8 (dX (stD S) 7)))]) (wc := HW Y h a S O) C hXS (kW_value ll Y hl0 h a S O b 8 (hG) (by omega) (by decide)) (vx_cwSW 2 C.t gL_areGuests_L_value rfl rfl rfl (by decide +kernel) ⟨by decide, by decide⟩) rfl (List.range 49) (HW_all Y h a S O) rng_nd49 rfl (Nat.le_of_ble_eq_true rfl) dL_areGuests_334 ⟨Nat.le_of_ble_eq_true rfl, Nat.le_of_ble_eq_true rfl⟩) (List.range 49) [] (HW_all Y h a S O) rfl (by decide) (by decide) (fun r334 u334 hw334 => ?_)
                subst hw334
                refine J_eq (pc' := 337) (lv' := [(0, .ref (h 0)), (1, .int (nI (pc8 (dX (stD S) 7)))), (2, .int (nI (dX (stD S) 12))), (3, .int (nI (dX (stD S) 10))), (4, .int (nI (orN (dHd (stD S)) (dX (stD S) 1)))), (5, .int (nI 7)), (6, .int (nI (dX (stD S) 1))), (7, .int (nI 1)), (8, .int (nI q))]) (st' := [.int (nI (abH (dX (stD S)) 8)), .int (nI (pc8 (dX (stD S) 7)))]) (ws' := HW Y h a S O) rfl rfl rfl rfl ?_
                refine J_top (y := .int (nI (pc8 (dX (stD S) 7)))) (rfl) ?_
                refine J_icmp_ne (tgt := 432) C dL_areGuests_337 (by decide) (fun cq337 => ?_) (fun cq337 => ?_)
                · exact absurd rfl cq337
                · refine J_iload_n C dL_areGuests_340 rfl 2 rfl ?_
                  refine J_aload_n C dL_areGuests_341 rfl 0 rfl ?_
                  refine J_iconst C dL_areGuests_342 (v := nI 2) (by decide) ?_
                  refine J_callI (wr := []) C (R_H (st := [.int (nI (dX (stD S) 12))]) (wc := HW Y h a S O) C hXS (kW_value ll Y hl0 h a S O b 2 (hG) (by omega) (by decide)) (vx_cwSW 2 C.t gL_areGuests_L_value rfl rfl rfl (by decide +kernel) ⟨by decide, by decide⟩) rfl (List.range 49) (HW_all Y h a S O) rng_nd49 rfl (Nat.le_of_ble_eq_true rfl) dL_areGuests_343 ⟨Nat.le_of_ble_eq_true rfl, Nat.le_of_ble_eq_true rfl⟩) (List.range 49) [] (HW_all Y h a S O) rfl (by decide) (by decide) (fun r343 u343 hw343 => ?_)
                  subst hw343
                  refine J_eq (pc' := 346) (lv' := [(0, .ref (h 0)), (1, .int (nI (pc8 (dX (stD S) 7)))), (2, .int (nI (dX (stD S) 12))), (3, .int (nI (dX (stD S) 10))), (4, .int (nI (orN (dHd (stD S)) (dX (stD S) 1)))), (5, .int (nI 7)), (6, .int (nI (dX (stD S) 1))), (7, .int (nI 1)), (8, .int (nI q))]) (st' := [.int (nI (abH (dX (stD S)) 2)), .int (nI (dX (stD S) 12))]) (ws' := HW Y h a S O) rfl rfl rfl rfl ?_
                  refine J_top (y := .int (nI (dX (stD S) 12))) (rfl) ?_
                  refine J_icmp_ne (tgt := 432) C dL_areGuests_346 (by decide) (fun cq346 => ?_) (fun cq346 => ?_)
                  · exact absurd rfl cq346
                  · refine J_iload_n C dL_areGuests_349 rfl 3 rfl ?_
                    refine J_aload_n C dL_areGuests_350 rfl 0 rfl ?_
                    refine J_iconst C dL_areGuests_351 (v := nI 3) (by decide) ?_
                    refine J_callI (wr := []) C (R_H (st := [.int (nI (dX (stD S) 10))]) (wc := HW Y h a S O) C hXS (kW_value ll Y hl0 h a S O b 3 (hG) (by omega) (by decide)) (vx_cwSW 2 C.t gL_areGuests_L_value rfl rfl rfl (by decide +kernel) ⟨by decide, by decide⟩) rfl (List.range 49) (HW_all Y h a S O) rng_nd49 rfl (Nat.le_of_ble_eq_true rfl) dL_areGuests_352 ⟨Nat.le_of_ble_eq_true rfl, Nat.le_of_ble_eq_true rfl⟩) (List.range 49) [] (HW_all Y h a S O) rfl (by decide) (by decide) (fun r352 u352 hw352 => ?_)
                    subst hw352
                    refine J_eq (pc' := 355) (lv' := [(0, .ref (h 0)), (1, .int (nI (pc8 (dX (stD S) 7)))), (2, .int (nI (dX (stD S) 12))), (3, .int (nI (dX (stD S) 10))), (4, .int (nI (orN (dHd (stD S)) (dX (stD S) 1)))), (5, .int (nI 7)), (6, .int (nI (dX (stD S) 1))), (7, .int (nI 1)), (8, .int (nI q))]) (st' := [.int (nI (abH (dX (stD S)) 3)), .int (nI (dX (stD S) 10))]) (ws' := HW Y h a S O) rfl rfl rfl rfl ?_
                    refine J_top (y := .int (nI (dX (stD S) 10))) (rfl) ?_
                    refine J_icmp_ne (tgt := 432) C dL_areGuests_355 (by decide) (fun cq355 => ?_) (fun cq355 => ?_)
                    · exact absurd rfl cq355
                    · refine J_iload C dL_areGuests_358 6 rfl ?_
                      refine J_if_eqN (tgt := 370) C dL_areGuests_360 (by decide) (by omega) (fun cq360 => ?_) (fun cq360 => ?_)
                      · exact absurd cq360 (by omega)
                      · refine J_iload C dL_areGuests_363 5 rfl ?_
                        refine J_bipush C dL_areGuests_365 (v := nI 7) (by decide) ?_
                        refine J_icmp_neN (tgt := 432) C dL_areGuests_367 (by decide) (by omega) (by omega) (fun cq367 => ?_) (fun cq367 => ?_)
                        · exact absurd cq367 (by omega)
                        · refine J_iload C dL_areGuests_370 6 rfl ?_
                          refine J_if_eqN (tgt := 384) C dL_areGuests_372 (by decide) (by omega) (fun cq372 => ?_) (fun cq372 => ?_)
                          · exact absurd cq372 (by omega)
                          · refine J_aload_n C dL_areGuests_375 rfl 0 rfl ?_
                            refine J_iconst C dL_areGuests_376 (v := nI 1) (by decide) ?_
                            refine J_callI (wr := []) C (R_H (st := []) (wc := HW Y h a S O) C hXS (kW_value ll Y hl0 h a S O b 1 (hG) (by omega) (by decide)) (vx_cwSW 2 C.t gL_areGuests_L_value rfl rfl rfl (by decide +kernel) ⟨by decide, by decide⟩) rfl (List.range 49) (HW_all Y h a S O) rng_nd49 rfl (Nat.le_of_ble_eq_true rfl) dL_areGuests_377 ⟨Nat.le_of_ble_eq_true rfl, Nat.le_of_ble_eq_true rfl⟩) (List.range 49) [] (HW_all Y h a S O) rfl (by decide) (by decide) (fun r377 u377 hw377 => ?_)
                            subst hw377
                            refine J_eq (pc' := 380) (lv' := [(0, .ref (h 0)), (1, .int (nI (pc8 (dX (stD S) 7)))), (2, .int (nI (dX (stD S) 12))), (3, .int (nI (dX (stD S) 10))), (4, .int (nI (orN (dHd (stD S)) (dX (stD S) 1)))), (5, .int (nI 7)), (6, .int (nI (dX (stD S) 1))), (7, .int (nI 1)), (8, .int (nI q))]) (st' := [.int (nI (abH (dX (stD S)) 1))]) (ws' := HW Y h a S O) rfl rfl rfl rfl ?_
                            refine J_top (y := .int (nI 0)) (by rw [show abH (dX (stD S)) 1 = dX (stD S) 2 from rfl, hgo]) ?_
                            refine J_iconst C dL_areGuests_380 (v := nI 1) (by decide) ?_
                            refine J_icmp_neN (tgt := 397) C dL_areGuests_381 (by decide) (by omega) (by omega) (fun cq381 => ?_) (fun cq381 => ?_)
                            · refine J_iload C dL_areGuests_397 4 rfl ?_
                              refine J_iconst C dL_areGuests_399 (v := nI 1) (by decide) ?_
                              refine J_aload_n C dL_areGuests_400 rfl 0 rfl ?_
                              refine J_bipush C dL_areGuests_401 (v := nI 9) (by decide) ?_
                              refine J_callI (wr := []) C (R_H (st := [.int (nI 1), .int (nI (orN (dHd (stD S)) (dX (stD S) 1)))]) (wc := HW Y h a S O) C hXS (kW_value ll Y hl0 h a S O b 9 (hG) (by omega) (by decide)) (vx_cwSW 2 C.t gL_areGuests_L_value rfl rfl rfl (by decide +kernel) ⟨by decide, by decide⟩) rfl (List.range 49) (HW_all Y h a S O) rng_nd49 rfl (Nat.le_of_ble_eq_true rfl) dL_areGuests_403 ⟨Nat.le_of_ble_eq_true rfl, Nat.le_of_ble_eq_true rfl⟩) (List.range 49) [] (HW_all Y h a S O) rfl (by decide) (by decide) (fun r403 u403 hw403 => ?_)
                              subst hw403
                              refine J_eq (pc' := 406) (lv' := [(0, .ref (h 0)), (1, .int (nI (pc8 (dX (stD S) 7)))), (2, .int (nI (dX (stD S) 12))), (3, .int (nI (dX (stD S) 10))), (4, .int (nI (orN (dHd (stD S)) (dX (stD S) 1)))), (5, .int (nI 7)), (6, .int (nI (dX (stD S) 1))), (7, .int (nI 1)), (8, .int (nI q))]) (st' := [.int (nI (abH (dX (stD S)) 9)), .int (nI 1), .int (nI (orN (dHd (stD S)) (dX (stD S) 1)))]) (ws' := HW Y h a S O) rfl rfl rfl rfl ?_
                              refine J_top (y := .int (nI (dX (stD S) 3))) (by rw [show abH (dX (stD S)) 9 = dX (stD S) 3 from if_neg (by have := y2 hgo; omega)]) ?_
                              refine J_ishlN C dL_areGuests_406 (by omega) (Nat.lt_of_le_of_lt (Nat.mul_le_mul_left 1 (Nat.pow_le_pow_right (by decide) (Nat.le_of_lt_succ hc8))) (by decide)) ?_
                              refine J_iorN C dL_areGuests_407 ?_
                              refine J_top (y := .int (nI 255)) (by rw [or_full yl ah y1 hc8]) ?_
                              refine J_sipush C dL_areGuests_408 (v := nI 255) (by decide) ?_
                              refine J_icmp_neN (tgt := 432) C dL_areGuests_411 (by decide) (by omega) (by omega) (fun cq411 => ?_) (fun cq411 => ?_)
                              · exact absurd cq411 (by omega)
                              · refine J_iload C dL_areGuests_414 4 rfl ?_
                                refine J_aload_n C dL_areGuests_416 rfl 0 rfl ?_
                                refine J_bipush C dL_areGuests_417 (v := nI 9) (by decide) ?_
                                refine J_callI (wr := []) C (R_H (st := [.int (nI (orN (dHd (stD S)) (dX (stD S) 1)))]) (wc := HW Y h a S O) C hXS (kW_value ll Y hl0 h a S O b 9 (hG) (by omega) (by decide)) (vx_cwSW 2 C.t gL_areGuests_L_value rfl rfl rfl (by decide +kernel) ⟨by decide, by decide⟩) rfl (List.range 49) (HW_all Y h a S O) rng_nd49 rfl (Nat.le_of_ble_eq_true rfl) dL_areGuests_419 ⟨Nat.le_of_ble_eq_true rfl, Nat.le_of_ble_eq_true rfl⟩) (List.range 49) [] (HW_all Y h a S O) rfl (by decide) (by decide) (fun r419 u419 hw419 => ?_)
                                subst hw419
                                refine J_eq (pc' := 422) (lv' := [(0, .ref (h 0)), (1, .int (nI (pc8 (dX (stD S) 7)))), (2, .int (nI (dX (stD S) 12))), (3, .int (nI (dX (stD S) 10))), (4, .int (nI (orN (dHd (stD S)) (dX (stD S) 1)))), (5, .int (nI 7)), (6, .int (nI (dX (stD S) 1))), (7, .int (nI 1)), (8, .int (nI q))]) (st' := [.int (nI (abH (dX (stD S)) 9)), .int (nI (orN (dHd (stD S)) (dX (stD S) 1)))]) (ws' := HW Y h a S O) rfl rfl rfl rfl ?_
                                refine J_top (y := .int (nI (dX (stD S) 3))) (by rw [show abH (dX (stD S)) 9 = dX (stD S) 3 from if_neg (by have := y2 hgo; omega)]) ?_
                                refine J_ishrN C dL_areGuests_422 (by omega) (Nat.lt_of_lt_of_le (orN_lt ah _) (by decide)) ?_
                                refine J_iconst C dL_areGuests_423 (v := nI 1) (by decide) ?_
                                refine J_iandN C dL_areGuests_424 ?_
                                refine J_top (y := .int (nI 0)) (by rw [no_cul yl hn4 hc8]) ?_
                                refine J_if_neN (tgt := 432) C dL_areGuests_425 (by decide) (by omega) (fun cq425 => ?_) (fun cq425 => ?_)
                                · exact absurd cq425 (by omega)
                                · refine J_iconst C dL_areGuests_428 (v := nI 1) (by decide) ?_
                                  refine J_goto (tgt := 433) C dL_areGuests_429 (by decide) ?_
                                  exact J_zret C hr (by decide) dL_areGuests_433 (()) (rfl) (rfl)
                            · exact absurd cq381 (by omega)
            · refine J_iload C dL_areGuests_222 7 rfl ?_
              refine J_if_eqN (tgt := 325) C dL_areGuests_224 (by decide) (by omega) (fun cq224 => ?_) (fun cq224 => ?_)
              · exact absurd cq224 (by omega)
              · obtain ⟨q1, q2, q3, q4⟩ := yq q (by omega)
                have b1 := pc8_le (dAc (stD S) q)
                have b2 := szH_le (dX (stD S) 1) (dAg (stD S) q)
                refine J_aload_n C dL_areGuests_227 rfl 0 rfl ?_
                refine J_iload C dL_areGuests_228 8 rfl ?_
                refine J_iconst C dL_areGuests_230 (v := nI 0) (by decide) ?_
                refine J_callI (wr := []) C (R_H (st := []) (wc := HW Y h a S O) C hXS (kW_question ll Y hl0 h a S O b q 0 (hG) (by omega) (by omega) (by decide)) (vx_cwSW 3 C.t gL_areGuests_L_question rfl rfl rfl (by decide +kernel) ⟨by decide, by decide⟩) rfl (List.range 49) (HW_all Y h a S O) rng_nd49 rfl (Nat.le_of_ble_eq_true rfl) dL_areGuests_231 ⟨Nat.le_of_ble_eq_true rfl, Nat.le_of_ble_eq_true rfl⟩) (List.range 49) [] (HW_all Y h a S O) rfl (by decide) (by decide) (fun r231 u231 hw231 => ?_)
                subst hw231
                refine J_eq (pc' := 234) (lv' := [(0, .ref (h 0)), (1, .int (nI (pc8 (dX (stD S) 7)))), (2, .int (nI (dX (stD S) 12))), (3, .int (nI (dX (stD S) 10))), (4, .int (nI (orN (dHd (stD S)) (dX (stD S) 1)))), (5, .int (nI 7)), (6, .int (nI (dX (stD S) 1))), (7, .int (nI 1)), (8, .int (nI q))]) (st' := [.int (nI (abQ (dAg (stD S)) (dAc (stD S)) (dAn (stD S)) q 0))]) (ws' := HW Y h a S O) rfl rfl rfl rfl ?_
                refine J_top (y := .int (nI (dAg (stD S) q))) (rfl) ?_
                refine J_istore (lv' := [(9, .int (nI (dAg (stD S) q))), (0, .ref (h 0)), (1, .int (nI (pc8 (dX (stD S) 7)))), (2, .int (nI (dX (stD S) 12))), (3, .int (nI (dX (stD S) 10))), (4, .int (nI (orN (dHd (stD S)) (dX (stD S) 1)))), (5, .int (nI 7)), (6, .int (nI (dX (stD S) 1))), (7, .int (nI 1)), (8, .int (nI q))]) C dL_areGuests_234 (by decide) rfl ?_
                refine J_aload_n C dL_areGuests_236 rfl 1 rfl ?_
                refine J_iload C dL_areGuests_237 9 rfl ?_
                refine J_iconst C dL_areGuests_239 (v := nI 1) (by decide) ?_
                refine J_callI (wr := []) C (R_H (st := []) (wc := HW Y h a S O) C hXS (kW_question ll Y hl0 h a S O b q 1 (hG) (by omega) (by omega) (by decide)) (vx_cwSW 3 C.t gL_areGuests_L_question rfl rfl rfl (by decide +kernel) ⟨by decide, by decide⟩) rfl (List.range 49) (HW_all Y h a S O) rng_nd49 rfl (Nat.le_of_ble_eq_true rfl) dL_areGuests_240 ⟨Nat.le_of_ble_eq_true rfl, Nat.le_of_ble_eq_true rfl⟩) (List.range 49) [] (HW_all Y h a S O) rfl (by decide) (by decide) (fun r240 u240 hw240 => ?_)
                subst hw240
                refine J_eq (pc' := 243) (lv' := [(9, .int (nI (dAg (stD S) q))), (0, .ref (h 0)), (1, .int (nI (pc8 (dX (stD S) 7)))), (2, .int (nI (dX (stD S) 12))), (3, .int (nI (dX (stD S) 10))), (4, .int (nI (orN (dHd (stD S)) (dX (stD S) 1)))), (5, .int (nI 7)), (6, .int (nI (dX (stD S) 1))), (7, .int (nI 1)), (8, .int (nI q))]) (st' := [.int (nI (abQ (dAg (stD S)) (dAc (stD S)) (dAn (stD S)) q 1))]) (ws' := HW Y h a S O) rfl rfl rfl rfl ?_
                refine J_top (y := .int (nI (dAc (stD S) q))) (rfl) ?_
                refine J_callI (wr := HW Y h a S O) C (R_S (st := []) (wc := []) C (kL_ones ll Y (dAc (stD S) q) (by omega)) (va_cwS 1 C.t gL_areGuests_L_ones rfl rfl rfl (by decide +kernel) ⟨by decide, by decide⟩) rfl [] rfl (by decide) rfl (Nat.le_of_ble_eq_true rfl) dL_areGuests_243 ⟨Nat.le_of_ble_eq_true rfl, Nat.le_of_ble_eq_true rfl⟩) [] (List.range 49) rfl (HW_all Y h a S O) rng_nd49 (by decide +kernel) (fun r243 u243 hw243 => ?_)
                subst hw243
                refine J_eq (pc' := 246) (lv' := [(9, .int (nI (dAg (stD S) q))), (0, .ref (h 0)), (1, .int (nI (pc8 (dX (stD S) 7)))), (2, .int (nI (dX (stD S) 12))), (3, .int (nI (dX (stD S) 10))), (4, .int (nI (orN (dHd (stD S)) (dX (stD S) 1)))), (5, .int (nI 7)), (6, .int (nI (dX (stD S) 1))), (7, .int (nI 1)), (8, .int (nI q))]) (st' := [.int (nI (pc8 (dAc (stD S) q)))]) (ws' := HW Y h a S O) rfl rfl rfl (List.append_nil _) ?_
                refine J_aload_n C dL_areGuests_246 rfl 1 rfl ?_
                refine J_iload C dL_areGuests_247 0 rfl ?_
                refine J_iconst C dL_areGuests_249 (v := nI 0) (by decide) ?_
                refine J_callI (wr := []) C (R_H (st := [.int (nI (pc8 (dAc (stD S) q)))]) (wc := HW Y h a S O) C hXS (kW_guest ll Y hl0 h a S O b (dAg (stD S) q) 0 (hG) (by omega) (q1) (by decide)) (vx_cwSW 3 C.t gL_areGuests_L_guest rfl rfl rfl (by decide +kernel) ⟨by decide, by decide⟩) rfl (List.range 49) (HW_all Y h a S O) rng_nd49 rfl (Nat.le_of_ble_eq_true rfl) dL_areGuests_250 ⟨Nat.le_of_ble_eq_true rfl, Nat.le_of_ble_eq_true rfl⟩) (List.range 49) [] (HW_all Y h a S O) rfl (by decide) (by decide) (fun r250 u250 hw250 => ?_)
                subst hw250
                refine J_eq (pc' := 253) (lv' := [(9, .int (nI (dAg (stD S) q))), (0, .ref (h 0)), (1, .int (nI (pc8 (dX (stD S) 7)))), (2, .int (nI (dX (stD S) 12))), (3, .int (nI (dX (stD S) 10))), (4, .int (nI (orN (dHd (stD S)) (dX (stD S) 1)))), (5, .int (nI 7)), (6, .int (nI (dX (stD S) 1))), (7, .int (nI 1)), (8, .int (nI q))]) (st' := [.int (nI (abG (dX (stD S)) (dHd (stD S)) (dPb (stD S)) (dAg (stD S)) (dL (stD S)) (dAg (stD S) q) 0)), .int (nI (pc8 (dAc (stD S) q)))]) (ws' := HW Y h a S O) rfl rfl rfl rfl ?_
                refine J_top (y := .int (nI (szH (dX (stD S) 1) (dAg (stD S) q)))) (rfl) ?_
                refine J_icmp_geN (tgt := 269) C dL_areGuests_253 (by decide) (by omega) (by omega) (fun cq253 => ?_) (fun cq253 => ?_)
                · refine J_aload_n C dL_areGuests_269 rfl 1 rfl ?_
                  refine J_iload C dL_areGuests_270 0 rfl ?_
                  refine J_iconst C dL_areGuests_272 (v := nI 0) (by decide) ?_
                  refine J_callI (wr := []) C (R_H (st := []) (wc := HW Y h a S O) C hXS (kW_guest ll Y hl0 h a S O b (dAg (stD S) q) 0 (hG) (by omega) (q1) (by decide)) (vx_cwSW 3 C.t gL_areGuests_L_guest rfl rfl rfl (by decide +kernel) ⟨by decide, by decide⟩) rfl (List.range 49) (HW_all Y h a S O) rng_nd49 rfl (Nat.le_of_ble_eq_true rfl) dL_areGuests_273 ⟨Nat.le_of_ble_eq_true rfl, Nat.le_of_ble_eq_true rfl⟩) (List.range 49) [] (HW_all Y h a S O) rfl (by decide) (by decide) (fun r273 u273 hw273 => ?_)
                  subst hw273
                  refine J_eq (pc' := 276) (lv' := [(9, .int (nI (dAg (stD S) q))), (0, .ref (h 0)), (1, .int (nI (pc8 (dX (stD S) 7)))), (2, .int (nI (dX (stD S) 12))), (3, .int (nI (dX (stD S) 10))), (4, .int (nI (orN (dHd (stD S)) (dX (stD S) 1)))), (5, .int (nI 7)), (6, .int (nI (dX (stD S) 1))), (7, .int (nI 1)), (8, .int (nI q))]) (st' := [.int (nI (abG (dX (stD S)) (dHd (stD S)) (dPb (stD S)) (dAg (stD S)) (dL (stD S)) (dAg (stD S) q) 0))]) (ws' := HW Y h a S O) rfl rfl rfl rfl ?_
                  refine J_top (y := .int (nI (szH (dX (stD S) 1) (dAg (stD S) q)))) (rfl) ?_
                  refine J_istore (lv' := [(10, .int (nI (szH (dX (stD S) 1) (dAg (stD S) q)))), (9, .int (nI (dAg (stD S) q))), (0, .ref (h 0)), (1, .int (nI (pc8 (dX (stD S) 7)))), (2, .int (nI (dX (stD S) 12))), (3, .int (nI (dX (stD S) 10))), (4, .int (nI (orN (dHd (stD S)) (dX (stD S) 1)))), (5, .int (nI 7)), (6, .int (nI (dX (stD S) 1))), (7, .int (nI 1)), (8, .int (nI q))]) C dL_areGuests_276 (by decide) rfl ?_
                  refine J_iload C dL_areGuests_278 1 rfl ?_
                  refine J_if_ltN (tgt := 316) C dL_areGuests_280 (by decide) (by omega) ?_
                  refine J_iload C dL_areGuests_283 1 rfl ?_
                  refine J_iload C dL_areGuests_285 8 rfl ?_
                  refine J_icmp_geN (tgt := 316) C dL_areGuests_287 (by decide) (by omega) (by omega) (fun cq287 => ?_) (fun cq287 => ?_)
                  · exact absurd cq287 (by omega)
                  · refine J_aload_n C dL_areGuests_290 rfl 2 rfl ?_
                    refine J_iload C dL_areGuests_291 10 rfl ?_
                    refine J_iconst C dL_areGuests_293 (v := nI 2) (by decide) ?_
                    refine J_callI (wr := []) C (R_H (st := []) (wc := HW Y h a S O) C hXS (kW_question ll Y hl0 h a S O b q 2 (hG) (by omega) (by omega) (by decide)) (vx_cwSW 3 C.t gL_areGuests_L_question rfl rfl rfl (by decide +kernel) ⟨by decide, by decide⟩) rfl (List.range 49) (HW_all Y h a S O) rng_nd49 rfl (Nat.le_of_ble_eq_true rfl) dL_areGuests_294 ⟨Nat.le_of_ble_eq_true rfl, Nat.le_of_ble_eq_true rfl⟩) (List.range 49) [] (HW_all Y h a S O) rfl (by decide) (by decide) (fun r294 u294 hw294 => ?_)
                    subst hw294
                    refine J_eq (pc' := 297) (lv' := [(10, .int (nI (szH (dX (stD S) 1) (dAg (stD S) q)))), (9, .int (nI (dAg (stD S) q))), (0, .ref (h 0)), (1, .int (nI (pc8 (dX (stD S) 7)))), (2, .int (nI (dX (stD S) 12))), (3, .int (nI (dX (stD S) 10))), (4, .int (nI (orN (dHd (stD S)) (dX (stD S) 1)))), (5, .int (nI 7)), (6, .int (nI (dX (stD S) 1))), (7, .int (nI 1)), (8, .int (nI q))]) (st' := [.int (nI (abQ (dAg (stD S)) (dAc (stD S)) (dAn (stD S)) q 2))]) (ws' := HW Y h a S O) rfl rfl rfl rfl ?_
                    refine J_top (y := .int (nI (dAn (stD S) q))) (rfl) ?_
                    refine J_if_ltN (tgt := 316) C dL_areGuests_297 (by decide) (by omega) ?_
                    refine J_aload_n C dL_areGuests_300 rfl 2 rfl ?_
                    refine J_iload C dL_areGuests_301 10 rfl ?_
                    refine J_iconst C dL_areGuests_303 (v := nI 2) (by decide) ?_
                    refine J_callI (wr := []) C (R_H (st := []) (wc := HW Y h a S O) C hXS (kW_question ll Y hl0 h a S O b q 2 (hG) (by omega) (by omega) (by decide)) (vx_cwSW 3 C.t gL_areGuests_L_question rfl rfl rfl (by decide +kernel) ⟨by decide, by decide⟩) rfl (List.range 49) (HW_all Y h a S O) rng_nd49 rfl (Nat.le_of_ble_eq_true rfl) dL_areGuests_304 ⟨Nat.le_of_ble_eq_true rfl, Nat.le_of_ble_eq_true rfl⟩) (List.range 49) [] (HW_all Y h a S O) rfl (by decide) (by decide) (fun r304 u304 hw304 => ?_)
                    subst hw304
                    refine J_eq (pc' := 307) (lv' := [(10, .int (nI (szH (dX (stD S) 1) (dAg (stD S) q)))), (9, .int (nI (dAg (stD S) q))), (0, .ref (h 0)), (1, .int (nI (pc8 (dX (stD S) 7)))), (2, .int (nI (dX (stD S) 12))), (3, .int (nI (dX (stD S) 10))), (4, .int (nI (orN (dHd (stD S)) (dX (stD S) 1)))), (5, .int (nI 7)), (6, .int (nI (dX (stD S) 1))), (7, .int (nI 1)), (8, .int (nI q))]) (st' := [.int (nI (abQ (dAg (stD S)) (dAc (stD S)) (dAn (stD S)) q 2))]) (ws' := HW Y h a S O) rfl rfl rfl rfl ?_
                    refine J_top (y := .int (nI (dAn (stD S) q))) (rfl) ?_
                    refine J_iload C dL_areGuests_307 0 rfl ?_
                    refine J_icmp_gtN (tgt := 316) C dL_areGuests_309 (by decide) (by omega) (by omega) (fun cq309 => ?_) (fun cq309 => ?_)
                    · exact absurd cq309 (by omega)
                    · refine J_iconst C dL_areGuests_312 (v := nI 1) (by decide) ?_
                      refine J_goto (tgt := 317) C dL_areGuests_313 (by decide) ?_
                      refine J_istore (lv' := [(7, .int (nI 1)), (10, .int (nI (szH (dX (stD S) 1) (dAg (stD S) q)))), (9, .int (nI (dAg (stD S) q))), (0, .ref (h 0)), (1, .int (nI (pc8 (dX (stD S) 7)))), (2, .int (nI (dX (stD S) 12))), (3, .int (nI (dX (stD S) 10))), (4, .int (nI (orN (dHd (stD S)) (dX (stD S) 1)))), (5, .int (nI 7)), (6, .int (nI (dX (stD S) 1))), (8, .int (nI q))]) C dL_areGuests_317 (by decide) rfl ?_
                      refine J_iinc (j := 10) (v := nI (q + 1)) (lv' := [(8, .int (nI (q + 1))), (7, .int (nI 1)), (10, .int (nI (szH (dX (stD S) 1) (dAg (stD S) q)))), (9, .int (nI (dAg (stD S) q))), (0, .ref (h 0)), (1, .int (nI (pc8 (dX (stD S) 7)))), (2, .int (nI (dX (stD S) 12))), (3, .int (nI (dX (stD S) 10))), (4, .int (nI (orN (dHd (stD S)) (dX (stD S) 1)))), (5, .int (nI 7)), (6, .int (nI (dX (stD S) 1)))]) C dL_areGuests_319 rfl (nI_1 _) (by decide) rfl ?_
                      refine J_goto (tgt := 212) C dL_areGuests_322 (by decide) ?_
                      refine J_lv (lv' := [(0, .ref (h 0)), (1, .int (nI (pc8 (dX (stD S) 7)))), (2, .int (nI (dX (stD S) 12))), (3, .int (nI (dX (stD S) 10))), (4, .int (nI (orN (dHd (stD S)) (dX (stD S) 1)))), (5, .int (nI 7)), (6, .int (nI (dX (stD S) 1))), (7, .int (nI 1)), (8, .int (nI (q + 1)))]) [4, 5, 6, 7, 8, 9, 10, 1, 0] rfl ?_
                      exact ih212 (q + 1) (by omega) (show dX (stD S) 12 - (q + 1) < dX (stD S) 12 - q from by omega)
                · refine J_aload_n C dL_areGuests_256 rfl 1 rfl ?_
                  refine J_iload C dL_areGuests_257 9 rfl ?_
                  refine J_iconst C dL_areGuests_259 (v := nI 1) (by decide) ?_
                  refine J_callI (wr := []) C (R_H (st := []) (wc := HW Y h a S O) C hXS (kW_question ll Y hl0 h a S O b q 1 (hG) (by omega) (by omega) (by decide)) (vx_cwSW 3 C.t gL_areGuests_L_question rfl rfl rfl (by decide +kernel) ⟨by decide, by decide⟩) rfl (List.range 49) (HW_all Y h a S O) rng_nd49 rfl (Nat.le_of_ble_eq_true rfl) dL_areGuests_260 ⟨Nat.le_of_ble_eq_true rfl, Nat.le_of_ble_eq_true rfl⟩) (List.range 49) [] (HW_all Y h a S O) rfl (by decide) (by decide) (fun r260 u260 hw260 => ?_)
                  subst hw260
                  refine J_eq (pc' := 263) (lv' := [(9, .int (nI (dAg (stD S) q))), (0, .ref (h 0)), (1, .int (nI (pc8 (dX (stD S) 7)))), (2, .int (nI (dX (stD S) 12))), (3, .int (nI (dX (stD S) 10))), (4, .int (nI (orN (dHd (stD S)) (dX (stD S) 1)))), (5, .int (nI 7)), (6, .int (nI (dX (stD S) 1))), (7, .int (nI 1)), (8, .int (nI q))]) (st' := [.int (nI (abQ (dAg (stD S)) (dAc (stD S)) (dAn (stD S)) q 1))]) (ws' := HW Y h a S O) rfl rfl rfl rfl ?_
                  refine J_top (y := .int (nI (dAc (stD S) q))) (rfl) ?_
                  refine J_callI (wr := HW Y h a S O) C (R_S (st := []) (wc := []) C (kL_ones ll Y (dAc (stD S) q) (by omega)) (va_cwS 1 C.t gL_areGuests_L_ones rfl rfl rfl (by decide +kernel) ⟨by decide, by decide⟩) rfl [] rfl (by decide) rfl (Nat.le_of_ble_eq_true rfl) dL_areGuests_263 ⟨Nat.le_of_ble_eq_true rfl, Nat.le_of_ble_eq_true rfl⟩) [] (List.range 49) rfl (HW_all Y h a S O) rng_nd49 (by decide +kernel) (fun r263 u263 hw263 => ?_)
                  subst hw263
                  refine J_eq (pc' := 266) (lv' := [(9, .int (nI (dAg (stD S) q))), (0, .ref (h 0)), (1, .int (nI (pc8 (dX (stD S) 7)))), (2, .int (nI (dX (stD S) 12))), (3, .int (nI (dX (stD S) 10))), (4, .int (nI (orN (dHd (stD S)) (dX (stD S) 1)))), (5, .int (nI 7)), (6, .int (nI (dX (stD S) 1))), (7, .int (nI 1)), (8, .int (nI q))]) (st' := [.int (nI (pc8 (dAc (stD S) q)))]) (ws' := HW Y h a S O) rfl rfl rfl (List.append_nil _) ?_
                  refine J_goto (tgt := 276) C dL_areGuests_266 (by decide) ?_
                  refine J_istore (lv' := [(10, .int (nI (pc8 (dAc (stD S) q)))), (9, .int (nI (dAg (stD S) q))), (0, .ref (h 0)), (1, .int (nI (pc8 (dX (stD S) 7)))), (2, .int (nI (dX (stD S) 12))), (3, .int (nI (dX (stD S) 10))), (4, .int (nI (orN (dHd (stD S)) (dX (stD S) 1)))), (5, .int (nI 7)), (6, .int (nI (dX (stD S) 1))), (7, .int (nI 1)), (8, .int (nI q))]) C dL_areGuests_276 (by decide) rfl ?_
                  refine J_iload C dL_areGuests_278 1 rfl ?_
                  refine J_if_ltN (tgt := 316) C dL_areGuests_280 (by decide) (by omega) ?_
                  refine J_iload C dL_areGuests_283 1 rfl ?_
                  refine J_iload C dL_areGuests_285 8 rfl ?_
                  refine J_icmp_geN (tgt := 316) C dL_areGuests_287 (by decide) (by omega) (by omega) (fun cq287 => ?_) (fun cq287 => ?_)
                  · exact absurd cq287 (by omega)
                  · refine J_aload_n C dL_areGuests_290 rfl 2 rfl ?_
                    refine J_iload C dL_areGuests_291 10 rfl ?_
                    refine J_iconst C dL_areGuests_293 (v := nI 2) (by decide) ?_
                    refine J_callI (wr := []) C (R_H (st := []) (wc := HW Y h a S O) C hXS (kW_question ll Y hl0 h a S O b q 2 (hG) (by omega) (by omega) (by decide)) (vx_cwSW 3 C.t gL_areGuests_L_question rfl rfl rfl (by decide +kernel) ⟨by decide, by decide⟩) rfl (List.range 49) (HW_all Y h a S O) rng_nd49 rfl (Nat.le_of_ble_eq_true rfl) dL_areGuests_294 ⟨Nat.le_of_ble_eq_true rfl, Nat.le_of_ble_eq_true rfl⟩) (List.range 49) [] (HW_all Y h a S O) rfl (by decide) (by decide) (fun r294 u294 hw294 => ?_)
                    subst hw294
                    refine J_eq (pc' := 297) (lv' := [(10, .int (nI (pc8 (dAc (stD S) q)))), (9, .int (nI (dAg (stD S) q))), (0, .ref (h 0)), (1, .int (nI (pc8 (dX (stD S) 7)))), (2, .int (nI (dX (stD S) 12))), (3, .int (nI (dX (stD S) 10))), (4, .int (nI (orN (dHd (stD S)) (dX (stD S) 1)))), (5, .int (nI 7)), (6, .int (nI (dX (stD S) 1))), (7, .int (nI 1)), (8, .int (nI q))]) (st' := [.int (nI (abQ (dAg (stD S)) (dAc (stD S)) (dAn (stD S)) q 2))]) (ws' := HW Y h a S O) rfl rfl rfl rfl ?_
                    refine J_top (y := .int (nI (dAn (stD S) q))) (rfl) ?_
                    refine J_if_ltN (tgt := 316) C dL_areGuests_297 (by decide) (by omega) ?_
                    refine J_aload_n C dL_areGuests_300 rfl 2 rfl ?_
                    refine J_iload C dL_areGuests_301 10 rfl ?_
                    refine J_iconst C dL_areGuests_303 (v := nI 2) (by decide) ?_
                    refine J_callI (wr := []) C (R_H (st := []) (wc := HW Y h a S O) C hXS (kW_question ll Y hl0 h a S O b q 2 (hG) (by omega) (by omega) (by decide)) (vx_cwSW 3 C.t gL_areGuests_L_question rfl rfl rfl (by decide +kernel) ⟨by decide, by decide⟩) rfl (List.range 49) (HW_all Y h a S O) rng_nd49 rfl (Nat.le_of_ble_eq_true rfl) dL_areGuests_304 ⟨Nat.le_of_ble_eq_true rfl, Nat.le_of_ble_eq_true rfl⟩) (List.range 49) [] (HW_all Y h a S O) rfl (by decide) (by decide) (fun r304 u304 hw304 => ?_)
                    subst hw304
                    refine J_eq (pc' := 307) (lv' := [(10, .int (nI (pc8 (dAc (stD S) q)))), (9, .int (nI (dAg (stD S) q))), (0, .ref (h 0)), (1, .int (nI (pc8 (dX (stD S) 7)))), (2, .int (nI (dX (stD S) 12))), (3, .int (nI (dX (stD S) 10))), (4, .int (nI (orN (dHd (stD S)) (dX (stD S) 1)))), (5, .int (nI 7)), (6, .int (nI (dX (stD S) 1))), (7, .int (nI 1)), (8, .int (nI q))]) (st' := [.int (nI (abQ (dAg (stD S)) (dAc (stD S)) (dAn (stD S)) q 2))]) (ws' := HW Y h a S O) rfl rfl rfl rfl ?_
                    refine J_top (y := .int (nI (dAn (stD S) q))) (rfl) ?_
                    refine J_iload C dL_areGuests_307 0 rfl ?_
                    refine J_icmp_gtN (tgt := 316) C dL_areGuests_309 (by decide) (by omega) (by omega) (fun cq309 => ?_) (fun cq309 => ?_)
                    · exact absurd cq309 (by omega)
                    · refine J_iconst C dL_areGuests_312 (v := nI 1) (by decide) ?_
                      refine J_goto (tgt := 317) C dL_areGuests_313 (by decide) ?_
                      refine J_istore (lv' := [(7, .int (nI 1)), (10, .int (nI (pc8 (dAc (stD S) q)))), (9, .int (nI (dAg (stD S) q))), (0, .ref (h 0)), (1, .int (nI (pc8 (dX (stD S) 7)))), (2, .int (nI (dX (stD S) 12))), (3, .int (nI (dX (stD S) 10))), (4, .int (nI (orN (dHd (stD S)) (dX (stD S) 1)))), (5, .int (nI 7)), (6, .int (nI (dX (stD S) 1))), (8, .int (nI q))]) C dL_areGuests_317 (by decide) rfl ?_
                      refine J_iinc (j := 10) (v := nI (q + 1)) (lv' := [(8, .int (nI (q + 1))), (7, .int (nI 1)), (10, .int (nI (pc8 (dAc (stD S) q)))), (9, .int (nI (dAg (stD S) q))), (0, .ref (h 0)), (1, .int (nI (pc8 (dX (stD S) 7)))), (2, .int (nI (dX (stD S) 12))), (3, .int (nI (dX (stD S) 10))), (4, .int (nI (orN (dHd (stD S)) (dX (stD S) 1)))), (5, .int (nI 7)), (6, .int (nI (dX (stD S) 1)))]) C dL_areGuests_319 rfl (nI_1 _) (by decide) rfl ?_
                      refine J_goto (tgt := 212) C dL_areGuests_322 (by decide) ?_
                      refine J_lv (lv' := [(0, .ref (h 0)), (1, .int (nI (pc8 (dX (stD S) 7)))), (2, .int (nI (dX (stD S) 12))), (3, .int (nI (dX (stD S) 10))), (4, .int (nI (orN (dHd (stD S)) (dX (stD S) 1)))), (5, .int (nI 7)), (6, .int (nI (dX (stD S) 1))), (7, .int (nI 1)), (8, .int (nI (q + 1)))]) [4, 5, 6, 7, 8, 9, 10, 1, 0] rfl ?_
                      exact ih212 (q + 1) (by omega) (show dX (stD S) 12 - (q + 1) < dX (stD S) 12 - q from by omega)
          · refine J_iload C dL_areGuests_76 7 rfl ?_
            refine J_if_eqN (tgt := 209) C dL_areGuests_78 (by decide) (by omega) (fun cq78 => ?_) (fun cq78 => ?_)
            · exact absurd cq78 (by omega)
            · refine J_iload_n C dL_areGuests_81 rfl 1 rfl ?_
              refine J_aload_n C dL_areGuests_82 rfl 0 rfl ?_
              refine J_iload C dL_areGuests_83 8 rfl ?_
              refine J_iconst C dL_areGuests_85 (v := nI 1) (by decide) ?_
              refine J_callI (wr := []) C (R_H (st := [.int (nI (fb_sm (fun g => dX (stD S) 7 / 2 ^ g &&& 1) k))]) (wc := HW Y h a S O) C hXS (kW_guest ll Y hl0 h a S O b k 1 (hG) (by omega) (by first | assumption | omega) (by decide)) (vx_cwSW 3 C.t gL_areGuests_L_guest rfl rfl rfl (by decide +kernel) ⟨by decide, by decide⟩) rfl (List.range 49) (HW_all Y h a S O) rng_nd49 rfl (Nat.le_of_ble_eq_true rfl) dL_areGuests_86 ⟨Nat.le_of_ble_eq_true rfl, Nat.le_of_ble_eq_true rfl⟩) (List.range 49) [] (HW_all Y h a S O) rfl (by decide) (by decide) (fun r86 u86 hw86 => ?_)
              subst hw86
              refine J_eq (pc' := 89) (lv' := [(0, .ref (h 0)), (1, .int (nI (fb_sm (fun g => dX (stD S) 7 / 2 ^ g &&& 1) k))), (2, .int (nI (fb_sm (fun g => qtN (dAg (stD S)) (dX (stD S) 12) g) k))), (3, .int (nI (fb_sm (dPb (stD S)) k))), (4, .int (nI (orN (dHd (stD S)) k))), (5, .int (nI (fb_sm (fun g => szH (dX (stD S) 1) g) k))), (6, .int (nI (dX (stD S) 1))), (7, .int (nI 1)), (8, .int (nI k))]) (st' := [.int (nI (abG (dX (stD S)) (dHd (stD S)) (dPb (stD S)) (dAg (stD S)) (dL (stD S)) k 1)), .int (nI (fb_sm (fun g => dX (stD S) 7 / 2 ^ g &&& 1) k))]) (ws' := HW Y h a S O) rfl rfl rfl rfl ?_
              refine J_top (y := .int (nI (dX (stD S) 7 / 2 ^ k &&& 1))) (rfl) ?_
              refine J_iaddN C dL_areGuests_89 ?_
              refine J_istore_n (lv' := [(1, .int (nI ((fb_sm (fun g => dX (stD S) 7 / 2 ^ g &&& 1) k) + (dX (stD S) 7 / 2 ^ k &&& 1)))), (0, .ref (h 0)), (2, .int (nI (fb_sm (fun g => qtN (dAg (stD S)) (dX (stD S) 12) g) k))), (3, .int (nI (fb_sm (dPb (stD S)) k))), (4, .int (nI (orN (dHd (stD S)) k))), (5, .int (nI (fb_sm (fun g => szH (dX (stD S) 1) g) k))), (6, .int (nI (dX (stD S) 1))), (7, .int (nI 1)), (8, .int (nI k))]) C dL_areGuests_90 rfl (by decide) rfl ?_
              refine J_iload_n C dL_areGuests_91 rfl 2 rfl ?_
              refine J_aload_n C dL_areGuests_92 rfl 1 rfl ?_
              refine J_iload C dL_areGuests_93 8 rfl ?_
              refine J_iconst C dL_areGuests_95 (v := nI 2) (by decide) ?_
              refine J_callI (wr := []) C (R_H (st := [.int (nI (fb_sm (fun g => qtN (dAg (stD S)) (dX (stD S) 12) g) k))]) (wc := HW Y h a S O) C hXS (kW_guest ll Y hl0 h a S O b k 2 (hG) (by omega) (by first | assumption | omega) (by decide)) (vx_cwSW 3 C.t gL_areGuests_L_guest rfl rfl rfl (by decide +kernel) ⟨by decide, by decide⟩) rfl (List.range 49) (HW_all Y h a S O) rng_nd49 rfl (Nat.le_of_ble_eq_true rfl) dL_areGuests_96 ⟨Nat.le_of_ble_eq_true rfl, Nat.le_of_ble_eq_true rfl⟩) (List.range 49) [] (HW_all Y h a S O) rfl (by decide) (by decide) (fun r96 u96 hw96 => ?_)
              subst hw96
              refine J_eq (pc' := 99) (lv' := [(1, .int (nI ((fb_sm (fun g => dX (stD S) 7 / 2 ^ g &&& 1) k) + (dX (stD S) 7 / 2 ^ k &&& 1)))), (0, .ref (h 0)), (2, .int (nI (fb_sm (fun g => qtN (dAg (stD S)) (dX (stD S) 12) g) k))), (3, .int (nI (fb_sm (dPb (stD S)) k))), (4, .int (nI (orN (dHd (stD S)) k))), (5, .int (nI (fb_sm (fun g => szH (dX (stD S) 1) g) k))), (6, .int (nI (dX (stD S) 1))), (7, .int (nI 1)), (8, .int (nI k))]) (st' := [.int (nI (abG (dX (stD S)) (dHd (stD S)) (dPb (stD S)) (dAg (stD S)) (dL (stD S)) k 2)), .int (nI (fb_sm (fun g => qtN (dAg (stD S)) (dX (stD S) 12) g) k))]) (ws' := HW Y h a S O) rfl rfl rfl rfl ?_
              refine J_top (y := .int (nI (qtN (dAg (stD S)) (dX (stD S) 12) k))) (rfl) ?_
              refine J_iaddN C dL_areGuests_99 ?_
              refine J_istore_n (lv' := [(2, .int (nI ((fb_sm (fun g => qtN (dAg (stD S)) (dX (stD S) 12) g) k) + (qtN (dAg (stD S)) (dX (stD S) 12) k)))), (1, .int (nI ((fb_sm (fun g => dX (stD S) 7 / 2 ^ g &&& 1) k) + (dX (stD S) 7 / 2 ^ k &&& 1)))), (0, .ref (h 0)), (3, .int (nI (fb_sm (dPb (stD S)) k))), (4, .int (nI (orN (dHd (stD S)) k))), (5, .int (nI (fb_sm (fun g => szH (dX (stD S) 1) g) k))), (6, .int (nI (dX (stD S) 1))), (7, .int (nI 1)), (8, .int (nI k))]) C dL_areGuests_100 rfl (by decide) rfl ?_
              refine J_iload_n C dL_areGuests_101 rfl 3 rfl ?_
              refine J_aload_n C dL_areGuests_102 rfl 2 rfl ?_
              refine J_iload C dL_areGuests_103 8 rfl ?_
              refine J_iconst C dL_areGuests_105 (v := nI 3) (by decide) ?_
              refine J_callI (wr := []) C (R_H (st := [.int (nI (fb_sm (dPb (stD S)) k))]) (wc := HW Y h a S O) C hXS (kW_guest ll Y hl0 h a S O b k 3 (hG) (by omega) (by first | assumption | omega) (by decide)) (vx_cwSW 3 C.t gL_areGuests_L_guest rfl rfl rfl (by decide +kernel) ⟨by decide, by decide⟩) rfl (List.range 49) (HW_all Y h a S O) rng_nd49 rfl (Nat.le_of_ble_eq_true rfl) dL_areGuests_106 ⟨Nat.le_of_ble_eq_true rfl, Nat.le_of_ble_eq_true rfl⟩) (List.range 49) [] (HW_all Y h a S O) rfl (by decide) (by decide) (fun r106 u106 hw106 => ?_)
              subst hw106
              refine J_eq (pc' := 109) (lv' := [(2, .int (nI ((fb_sm (fun g => qtN (dAg (stD S)) (dX (stD S) 12) g) k) + (qtN (dAg (stD S)) (dX (stD S) 12) k)))), (1, .int (nI ((fb_sm (fun g => dX (stD S) 7 / 2 ^ g &&& 1) k) + (dX (stD S) 7 / 2 ^ k &&& 1)))), (0, .ref (h 0)), (3, .int (nI (fb_sm (dPb (stD S)) k))), (4, .int (nI (orN (dHd (stD S)) k))), (5, .int (nI (fb_sm (fun g => szH (dX (stD S) 1) g) k))), (6, .int (nI (dX (stD S) 1))), (7, .int (nI 1)), (8, .int (nI k))]) (st' := [.int (nI (abG (dX (stD S)) (dHd (stD S)) (dPb (stD S)) (dAg (stD S)) (dL (stD S)) k 3)), .int (nI (fb_sm (dPb (stD S)) k))]) (ws' := HW Y h a S O) rfl rfl rfl rfl ?_
              refine J_top (y := .int (nI (dPb (stD S) k))) (rfl) ?_
              refine J_iaddN C dL_areGuests_109 ?_
              refine J_istore_n (lv' := [(3, .int (nI ((fb_sm (dPb (stD S)) k) + (dPb (stD S) k)))), (2, .int (nI ((fb_sm (fun g => qtN (dAg (stD S)) (dX (stD S) 12) g) k) + (qtN (dAg (stD S)) (dX (stD S) 12) k)))), (1, .int (nI ((fb_sm (fun g => dX (stD S) 7 / 2 ^ g &&& 1) k) + (dX (stD S) 7 / 2 ^ k &&& 1)))), (0, .ref (h 0)), (4, .int (nI (orN (dHd (stD S)) k))), (5, .int (nI (fb_sm (fun g => szH (dX (stD S) 1) g) k))), (6, .int (nI (dX (stD S) 1))), (7, .int (nI 1)), (8, .int (nI k))]) C dL_areGuests_110 rfl (by decide) rfl ?_
              refine J_iload C dL_areGuests_111 5 rfl ?_
              refine J_aload_n C dL_areGuests_113 rfl 3 rfl ?_
              refine J_iload C dL_areGuests_114 8 rfl ?_
              refine J_iconst C dL_areGuests_116 (v := nI 0) (by decide) ?_
              refine J_callI (wr := []) C (R_H (st := [.int (nI (fb_sm (fun g => szH (dX (stD S) 1) g) k))]) (wc := HW Y h a S O) C hXS (kW_guest ll Y hl0 h a S O b k 0 (hG) (by omega) (by first | assumption | omega) (by decide)) (vx_cwSW 3 C.t gL_areGuests_L_guest rfl rfl rfl (by decide +kernel) ⟨by decide, by decide⟩) rfl (List.range 49) (HW_all Y h a S O) rng_nd49 rfl (Nat.le_of_ble_eq_true rfl) dL_areGuests_117 ⟨Nat.le_of_ble_eq_true rfl, Nat.le_of_ble_eq_true rfl⟩) (List.range 49) [] (HW_all Y h a S O) rfl (by decide) (by decide) (fun r117 u117 hw117 => ?_)
              subst hw117
              refine J_eq (pc' := 120) (lv' := [(3, .int (nI ((fb_sm (dPb (stD S)) k) + (dPb (stD S) k)))), (2, .int (nI ((fb_sm (fun g => qtN (dAg (stD S)) (dX (stD S) 12) g) k) + (qtN (dAg (stD S)) (dX (stD S) 12) k)))), (1, .int (nI ((fb_sm (fun g => dX (stD S) 7 / 2 ^ g &&& 1) k) + (dX (stD S) 7 / 2 ^ k &&& 1)))), (0, .ref (h 0)), (4, .int (nI (orN (dHd (stD S)) k))), (5, .int (nI (fb_sm (fun g => szH (dX (stD S) 1) g) k))), (6, .int (nI (dX (stD S) 1))), (7, .int (nI 1)), (8, .int (nI k))]) (st' := [.int (nI (abG (dX (stD S)) (dHd (stD S)) (dPb (stD S)) (dAg (stD S)) (dL (stD S)) k 0)), .int (nI (fb_sm (fun g => szH (dX (stD S) 1) g) k))]) (ws' := HW Y h a S O) rfl rfl rfl rfl ?_
              refine J_top (y := .int (nI (szH (dX (stD S) 1) k))) (rfl) ?_
              refine J_iaddN C dL_areGuests_120 ?_
              refine J_istore (lv' := [(5, .int (nI ((fb_sm (fun g => szH (dX (stD S) 1) g) k) + (szH (dX (stD S) 1) k)))), (3, .int (nI ((fb_sm (dPb (stD S)) k) + (dPb (stD S) k)))), (2, .int (nI ((fb_sm (fun g => qtN (dAg (stD S)) (dX (stD S) 12) g) k) + (qtN (dAg (stD S)) (dX (stD S) 12) k)))), (1, .int (nI ((fb_sm (fun g => dX (stD S) 7 / 2 ^ g &&& 1) k) + (dX (stD S) 7 / 2 ^ k &&& 1)))), (0, .ref (h 0)), (4, .int (nI (orN (dHd (stD S)) k))), (6, .int (nI (dX (stD S) 1))), (7, .int (nI 1)), (8, .int (nI k))]) C dL_areGuests_121 (by decide) rfl ?_
              refine J_aload_n C dL_areGuests_123 rfl 4 rfl ?_
              refine J_iload C dL_areGuests_124 8 rfl ?_
              refine J_bipush C dL_areGuests_126 (v := nI 7) (by decide) ?_
              refine J_callI (wr := []) C (R_H (st := []) (wc := HW Y h a S O) C hXS (kW_guest ll Y hl0 h a S O b k 7 (hG) (by omega) (by first | assumption | omega) (by decide)) (vx_cwSW 3 C.t gL_areGuests_L_guest rfl rfl rfl (by decide +kernel) ⟨by decide, by decide⟩) rfl (List.range 49) (HW_all Y h a S O) rng_nd49 rfl (Nat.le_of_ble_eq_true rfl) dL_areGuests_128 ⟨Nat.le_of_ble_eq_true rfl, Nat.le_of_ble_eq_true rfl⟩) (List.range 49) [] (HW_all Y h a S O) rfl (by decide) (by decide) (fun r128 u128 hw128 => ?_)
              subst hw128
              refine J_eq (pc' := 131) (lv' := [(5, .int (nI ((fb_sm (fun g => szH (dX (stD S) 1) g) k) + (szH (dX (stD S) 1) k)))), (3, .int (nI ((fb_sm (dPb (stD S)) k) + (dPb (stD S) k)))), (2, .int (nI ((fb_sm (fun g => qtN (dAg (stD S)) (dX (stD S) 12) g) k) + (qtN (dAg (stD S)) (dX (stD S) 12) k)))), (1, .int (nI ((fb_sm (fun g => dX (stD S) 7 / 2 ^ g &&& 1) k) + (dX (stD S) 7 / 2 ^ k &&& 1)))), (0, .ref (h 0)), (4, .int (nI (orN (dHd (stD S)) k))), (6, .int (nI (dX (stD S) 1))), (7, .int (nI 1)), (8, .int (nI k))]) (st' := [.int (nI (abG (dX (stD S)) (dHd (stD S)) (dPb (stD S)) (dAg (stD S)) (dL (stD S)) k 7))]) (ws' := HW Y h a S O) rfl rfl rfl rfl ?_
              refine J_top (y := .int (nI (dHd (stD S) k))) (by rw [show abG (dX (stD S)) (dHd (stD S)) (dPb (stD S)) (dAg (stD S)) (dL (stD S)) k 7 = dHd (stD S) k from if_neg (by omega)]) ?_
              refine J_istore (lv' := [(9, .int (nI (dHd (stD S) k))), (5, .int (nI ((fb_sm (fun g => szH (dX (stD S) 1) g) k) + (szH (dX (stD S) 1) k)))), (3, .int (nI ((fb_sm (dPb (stD S)) k) + (dPb (stD S) k)))), (2, .int (nI ((fb_sm (fun g => qtN (dAg (stD S)) (dX (stD S) 12) g) k) + (qtN (dAg (stD S)) (dX (stD S) 12) k)))), (1, .int (nI ((fb_sm (fun g => dX (stD S) 7 / 2 ^ g &&& 1) k) + (dX (stD S) 7 / 2 ^ k &&& 1)))), (0, .ref (h 0)), (4, .int (nI (orN (dHd (stD S)) k))), (6, .int (nI (dX (stD S) 1))), (7, .int (nI 1)), (8, .int (nI k))]) C dL_areGuests_131 (by decide) rfl ?_
              refine J_aload_n C dL_areGuests_133 rfl 5 rfl ?_
              refine J_iconst C dL_areGuests_134 (v := nI 1) (by decide) ?_
              refine J_callI (wr := []) C (R_H (st := []) (wc := HW Y h a S O) C hXS (kW_value ll Y hl0 h a S O b 1 (hG) (by omega) (by decide)) (vx_cwSW 2 C.t gL_areGuests_L_value rfl rfl rfl (by decide +kernel) ⟨by decide, by decide⟩) rfl (List.range 49) (HW_all Y h a S O) rng_nd49 rfl (Nat.le_of_ble_eq_true rfl) dL_areGuests_135 ⟨Nat.le_of_ble_eq_true rfl, Nat.le_of_ble_eq_true rfl⟩) (List.range 49) [] (HW_all Y h a S O) rfl (by decide) (by decide) (fun r135 u135 hw135 => ?_)
              subst hw135
              refine J_eq (pc' := 138) (lv' := [(9, .int (nI (dHd (stD S) k))), (5, .int (nI ((fb_sm (fun g => szH (dX (stD S) 1) g) k) + (szH (dX (stD S) 1) k)))), (3, .int (nI ((fb_sm (dPb (stD S)) k) + (dPb (stD S) k)))), (2, .int (nI ((fb_sm (fun g => qtN (dAg (stD S)) (dX (stD S) 12) g) k) + (qtN (dAg (stD S)) (dX (stD S) 12) k)))), (1, .int (nI ((fb_sm (fun g => dX (stD S) 7 / 2 ^ g &&& 1) k) + (dX (stD S) 7 / 2 ^ k &&& 1)))), (0, .ref (h 0)), (4, .int (nI (orN (dHd (stD S)) k))), (6, .int (nI (dX (stD S) 1))), (7, .int (nI 1)), (8, .int (nI k))]) (st' := [.int (nI (abH (dX (stD S)) 1))]) (ws' := HW Y h a S O) rfl rfl rfl rfl ?_
              refine J_top (y := .int (nI 0)) (by rw [show abH (dX (stD S)) 1 = dX (stD S) 2 from rfl, hgo]) ?_
              refine J_iconst C dL_areGuests_138 (v := nI 1) (by decide) ?_
              refine J_icmp_neN (tgt := 156) C dL_areGuests_139 (by decide) (by omega) (by omega) (fun cq139 => ?_) (fun cq139 => ?_)
              · refine J_iload C dL_areGuests_156 0 rfl ?_
                refine J_callI (wr := HW Y h a S O) C (R_S (st := []) (wc := []) C (kL_ones ll Y (dHd (stD S) k) (ah k)) (va_cwS 1 C.t gL_areGuests_L_ones rfl rfl rfl (by decide +kernel) ⟨by decide, by decide⟩) rfl [] rfl (by decide) rfl (Nat.le_of_ble_eq_true rfl) dL_areGuests_158 ⟨Nat.le_of_ble_eq_true rfl, Nat.le_of_ble_eq_true rfl⟩) [] (List.range 49) rfl (HW_all Y h a S O) rng_nd49 (by decide +kernel) (fun r158 u158 hw158 => ?_)
                subst hw158
                refine J_eq (pc' := 161) (lv' := [(9, .int (nI (dHd (stD S) k))), (5, .int (nI ((fb_sm (fun g => szH (dX (stD S) 1) g) k) + (szH (dX (stD S) 1) k)))), (3, .int (nI ((fb_sm (dPb (stD S)) k) + (dPb (stD S) k)))), (2, .int (nI ((fb_sm (fun g => qtN (dAg (stD S)) (dX (stD S) 12) g) k) + (qtN (dAg (stD S)) (dX (stD S) 12) k)))), (1, .int (nI ((fb_sm (fun g => dX (stD S) 7 / 2 ^ g &&& 1) k) + (dX (stD S) 7 / 2 ^ k &&& 1)))), (0, .ref (h 0)), (4, .int (nI (orN (dHd (stD S)) k))), (6, .int (nI (dX (stD S) 1))), (7, .int (nI 1)), (8, .int (nI k))]) (st' := [.int (nI (pc8 (dHd (stD S) k)))]) (ws' := HW Y h a S O) rfl rfl rfl (List.append_nil _) ?_
                refine J_aload_n C dL_areGuests_161 rfl 5 rfl ?_
                refine J_iload C dL_areGuests_162 9 rfl ?_
                refine J_iconst C dL_areGuests_164 (v := nI 0) (by decide) ?_
                refine J_callI (wr := []) C (R_H (st := [.int (nI (pc8 (dHd (stD S) k)))]) (wc := HW Y h a S O) C hXS (kW_guest ll Y hl0 h a S O b k 0 (hG) (by omega) (by first | assumption | omega) (by decide)) (vx_cwSW 3 C.t gL_areGuests_L_guest rfl rfl rfl (by decide +kernel) ⟨by decide, by decide⟩) rfl (List.range 49) (HW_all Y h a S O) rng_nd49 rfl (Nat.le_of_ble_eq_true rfl) dL_areGuests_165 ⟨Nat.le_of_ble_eq_true rfl, Nat.le_of_ble_eq_true rfl⟩) (List.range 49) [] (HW_all Y h a S O) rfl (by decide) (by decide) (fun r165 u165 hw165 => ?_)
                subst hw165
                refine J_eq (pc' := 168) (lv' := [(9, .int (nI (dHd (stD S) k))), (5, .int (nI ((fb_sm (fun g => szH (dX (stD S) 1) g) k) + (szH (dX (stD S) 1) k)))), (3, .int (nI ((fb_sm (dPb (stD S)) k) + (dPb (stD S) k)))), (2, .int (nI ((fb_sm (fun g => qtN (dAg (stD S)) (dX (stD S) 12) g) k) + (qtN (dAg (stD S)) (dX (stD S) 12) k)))), (1, .int (nI ((fb_sm (fun g => dX (stD S) 7 / 2 ^ g &&& 1) k) + (dX (stD S) 7 / 2 ^ k &&& 1)))), (0, .ref (h 0)), (4, .int (nI (orN (dHd (stD S)) k))), (6, .int (nI (dX (stD S) 1))), (7, .int (nI 1)), (8, .int (nI k))]) (st' := [.int (nI (abG (dX (stD S)) (dHd (stD S)) (dPb (stD S)) (dAg (stD S)) (dL (stD S)) k 0)), .int (nI (pc8 (dHd (stD S) k)))]) (ws' := HW Y h a S O) rfl rfl rfl rfl ?_
                refine J_top (y := .int (nI (szH (dX (stD S) 1) k))) (rfl) ?_
                refine J_icmp_neN (tgt := 183) C dL_areGuests_168 (by decide) (Nat.lt_of_le_of_lt (pc8_le _) (by decide)) (Nat.lt_of_le_of_lt (szH_le _ _) (by decide)) (fun cq168 => ?_) (fun cq168 => ?_)
                · exact absurd (real_sz yl (by omega) hn4) cq168
                · refine J_iload C dL_areGuests_171 0 rfl ?_
                  refine J_iload C dL_areGuests_173 6 rfl ?_
                  refine J_iandN C dL_areGuests_175 ?_
                  refine J_if_neN (tgt := 183) C dL_areGuests_176 (by decide) (Nat.lt_of_le_of_lt Nat.and_le_left (Nat.lt_of_lt_of_le (ah k) (by decide))) (fun cq176 => ?_) (fun cq176 => ?_)
                  · exact absurd (hd_disj yl ah hn4 (by omega)) cq176
                  · refine J_iconst C dL_areGuests_179 (v := nI 1) (by decide) ?_
                    refine J_goto (tgt := 184) C dL_areGuests_180 (by decide) ?_
                    refine J_istore (lv' := [(7, .int (nI 1)), (9, .int (nI (dHd (stD S) k))), (5, .int (nI ((fb_sm (fun g => szH (dX (stD S) 1) g) k) + (szH (dX (stD S) 1) k)))), (3, .int (nI ((fb_sm (dPb (stD S)) k) + (dPb (stD S) k)))), (2, .int (nI ((fb_sm (fun g => qtN (dAg (stD S)) (dX (stD S) 12) g) k) + (qtN (dAg (stD S)) (dX (stD S) 12) k)))), (1, .int (nI ((fb_sm (fun g => dX (stD S) 7 / 2 ^ g &&& 1) k) + (dX (stD S) 7 / 2 ^ k &&& 1)))), (0, .ref (h 0)), (4, .int (nI (orN (dHd (stD S)) k))), (6, .int (nI (dX (stD S) 1))), (8, .int (nI k))]) C dL_areGuests_184 (by decide) rfl ?_
                    refine J_iload C dL_areGuests_186 7 rfl ?_
                    refine J_iload C dL_areGuests_188 1 rfl ?_
                    refine J_iconst C dL_areGuests_190 (v := iZ ((-1))) (by decide) ?_
                    refine J_icmp_neNZ (tgt := 198) C dL_areGuests_191 (by decide) (Nat.lt_of_lt_of_le (ah k) (by decide)) (by omega) (fun cq191 => ?_) (fun cq191 => ?_)
                    · refine J_iload C dL_areGuests_198 1 rfl ?_
                      refine J_iorN C dL_areGuests_200 ?_
                      refine J_top (y := .int (nI (orN (dHd (stD S)) (k + 1)))) (rfl) ?_
                      refine J_istore (lv' := [(4, .int (nI (orN (dHd (stD S)) (k + 1)))), (7, .int (nI 1)), (9, .int (nI (dHd (stD S) k))), (5, .int (nI ((fb_sm (fun g => szH (dX (stD S) 1) g) k) + (szH (dX (stD S) 1) k)))), (3, .int (nI ((fb_sm (dPb (stD S)) k) + (dPb (stD S) k)))), (2, .int (nI ((fb_sm (fun g => qtN (dAg (stD S)) (dX (stD S) 12) g) k) + (qtN (dAg (stD S)) (dX (stD S) 12) k)))), (1, .int (nI ((fb_sm (fun g => dX (stD S) 7 / 2 ^ g &&& 1) k) + (dX (stD S) 7 / 2 ^ k &&& 1)))), (0, .ref (h 0)), (6, .int (nI (dX (stD S) 1))), (8, .int (nI k))]) C dL_areGuests_201 (by decide) rfl ?_
                      refine J_iinc (j := 9) (v := nI (k + 1)) (lv' := [(8, .int (nI (k + 1))), (4, .int (nI (orN (dHd (stD S)) (k + 1)))), (7, .int (nI 1)), (9, .int (nI (dHd (stD S) k))), (5, .int (nI ((fb_sm (fun g => szH (dX (stD S) 1) g) k) + (szH (dX (stD S) 1) k)))), (3, .int (nI ((fb_sm (dPb (stD S)) k) + (dPb (stD S) k)))), (2, .int (nI ((fb_sm (fun g => qtN (dAg (stD S)) (dX (stD S) 12) g) k) + (qtN (dAg (stD S)) (dX (stD S) 12) k)))), (1, .int (nI ((fb_sm (fun g => dX (stD S) 7 / 2 ^ g &&& 1) k) + (dX (stD S) 7 / 2 ^ k &&& 1)))), (0, .ref (h 0)), (6, .int (nI (dX (stD S) 1)))]) C dL_areGuests_203 rfl (nI_1 _) (by decide) rfl ?_
                      refine J_goto (tgt := 69) C dL_areGuests_206 (by decide) ?_
                      refine J_lv (lv' := [(0, .ref (h 0)), (1, .int (nI ((fb_sm (fun g => dX (stD S) 7 / 2 ^ g &&& 1) k) + (dX (stD S) 7 / 2 ^ k &&& 1)))), (2, .int (nI ((fb_sm (fun g => qtN (dAg (stD S)) (dX (stD S) 12) g) k) + (qtN (dAg (stD S)) (dX (stD S) 12) k)))), (3, .int (nI ((fb_sm (dPb (stD S)) k) + (dPb (stD S) k)))), (4, .int (nI (orN (dHd (stD S)) (k + 1)))), (5, .int (nI ((fb_sm (fun g => szH (dX (stD S) 1) g) k) + (szH (dX (stD S) 1) k)))), (6, .int (nI (dX (stD S) 1))), (7, .int (nI 1)), (8, .int (nI (k + 1)))]) [8, 7, 6, 5, 1, 4, 9, 2, 0] rfl ?_
                      exact ih69 (k + 1) (by omega) (show dX (stD S) 1 - (k + 1) < dX (stD S) 1 - k from by omega)
                    · exact absurd cq191 (by omega)
              · exact absurd cq139 (by omega)
        · refine J_iload C dL_areGuests_42 0 rfl ?_
          refine J_if_eqN (tgt := 59) C dL_areGuests_44 (by decide) (by omega) (fun cq44 => ?_) (fun cq44 => ?_)
          · exact absurd cq44 (by omega)
          · refine J_iload C dL_areGuests_47 0 rfl ?_
            refine J_iconst C dL_areGuests_49 (v := nI 3) (by decide) ?_
            refine J_icmp_eqN (tgt := 59) C dL_areGuests_50 (by decide) (by omega) (by omega) (fun cq50 => ?_) (fun cq50 => ?_)
            · exact jn59 (trivial)
            · refine J_iload C dL_areGuests_53 0 rfl ?_
              refine J_iconst C dL_areGuests_55 (v := nI 4) (by decide) ?_
              refine J_icmp_neN (tgt := 63) C dL_areGuests_56 (by decide) (by omega) (by omega) (fun cq56 => ?_) (fun cq56 => ?_)
              · exact absurd cq56 (by omega)
              · exact jn59 (trivial)

