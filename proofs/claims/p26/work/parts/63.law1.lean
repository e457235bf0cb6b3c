set_option maxHeartbeats 4000000 in
set_option maxRecDepth 100000 in
theorem kL_low (ll : Launch) (Y : GY) (v : Int32) (n : Nat) (hn : 0 < n ∧ n < 2 ^ 31) : CT ll yL_low wsL_low { frames := 0, cells := 0, slots := 0, locals := 0 } Y [.int v, .int (nI n)] [] (QI (S := Nat) Y (fun r u => r = nI u ∧ u < n) (fun _ => [])) 0 0 := by
  refine CT_of (cc := cL_low) (maxL := 2) (ret := (some .int)) (by decide) rfl (Nat.le_of_ble_eq_true rfl) ?_
  intro pp ee ss mm bl mt cc AA C hr hnm
  have w0 := C.t _ (List.mem_of_getElem? (i := 1) (show wsL_low[1]? = some (Cond.constant RL 8 (2147483647)) from rfl))
  refine J_eq (lv' := [(0, .int v), (1, .int (nI n))]) (ws' := []) rfl rfl rfl rfl ?_
  refine J_iload_n C dL_low_0 rfl 0 rfl ?_
  refine J_ldc C dL_low_1 (v := nI 2147483647) w0 ?_
  obtain ⟨m0, em, hm⟩ := low_and v
  refine J_iand C dL_low_3 ?_
  refine J_top (y := .int (nI m0)) (by rw [em]) ?_
  refine J_iload_n C dL_low_4 rfl 1 rfl ?_
  refine J_iremN C dL_low_5 (by omega) (by omega) (by omega) ?_
  exact J_iret C hr dL_low_6 ((m0 % n)) (⟨rfl, Nat.mod_lt _ hn.1⟩) (rfl)

set_option maxHeartbeats 4000000 in
set_option maxRecDepth 100000 in
theorem kL_ones (ll : Launch) (Y : GY) (v : Nat) (hv : v < 256) : CT ll yL_ones wsL_ones { frames := 0, cells := 0, slots := 0, locals := 0 } Y [.int (nI v)] [] (QI Y (fun (r : Int32) (_ : Unit) => r = nI (pc8 v)) (fun _ => [])) 0 0 := by
  refine CT_of (cc := cL_ones) (maxL := 3) (ret := (some .int)) (by decide) rfl (Nat.le_of_ble_eq_true rfl) ?_
  intro pp ee ss mm bl mt cc AA C hr hnm
  refine J_eq (lv' := [(0, .int (nI v))]) (ws' := []) rfl rfl rfl rfl ?_
  refine J_iconst C dL_ones_0 (v := nI 0) (by decide) ?_
  refine J_istore_n (lv' := [(1, .int (nI 0)), (0, .int (nI v))]) C dL_ones_1 rfl (by decide) rfl ?_
  refine J_iload_n C dL_ones_2 rfl 1 rfl ?_
  refine J_istore_n (lv' := [(2, .int (nI v)), (1, .int (nI 0)), (0, .int (nI v))]) C dL_ones_3 rfl (by decide) rfl ?_
  refine J_lv (lv' := [(0, .int (nI v)), (1, .int (nI 0)), (2, .int (nI v))]) [2, 1, 0] rfl ?_
  refine J_loop (σ := Nat × Nat) (I := fun (k, l) => (l < 256) ∧ (k + pc8 l = pc8 v)) (μ := fun (k, l) => l) (lvf := fun (k, l) => [(0, .int (nI v)), (1, .int (nI k)), (2, .int (nI l))]) (stf := fun (k, l) => []) (wsf := fun (k, l) => []) ?_ (0, v) ⟨(hv), (Nat.zero_add _)⟩ (rfl) rfl (rfl)
  rintro ⟨k, l⟩ ⟨hl, he⟩ ih4
  refine J_eq (lv' := [(0, .int (nI v)), (1, .int (nI k)), (2, .int (nI l))]) (st' := []) (ws' := []) rfl rfl rfl rfl ?_
  refine J_iload_n C dL_ones_4 rfl 2 rfl ?_
  refine J_if_eqN (tgt := 20) C dL_ones_5 (by decide) (by omega) (fun cq5 => ?_) (fun cq5 => ?_)
  · refine J_iload_n C dL_ones_20 rfl 1 rfl ?_
    exact J_iret C hr dL_ones_21 (()) (by have e9 : l = 0 := (by omega); subst e9; rw [← he]; rfl) (rfl)
  · refine J_iinc (j := 1) (v := nI (k + 1)) (lv' := [(1, .int (nI (k + 1))), (0, .int (nI v)), (2, .int (nI l))]) C dL_ones_8 rfl (nI_1 _) (by decide) rfl ?_
    refine J_iload_n C dL_ones_11 rfl 2 rfl ?_
    refine J_iload_n C dL_ones_12 rfl 2 rfl ?_
    refine J_iconst C dL_ones_13 (v := nI 1) (by decide) ?_
    refine J_isubN C dL_ones_14 (by omega) ?_
    refine J_iandN C dL_ones_15 ?_
    refine J_istore_n (lv' := [(2, .int (nI (l &&& (l - 1)))), (1, .int (nI (k + 1))), (0, .int (nI v))]) C dL_ones_16 rfl (by decide) rfl ?_
    refine J_goto (tgt := 4) C dL_ones_17 (by decide) ?_
    refine J_lv (lv' := [(0, .int (nI v)), (1, .int (nI (k + 1))), (2, .int (nI (l &&& (l - 1))))]) [2, 1, 0] rfl ?_
    exact ih4 (k + 1, l &&& (l - 1)) ⟨(Nat.lt_of_le_of_lt Nat.and_le_left hl), (by have := ones_s l hl (by omega); omega)⟩ (show (l &&& (l - 1)) < l from Nat.lt_of_le_of_lt Nat.and_le_right (by omega))

set_option maxHeartbeats 4000000 in
set_option maxRecDepth 100000 in
theorem kO_print (ll : Launch) (Y : GY) (hl0 : ll.stackTraces = false) (h : Nat → Nat) (a : Nat → Nat) (S : ST) (O : OT) (b : Nat) (hG : G b S) (hbd : b ≤ 1000) : CH ll yL_print wsL_print { frames := 8, cells := 80, slots := 480, locals := 144 } Y [.ref (h 0)] (HW Y h a S O) (QL (S := Unit) Y (fun (r : Int64) (_ : Unit) => r = prF (stD S)) (fun (u : Unit) => HW Y h a S O)) 80 480 := by
  refine CP_of (cc := cL_print) (maxL := 4) (ret := (some .long)) (by decide) rfl (Nat.le_of_ble_eq_true rfl) ?_
  intro pp ee ss mm bl mt cc AA C hr hXS
  have w0 := C.t _ (List.mem_of_getElem? (i := 1) (show wsL_print[1]? = some (Cond.constantLong RL 81 (211)) from rfl))
  have w1 := C.t _ (List.mem_of_getElem? (i := 2) (show wsL_print[2]? = some (Cond.constantLong RL 83 (31)) from rfl))
  refine J_eq (lv' := [(0, .ref (h 0))]) (ws' := HW Y h a S O) rfl rfl rfl rfl ?_
  refine J_ldc2 C dL_print_0 (v := lN 211) w0 ?_
  refine J_lstore_n (lv' := [(1, .long (lN 211)), (0, .ref (h 0))]) C dL_print_3 rfl (by decide) rfl ?_
  refine J_iconst C dL_print_4 (v := nI 0) (by decide) ?_
  refine J_istore_n (lv' := [(3, .int (nI 0)), (1, .long (lN 211)), (0, .ref (h 0))]) C dL_print_5 rfl (by decide) rfl ?_
  refine J_lv (lv' := [(0, .ref (h 0)), (1, .long (lN 211)), (3, .int (nI 0))]) [2, 1, 0] rfl ?_
  refine J_loopK (σ := Nat) (I := fun (k : Nat) => (k ≤ 10)) (μ := fun (k : Nat) => 10 - k) (kf := fun (k : Nat) => 0) (nf := fun (k : Nat) => 0) (lvf := fun (k : Nat) => [(0, .ref (h 0)), (1, .long (prA (stD S) k)), (3, .int (nI k))]) (stf := fun (k : Nat) => []) (wsf := fun (k : Nat) => HW Y h a S O) ?_ (0) (by omega) (by show _ ≤ 0; omega) (by show _ ≤ 0; omega) (rfl) rfl (rfl)
  rintro k hk ih6
  refine J_eq (lv' := [(0, .ref (h 0)), (1, .long (prA (stD S) k)), (3, .int (nI k))]) (st' := []) (ws' := HW Y h a S O) rfl rfl rfl rfl ?_
  refine J_iload_n C dL_print_6 rfl 2 rfl ?_
  refine J_bipush C dL_print_7 (v := nI 10) (by decide) ?_
  refine J_icmp_geN (tgt := 31) C dL_print_9 (by decide) (by omega) (by omega) (fun cq9 => ?_) (fun cq9 => ?_)
  · refine J_iconst C dL_print_31 (v := nI 0) (by decide) ?_
    refine J_istore_n (lv' := [(3, .int (nI 0)), (0, .ref (h 0)), (1, .long (prA (stD S) k))]) C dL_print_32 rfl (by decide) rfl ?_
    refine J_lv (lv' := [(0, .ref (h 0)), (1, .long (prA (stD S) k)), (3, .int (nI 0))]) [1, 2, 0] rfl ?_
    refine J_loopK (σ := Nat) (I := fun (k : Nat) => (k ≤ 4)) (μ := fun (k : Nat) => 4 - k) (kf := fun (k : Nat) => 5 * k) (nf := fun (k : Nat) => 30 * k) (lvf := fun (k : Nat) => [(0, .ref (h 0)), (1, .long (prB (stD S) k)), (3, .int (nI k))]) (stf := fun (k : Nat) => []) (wsf := fun (k : Nat) => HW Y h a S O) ?_ (0) (by omega) (by show _ ≤ 5 * 0; omega) (by show _ ≤ 30 * 0; omega) (by have e9 : k = 10 := (by omega); subst e9; rfl) rfl (rfl)
    rintro k hk ih33
    refine J_eq (lv' := [(0, .ref (h 0)), (1, .long (prB (stD S) k)), (3, .int (nI k))]) (st' := []) (ws' := HW Y h a S O) rfl rfl rfl rfl ?_
    refine J_iload_n C dL_print_33 rfl 2 rfl ?_
    refine J_iconst C dL_print_34 (v := nI 4) (by decide) ?_
    refine J_icmp_geN (tgt := 107) C dL_print_35 (by decide) (by omega) (by omega) (fun cq35 => ?_) (fun cq35 => ?_)
    · refine J_iconst C dL_print_107 (v := nI 0) (by decide) ?_
      refine J_istore_n (lv' := [(3, .int (nI 0)), (0, .ref (h 0)), (1, .long (prB (stD S) k))]) C dL_print_108 rfl (by decide) rfl ?_
      refine J_lv (lv' := [(0, .ref (h 0)), (1, .long (prB (stD S) k)), (3, .int (nI 0))]) [1, 2, 0] rfl ?_
      refine J_loopK (σ := Nat) (I := fun (k : Nat) => (k ≤ 60)) (μ := fun (k : Nat) => 60 - k) (kf := fun (k : Nat) => 20 + k) (nf := fun (k : Nat) => 120 + 6 * k) (lvf := fun (k : Nat) => [(0, .ref (h 0)), (1, .long (prC (stD S) k)), (3, .int (nI k))]) (stf := fun (k : Nat) => []) (wsf := fun (k : Nat) => HW Y h a S O) ?_ (0) (by omega) (by show _ ≤ 20 + 0; omega) (by show _ ≤ 120 + 6 * 0; omega) (by have e9 : k = 4 := (by omega); subst e9; rfl) rfl (rfl)
      rintro k hk ih109
      refine J_eq (lv' := [(0, .ref (h 0)), (1, .long (prC (stD S) k)), (3, .int (nI k))]) (st' := []) (ws' := HW Y h a S O) rfl rfl rfl rfl ?_
      refine J_iload_n C dL_print_109 rfl 2 rfl ?_
      refine J_bipush C dL_print_110 (v := nI 60) (by decide) ?_
      refine J_icmp_geN (tgt := 139) C dL_print_112 (by decide) (by omega) (by omega) (fun cq112 => ?_) (fun cq112 => ?_)
      · refine J_lload_n C dL_print_139 rfl 1 rfl ?_
        refine J_wd (k' := 80) (n' := 480) (by omega) (by omega) ?_
        exact J_lret C hr dL_print_140 (()) (by have e9 : k = 60 := (by omega); subst e9; rfl) (rfl)
      · rcases Nat.lt_or_ge (k / 3) (dX (stD S) 12) with hg | hg
        · refine J_ldc2 C dL_print_115 (v := lN 31) w1 ?_
          refine J_lload_n C dL_print_118 rfl 1 rfl ?_
          refine J_lmul C dL_print_119 ?_
          refine J_aload_n C dL_print_120 rfl 0 rfl ?_
          refine J_iload_n C dL_print_121 rfl 2 rfl ?_
          refine J_iconst C dL_print_122 (v := nI 3) (by decide) ?_
          refine J_idivN C dL_print_123 (by omega) (by omega) (by omega) ?_
          refine J_iload_n C dL_print_124 rfl 2 rfl ?_
          refine J_iconst C dL_print_125 (v := nI 3) (by decide) ?_
          refine J_iremN C dL_print_126 (by omega) (by omega) (by omega) ?_
          refine J_callI (wr := []) C (R_H (st := [.long ((lN 31) * (prC (stD S) k))]) (wc := HW Y h a S O) C hXS (kW_question ll Y hl0 h a S O b (k / 3) (k % 3) (hG) (by omega) (hg) (by omega)) (vx_cwSW 3 C.t gL_print_L_question rfl rfl rfl (by decide +kernel) ⟨by decide, by decide⟩) rfl (List.range 49) (HW_all Y h a S O) rng_nd49 rfl (Nat.le_of_ble_eq_true rfl) dL_print_127 ⟨by show _ ≤ 80; omega, by show _ ≤ 480; omega⟩) (List.range 49) [] (HW_all Y h a S O) rfl (by decide) (by decide) (fun r127 u127 hw127 => ?_)
          subst hw127
          refine J_eq (pc' := 130) (lv' := [(0, .ref (h 0)), (1, .long (prC (stD S) k)), (3, .int (nI k))]) (st' := [.int (nI (abQ (dAg (stD S)) (dAc (stD S)) (dAn (stD S)) (k / 3) (k % 3))), .long ((lN 31) * (prC (stD S) k))]) (ws' := HW Y h a S O) rfl rfl rfl rfl ?_
          refine J_top (y := .int (pqV (stD S) (k / 3) (k % 3))) (by rw [pqV_y hg]) ?_
          refine J_i2l C dL_print_130 ?_
          refine J_ladd C dL_print_131 ?_
          refine J_top (y := .long (prC (stD S) (k + 1))) (rfl) ?_
          refine J_lstore_n (lv' := [(1, .long (prC (stD S) (k + 1))), (0, .ref (h 0)), (3, .int (nI k))]) C dL_print_132 rfl (by decide) rfl ?_
          refine J_iinc (j := 2) (v := nI (k + 1)) (lv' := [(3, .int (nI (k + 1))), (1, .long (prC (stD S) (k + 1))), (0, .ref (h 0))]) C dL_print_133 rfl (nI_1 _) (by decide) rfl ?_
          refine J_goto (tgt := 109) C dL_print_136 (by decide) ?_
          refine J_wd (k' := 20 + (k + 1)) (n' := 120 + 6 * (k + 1)) (by omega) (by omega) ?_
          refine J_lv (lv' := [(0, .ref (h 0)), (1, .long (prC (stD S) (k + 1))), (3, .int (nI (k + 1)))]) [2, 1, 0] rfl ?_
          exact ih109 (k + 1) (by omega) (show 60 - (k + 1) < 60 - k from by omega)
        · refine J_ldc2 C dL_print_115 (v := lN 31) w1 ?_
          refine J_lload_n C dL_print_118 rfl 1 rfl ?_
          refine J_lmul C dL_print_119 ?_
          refine J_aload_n C dL_print_120 rfl 0 rfl ?_
          refine J_iload_n C dL_print_121 rfl 2 rfl ?_
          refine J_iconst C dL_print_122 (v := nI 3) (by decide) ?_
          refine J_idivN C dL_print_123 (by omega) (by omega) (by omega) ?_
          refine J_iload_n C dL_print_124 rfl 2 rfl ?_
          refine J_iconst C dL_print_125 (v := nI 3) (by decide) ?_
          refine J_iremN C dL_print_126 (by omega) (by omega) (by omega) ?_
          refine J_callI (wr := []) C (R_H (st := [.long ((lN 31) * (prC (stD S) k))]) (wc := HW Y h a S O) C hXS (kW_question_x1 ll Y hl0 h a S O b (nI (k / 3)) (nI (k % 3)) (hG) (by omega) (oor (by omega) hg)) (vx_cwSW 3 C.t gL_print_L_question rfl rfl rfl (by decide +kernel) ⟨by decide, by decide⟩) rfl (List.range 49) (HW_all Y h a S O) rng_nd49 rfl (Nat.le_of_ble_eq_true rfl) dL_print_127 ⟨by show _ ≤ 80; omega, by show _ ≤ 480; omega⟩) (List.range 49) [] (HW_all Y h a S O) rfl (by decide) (by decide) (fun r127 u127 hw127 => ?_)
          subst hw127
          refine J_eq (pc' := 130) (lv' := [(0, .ref (h 0)), (1, .long (prC (stD S) k)), (3, .int (nI k))]) (st' := [.int ((-5000003)), .long ((lN 31) * (prC (stD S) k))]) (ws' := HW Y h a S O) rfl rfl rfl rfl ?_
          refine J_top (y := .int (pqV (stD S) (k / 3) (k % 3))) (by rw [pqV_n (Nat.not_lt.mpr hg)]) ?_
          refine J_i2l C dL_print_130 ?_
          refine J_ladd C dL_print_131 ?_
          refine J_top (y := .long (prC (stD S) (k + 1))) (rfl) ?_
          refine J_lstore_n (lv' := [(1, .long (prC (stD S) (k + 1))), (0, .ref (h 0)), (3, .int (nI k))]) C dL_print_132 rfl (by decide) rfl ?_
          refine J_iinc (j := 2) (v := nI (k + 1)) (lv' := [(3, .int (nI (k + 1))), (1, .long (prC (stD S) (k + 1))), (0, .ref (h 0))]) C dL_print_133 rfl (nI_1 _) (by decide) rfl ?_
          refine J_goto (tgt := 109) C dL_print_136 (by decide) ?_
          refine J_wd (k' := 20 + (k + 1)) (n' := 120 + 6 * (k + 1)) (by omega) (by omega) ?_
          refine J_lv (lv' := [(0, .ref (h 0)), (1, .long (prC (stD S) (k + 1))), (3, .int (nI (k + 1)))]) [2, 1, 0] rfl ?_
          exact ih109 (k + 1) (by omega) (show 60 - (k + 1) < 60 - k from by omega)
    · rcases Nat.lt_or_ge k (dX (stD S) 1) with hg | hg
      · refine J_ldc2 C dL_print_38 (v := lN 31) w1 ?_
        refine J_ldc2 C dL_print_41 (v := lN 31) w1 ?_
        refine J_ldc2 C dL_print_44 (v := lN 31) w1 ?_
        refine J_ldc2 C dL_print_47 (v := lN 31) w1 ?_
        refine J_ldc2 C dL_print_50 (v := lN 31) w1 ?_
        refine J_lload_n C dL_print_53 rfl 1 rfl ?_
        refine J_lmul C dL_print_54 ?_
        refine J_aload_n C dL_print_55 rfl 0 rfl ?_
        refine J_iload_n C dL_print_56 rfl 2 rfl ?_
        refine J_iconst C dL_print_57 (v := nI 0) (by decide) ?_
        refine J_callI (wr := []) C (R_H16 (st := [.long ((lN 31) * (prB (stD S) k)), .long (lN 31), .long (lN 31), .long (lN 31), .long (lN 31)]) (wc := HW Y h a S O) C hXS (kW_guest ll Y hl0 h a S O b k 0 (hG) (by omega) (hg) (by decide)) (vx_cwSW 3 C.t gL_print_L_guest rfl rfl rfl (by decide +kernel) ⟨by decide, by decide⟩) (Nat.le_of_ble_eq_true rfl) rfl (List.range 49) (HW_all Y h a S O) rng_nd49 rfl (Nat.le_of_ble_eq_true rfl) dL_print_58 ⟨by show _ ≤ 80; omega, by show _ ≤ 480; omega⟩) (List.range 49) [] (HW_all Y h a S O) rfl (by decide) (by decide) (fun r58 u58 hw58 => ?_)
        subst hw58
        refine J_eq (pc' := 61) (lv' := [(0, .ref (h 0)), (1, .long (prB (stD S) k)), (3, .int (nI k))]) (st' := [.int (nI (abG (dX (stD S)) (dHd (stD S)) (dPb (stD S)) (dAg (stD S)) (dL (stD S)) k 0)), .long ((lN 31) * (prB (stD S) k)), .long (lN 31), .long (lN 31), .long (lN 31), .long (lN 31)]) (ws' := HW Y h a S O) rfl rfl rfl rfl ?_
        refine J_top (y := .int (pgV (stD S) k 0)) (by rw [pgV_y hg]) ?_
        refine J_i2l C dL_print_61 ?_
        refine J_ladd C dL_print_62 ?_
        refine J_lmul C dL_print_63 ?_
        refine J_aload_n C dL_print_64 rfl 0 rfl ?_
        refine J_iload_n C dL_print_65 rfl 2 rfl ?_
        refine J_iconst C dL_print_66 (v := nI 1) (by decide) ?_
        refine J_callI (wr := []) C (R_H (st := [.long ((lN 31) * (((lN 31) * (prB (stD S) k)) + ((pgV (stD S) k 0).toInt64))), .long (lN 31), .long (lN 31), .long (lN 31)]) (wc := HW Y h a S O) C hXS (kW_guest ll Y hl0 h a S O b k 1 (hG) (by omega) (hg) (by decide)) (vx_cwSW 3 C.t gL_print_L_guest rfl rfl rfl (by decide +kernel) ⟨by decide, by decide⟩) rfl (List.range 49) (HW_all Y h a S O) rng_nd49 rfl (Nat.le_of_ble_eq_true rfl) dL_print_67 ⟨by show _ ≤ 80; omega, by show _ ≤ 480; omega⟩) (List.range 49) [] (HW_all Y h a S O) rfl (by decide) (by decide) (fun r67 u67 hw67 => ?_)
        subst hw67
        refine J_eq (pc' := 70) (lv' := [(0, .ref (h 0)), (1, .long (prB (stD S) k)), (3, .int (nI k))]) (st' := [.int (nI (abG (dX (stD S)) (dHd (stD S)) (dPb (stD S)) (dAg (stD S)) (dL (stD S)) k 1)), .long ((lN 31) * (((lN 31) * (prB (stD S) k)) + ((pgV (stD S) k 0).toInt64))), .long (lN 31), .long (lN 31), .long (lN 31)]) (ws' := HW Y h a S O) rfl rfl rfl rfl ?_
        refine J_top (y := .int (pgV (stD S) k 1)) (by rw [pgV_y hg]) ?_
        refine J_i2l C dL_print_70 ?_
        refine J_ladd C dL_print_71 ?_
        refine J_lmul C dL_print_72 ?_
        refine J_aload_n C dL_print_73 rfl 0 rfl ?_
        refine J_iload_n C dL_print_74 rfl 2 rfl ?_
        refine J_iconst C dL_print_75 (v := nI 2) (by decide) ?_
        refine J_callI (wr := []) C (R_H (st := [.long ((lN 31) * (((lN 31) * (((lN 31) * (prB (stD S) k)) + ((pgV (stD S) k 0).toInt64))) + ((pgV (stD S) k 1).toInt64))), .long (lN 31), .long (lN 31)]) (wc := HW Y h a S O) C hXS (kW_guest ll Y hl0 h a S O b k 2 (hG) (by omega) (hg) (by decide)) (vx_cwSW 3 C.t gL_print_L_guest rfl rfl rfl (by decide +kernel) ⟨by decide, by decide⟩) rfl (List.range 49) (HW_all Y h a S O) rng_nd49 rfl (Nat.le_of_ble_eq_true rfl) dL_print_76 ⟨by show _ ≤ 80; omega, by show _ ≤ 480; omega⟩) (List.range 49) [] (HW_all Y h a S O) rfl (by decide) (by decide) (fun r76 u76 hw76 => ?_)
        subst hw76
        refine J_eq (pc' := 79) (lv' := [(0, .ref (h 0)), (1, .long (prB (stD S) k)), (3, .int (nI k))]) (st' := [.int (nI (abG (dX (stD S)) (dHd (stD S)) (dPb (stD S)) (dAg (stD S)) (dL (stD S)) k 2)), .long ((lN 31) * (((lN 31) * (((lN 31) * (prB (stD S) k)) + ((pgV (stD S) k 0).toInt64))) + ((pgV (stD S) k 1).toInt64))), .long (lN 31), .long (lN 31)]) (ws' := HW Y h a S O) rfl rfl rfl rfl ?_
        refine J_top (y := .int (pgV (stD S) k 2)) (by rw [pgV_y hg]) ?_
        refine J_i2l C dL_print_79 ?_
        refine J_ladd C dL_print_80 ?_
        refine J_lmul C dL_print_81 ?_
        refine J_aload_n C dL_print_82 rfl 0 rfl ?_
        refine J_iload_n C dL_print_83 rfl 2 rfl ?_
        refine J_iconst C dL_print_84 (v := nI 3) (by decide) ?_
        refine J_callI (wr := []) C (R_H (st := [.long ((lN 31) * (((lN 31) * (((lN 31) * (((lN 31) * (prB (stD S) k)) + ((pgV (stD S) k 0).toInt64))) + ((pgV (stD S) k 1).toInt64))) + ((pgV (stD S) k 2).toInt64))), .long (lN 31)]) (wc := HW Y h a S O) C hXS (kW_guest ll Y hl0 h a S O b k 3 (hG) (by omega) (hg) (by decide)) (vx_cwSW 3 C.t gL_print_L_guest rfl rfl rfl (by decide +kernel) ⟨by decide, by decide⟩) rfl (List.range 49) (HW_all Y h a S O) rng_nd49 rfl (Nat.le_of_ble_eq_true rfl) dL_print_85 ⟨by show _ ≤ 80; omega, by show _ ≤ 480; omega⟩) (List.range 49) [] (HW_all Y h a S O) rfl (by decide) (by decide) (fun r85 u85 hw85 => ?_)
        subst hw85
        refine J_eq (pc' := 88) (lv' := [(0, .ref (h 0)), (1, .long (prB (stD S) k)), (3, .int (nI k))]) (st' := [.int (nI (abG (dX (stD S)) (dHd (stD S)) (dPb (stD S)) (dAg (stD S)) (dL (stD S)) k 3)), .long ((lN 31) * (((lN 31) * (((lN 31) * (((lN 31) * (prB (stD S) k)) + ((pgV (stD S) k 0).toInt64))) + ((pgV (stD S) k 1).toInt64))) + ((pgV (stD S) k 2).toInt64))), .long (lN 31)]) (ws' := HW Y h a S O) rfl rfl rfl rfl ?_
        refine J_top (y := .int (pgV (stD S) k 3)) (by rw [pgV_y hg]) ?_
        refine J_i2l C dL_print_88 ?_
        refine J_ladd C dL_print_89 ?_
        refine J_lmul C dL_print_90 ?_
        refine J_aload_n C dL_print_91 rfl 0 rfl ?_
        refine J_iload_n C dL_print_92 rfl 2 rfl ?_
        refine J_bipush C dL_print_93 (v := nI 7) (by decide) ?_
        refine J_callI (wr := []) C (R_H (st := [.long ((lN 31) * (((lN 31) * (((lN 31) * (((lN 31) * (((lN 31) * (prB (stD S) k)) + ((pgV (stD S) k 0).toInt64))) + ((pgV (stD S) k 1).toInt64))) + ((pgV (stD S) k 2).toInt64))) + ((pgV (stD S) k 3).toInt64)))]) (wc := HW Y h a S O) C hXS (kW_guest ll Y hl0 h a S O b k 7 (hG) (by omega) (hg) (by decide)) (vx_cwSW 3 C.t gL_print_L_guest rfl rfl rfl (by decide +kernel) ⟨by decide, by decide⟩) rfl (List.range 49) (HW_all Y h a S O) rng_nd49 rfl (Nat.le_of_ble_eq_true rfl) dL_print_95 ⟨by show _ ≤ 80; omega, by show _ ≤ 480; omega⟩) (List.range 49) [] (HW_all Y h a S O) rfl (by decide) (by decide) (fun r95 u95 hw95 => ?_)
        subst hw95
        refine J_eq (pc' := 98) (lv' := [(0, .ref (h 0)), (1, .long (prB (stD S) k)), (3, .int (nI k))]) (st' := [.int (nI (abG (dX (stD S)) (dHd (stD S)) (dPb (stD S)) (dAg (stD S)) (dL (stD S)) k 7)), .long ((lN 31) * (((lN 31) * (((lN 31) * (((lN 31) * (((lN 31) * (prB (stD S) k)) + ((pgV (stD S) k 0).toInt64))) + ((pgV (stD S) k 1).toInt64))) + ((pgV (stD S) k 2).toInt64))) + ((pgV (stD S) k 3).toInt64)))]) (ws' := HW Y h a S O) rfl rfl rfl rfl ?_
        refine J_top (y := .int (pgV (stD S) k 7)) (by rw [pgV_y hg]) ?_
        refine J_i2l C dL_print_98 ?_
        refine J_ladd C dL_print_99 ?_
        refine J_top (y := .long (prB (stD S) (k + 1))) (rfl) ?_
        refine J_lstore_n (lv' := [(1, .long (prB (stD S) (k + 1))), (0, .ref (h 0)), (3, .int (nI k))]) C dL_print_100 rfl (by decide) rfl ?_
        refine J_iinc (j := 2) (v := nI (k + 1)) (lv' := [(3, .int (nI (k + 1))), (1, .long (prB (stD S) (k + 1))), (0, .ref (h 0))]) C dL_print_101 rfl (nI_1 _) (by decide) rfl ?_
        refine J_goto (tgt := 33) C dL_print_104 (by decide) ?_
        refine J_wd (k' := 5 * (k + 1)) (n' := 30 * (k + 1)) (by omega) (by omega) ?_
        refine J_lv (lv' := [(0, .ref (h 0)), (1, .long (prB (stD S) (k + 1))), (3, .int (nI (k + 1)))]) [2, 1, 0] rfl ?_
        exact ih33 (k + 1) (by omega) (show 4 - (k + 1) < 4 - k from by omega)
      · refine J_ldc2 C dL_print_38 (v := lN 31) w1 ?_
        refine J_ldc2 C dL_print_41 (v := lN 31) w1 ?_
        refine J_ldc2 C dL_print_44 (v := lN 31) w1 ?_
        refine J_ldc2 C dL_print_47 (v := lN 31) w1 ?_
        refine J_ldc2 C dL_print_50 (v := lN 31) w1 ?_
        refine J_lload_n C dL_print_53 rfl 1 rfl ?_
        refine J_lmul C dL_print_54 ?_
        refine J_aload_n C dL_print_55 rfl 0 rfl ?_
        refine J_iload_n C dL_print_56 rfl 2 rfl ?_
        refine J_iconst C dL_print_57 (v := nI 0) (by decide) ?_
        refine J_callI (wr := []) C (R_H16 (st := [.long ((lN 31) * (prB (stD S) k)), .long (lN 31), .long (lN 31), .long (lN 31), .long (lN 31)]) (wc := HW Y h a S O) C hXS (kW_guest_x1 ll Y hl0 h a S O b (nI k) (nI 0) (hG) (by omega) (oor (by omega) hg)) (vx_cwSW 3 C.t gL_print_L_guest rfl rfl rfl (by decide +kernel) ⟨by decide, by decide⟩) (Nat.le_of_ble_eq_true rfl) rfl (List.range 49) (HW_all Y h a S O) rng_nd49 rfl (Nat.le_of_ble_eq_true rfl) dL_print_58 ⟨by show _ ≤ 80; omega, by show _ ≤ 480; omega⟩) (List.range 49) [] (HW_all Y h a S O) rfl (by decide) (by decide) (fun r58 u58 hw58 => ?_)
        subst hw58
        refine J_eq (pc' := 61) (lv' := [(0, .ref (h 0)), (1, .long (prB (stD S) k)), (3, .int (nI k))]) (st' := [.int ((-5000003)), .long ((lN 31) * (prB (stD S) k)), .long (lN 31), .long (lN 31), .long (lN 31), .long (lN 31)]) (ws' := HW Y h a S O) rfl rfl rfl rfl ?_
        refine J_top (y := .int (pgV (stD S) k 0)) (by rw [pgV_n (Nat.not_lt.mpr hg)]) ?_
        refine J_i2l C dL_print_61 ?_
        refine J_ladd C dL_print_62 ?_
        refine J_lmul C dL_print_63 ?_
        refine J_aload_n C dL_print_64 rfl 0 rfl ?_
        refine J_iload_n C dL_print_65 rfl 2 rfl ?_
        refine J_iconst C dL_print_66 (v := nI 1) (by decide) ?_
        refine J_callI (wr := []) C (R_H (st := [.long ((lN 31) * (((lN 31) * (prB (stD S) k)) + ((pgV (stD S) k 0).toInt64))), .long (lN 31), .long (lN 31), .long (lN 31)]) (wc := HW Y h a S O) C hXS (kW_guest_x1 ll Y hl0 h a S O b (nI k) (nI 1) (hG) (by omega) (oor (by omega) hg)) (vx_cwSW 3 C.t gL_print_L_guest rfl rfl rfl (by decide +kernel) ⟨by decide, by decide⟩) rfl (List.range 49) (HW_all Y h a S O) rng_nd49 rfl (Nat.le_of_ble_eq_true rfl) dL_print_67 ⟨by show _ ≤ 80; omega, by show _ ≤ 480; omega⟩) (List.range 49) [] (HW_all Y h a S O) rfl (by decide) (by decide) (fun r67 u67 hw67 => ?_)
        subst hw67
        refine J_eq (pc' := 70) (lv' := [(0, .ref (h 0)), (1, .long (prB (stD S) k)), (3, .int (nI k))]) (st' := [.int ((-5000003)), .long ((lN 31) * (((lN 31) * (prB (stD S) k)) + ((pgV (stD S) k 0).toInt64))), .long (lN 31), .long (lN 31), .long (lN 31)]) (ws' := HW Y h a S O) rfl rfl rfl rfl ?_
        refine J_top (y := .int (pgV (stD S) k 1)) (by rw [pgV_n (Nat.not_lt.mpr hg)]) ?_
        refine J_i2l C dL_print_70 ?_
        refine J_ladd C dL_print_71 ?_
        refine J_lmul C dL_print_72 ?_
        refine J_aload_n C dL_print_73 rfl 0 rfl ?_
        refine J_iload_n C dL_print_74 rfl 2 rfl ?_
        refine J_iconst C dL_print_75 (v := nI 2) (by decide) ?_
        refine J_callI (wr := []) C (R_H (st := [.long ((lN 31) * (((lN 31) * (((lN 31) * (prB (stD S) k)) + ((pgV (stD S) k 0).toInt64))) + ((pgV (stD S) k 1).toInt64))), .long (lN 31), .long (lN 31)]) (wc := HW Y h a S O) C hXS (kW_guest_x1 ll Y hl0 h a S O b (nI k) (nI 2) (hG) (by omega) (oor (by omega) hg)) (vx_cwSW 3 C.t gL_print_L_guest rfl rfl rfl (by decide +kernel) ⟨by decide, by decide⟩) rfl (List.range 49) (HW_all Y h a S O) rng_nd49 rfl (Nat.le_of_ble_eq_true rfl) dL_print_76 ⟨by show _ ≤ 80; omega, by show _ ≤ 480; omega⟩) (List.range 49) [] (HW_all Y h a S O) rfl (by decide) (by decide) (fun r76 u76 hw76 => ?_)
        subst hw76
        refine J_eq (pc' := 79) (lv' := [(0, .ref (h 0)), (1, .long (prB (stD S) k)), (3, .int (nI k))]) (st' := [.int ((-5000003)), .long ((lN 31) * (((lN 31) * (((lN 31) * (prB (stD S) k)) + ((pgV (stD S) k 0).toInt64))) + ((pgV (stD S) k 1).toInt64))), .long (lN 31), .long (lN 31)]) (ws' := HW Y h a S O) rfl rfl rfl rfl ?_
        refine J_top (y := .int (pgV (stD S) k 2)) (by rw [pgV_n (Nat.not_lt.mpr hg)]) ?_
        refine J_i2l C dL_print_79 ?_
        refine J_ladd C dL_print_80 ?_
        refine J_lmul C dL_print_81 ?_
        refine J_aload_n C dL_print_82 rfl 0 rfl ?_
        refine J_iload_n C dL_print_83 rfl 2 rfl ?_
        refine J_iconst C dL_print_84 (v := nI 3) (by decide) ?_
        refine J_callI (wr := []) C (R_H (st := [.long ((lN 31) * (((lN 31) * (((lN 31) * (((lN 31) * (prB (stD S) k)) + ((pgV (stD S) k 0).toInt64))) + ((pgV (stD S) k 1).toInt64))) + ((pgV (stD S) k 2).toInt64))), .long (lN 31)]) (wc := HW Y h a S O) C hXS (kW_guest_x1 ll Y hl0 h a S O b (nI k) (nI 3) (hG) (by omega) (oor (by omega) hg)) (vx_cwSW 3 C.t gL_print_L_guest rfl rfl rfl (by decide +kernel) ⟨by decide, by decide⟩) rfl (List.range 49) (HW_all Y h a S O) rng_nd49 rfl (Nat.le_of_ble_eq_true rfl) dL_print_85 ⟨by show _ ≤ 80; omega, by show _ ≤ 480; omega⟩) (List.range 49) [] (HW_all Y h a S O) rfl (by decide) (by decide) (fun r85 u85 hw85 => ?_)
        subst hw85
        refine J_eq (pc' := 88) (lv' := [(0, .ref (h 0)), (1, .long (prB (stD S) k)), (3, .int (nI k))]) (st' := [.int ((-5000003)), .long ((lN 31) * (((lN 31) * (((lN 31) * (((lN 31) * (prB (stD S) k)) + ((pgV (stD S) k 0).toInt64))) + ((pgV (stD S) k 1).toInt64))) + ((pgV (stD S) k 2).toInt64))), .long (lN 31)]) (ws' := HW Y h a S O) rfl rfl rfl rfl ?_
        refine J_top (y := .int (pgV (stD S) k 3)) (by rw [pgV_n (Nat.not_lt.mpr hg)]) ?_
        refine J_i2l C dL_print_88 ?_
        refine J_ladd C dL_print_89 ?_
        refine J_lmul C dL_print_90 ?_
        refine J_aload_n C dL_print_91 rfl 0 rfl ?_
        refine J_iload_n C dL_print_92 rfl 2 rfl ?_
        refine J_bipush C dL_print_93 (v := nI 7) (by decide) ?_
        refine J_callI (wr := []) C (R_H (st := [.long ((lN 31) * (((lN 31) * (((lN 31) * (((lN 31) * (((lN 31) * (prB (stD S) k)) + ((pgV (stD S) k 0).toInt64))) + ((pgV (stD S) k 1).toInt64))) + ((pgV (stD S) k 2).toInt64))) + ((pgV (stD S) k 3).toInt64)))]) (wc := HW Y h a S O) C hXS (kW_guest_x1 ll Y hl0 h a S O b (nI k) (nI 7) (hG) (by omega) (oor (by omega) hg)) (vx_cwSW 3 C.t gL_print_L_guest rfl rfl rfl (by decide +kernel) ⟨by decide, by decide⟩) rfl (List.range 49) (HW_all Y h a S O) rng_nd49 rfl (Nat.le_of_ble_eq_true rfl) dL_print_95 ⟨by show _ ≤ 80; omega, by show _ ≤ 480; omega⟩) (List.range 49) [] (HW_all Y h a S O) rfl (by decide) (by decide) (fun r95 u95 hw95 => ?_)
        subst hw95
        refine J_eq (pc' := 98) (lv' := [(0, .ref (h 0)), (1, .long (prB (stD S) k)), (3, .int (nI k))]) (st' := [.int ((-5000003)), .long ((lN 31) * (((lN 31) * (((lN 31) * (((lN 31) * (((lN 31) * (prB (stD S) k)) + ((pgV (stD S) k 0).toInt64))) + ((pgV (stD S) k 1).toInt64))) + ((pgV (stD S) k 2).toInt64))) + ((pgV (stD S) k 3).toInt64)))]) (ws' := HW Y h a S O) rfl rfl rfl rfl ?_
        refine J_top (y := .int (pgV (stD S) k 7)) (by rw [pgV_n (Nat.not_lt.mpr hg)]) ?_
        refine J_i2l C dL_print_98 ?_
        refine J_ladd C dL_print_99 ?_
        refine J_top (y := .long (prB (stD S) (k + 1))) (rfl) ?_
        refine J_lstore_n (lv' := [(1, .long (prB (stD S) (k + 1))), (0, .ref (h 0)), (3, .int (nI k))]) C dL_print_100 rfl (by decide) rfl ?_
        refine J_iinc (j := 2) (v := nI (k + 1)) (lv' := [(3, .int (nI (k + 1))), (1, .long (prB (stD S) (k + 1))), (0, .ref (h 0))]) C dL_print_101 rfl (nI_1 _) (by decide) rfl ?_
        refine J_goto (tgt := 33) C dL_print_104 (by decide) ?_
        refine J_wd (k' := 5 * (k + 1)) (n' := 30 * (k + 1)) (by omega) (by omega) ?_
        refine J_lv (lv' := [(0, .ref (h 0)), (1, .long (prB (stD S) (k + 1))), (3, .int (nI (k + 1)))]) [2, 1, 0] rfl ?_
        exact ih33 (k + 1) (by omega) (show 4 - (k + 1) < 4 - k from by omega)
  · refine J_ldc2 C dL_print_12 (v := lN 31) w1 ?_
    refine J_lload_n C dL_print_15 rfl 1 rfl ?_
    refine J_lmul C dL_print_16 ?_
    refine J_aload_n C dL_print_17 rfl 0 rfl ?_
    refine J_iload_n C dL_print_18 rfl 2 rfl ?_
    refine J_callI (wr := []) C (R_H (st := [.long ((lN 31) * (prA (stD S) k))]) (wc := HW Y h a S O) C hXS (kW_value ll Y hl0 h a S O b k (hG) (by omega) (by omega)) (vx_cwSW 2 C.t gL_print_L_value rfl rfl rfl (by decide +kernel) ⟨by decide, by decide⟩) rfl (List.range 49) (HW_all Y h a S O) rng_nd49 rfl (Nat.le_of_ble_eq_true rfl) dL_print_19 ⟨by show _ ≤ 80; omega, by show _ ≤ 480; omega⟩) (List.range 49) [] (HW_all Y h a S O) rfl (by decide) (by decide) (fun r19 u19 hw19 => ?_)
    subst hw19
    refine J_eq (pc' := 22) (lv' := [(0, .ref (h 0)), (1, .long (prA (stD S) k)), (3, .int (nI k))]) (st' := [.int (nI (abH (dX (stD S)) k)), .long ((lN 31) * (prA (stD S) k))]) (ws' := HW Y h a S O) rfl rfl rfl rfl ?_
    refine J_i2l C dL_print_22 ?_
    refine J_ladd C dL_print_23 ?_
    refine J_top (y := .long (prA (stD S) (k + 1))) (rfl) ?_
    refine J_lstore_n (lv' := [(1, .long (prA (stD S) (k + 1))), (0, .ref (h 0)), (3, .int (nI k))]) C dL_print_24 rfl (by decide) rfl ?_
    refine J_iinc (j := 2) (v := nI (k + 1)) (lv' := [(3, .int (nI (k + 1))), (1, .long (prA (stD S) (k + 1))), (0, .ref (h 0))]) C dL_print_25 rfl (nI_1 _) (by decide) rfl ?_
    refine J_goto (tgt := 6) C dL_print_28 (by decide) ?_
    refine J_wd (k' := 0) (n' := 0) (by omega) (by omega) ?_
    refine J_lv (lv' := [(0, .ref (h 0)), (1, .long (prA (stD S) (k + 1))), (3, .int (nI (k + 1)))]) [2, 1, 0] rfl ?_
    exact ih6 (k + 1) (by omega) (show 10 - (k + 1) < 10 - k from by omega)

set_option maxHeartbeats 4000000 in
set_option maxRecDepth 100000 in
theorem kO_refused (ll : Launch) (Y : GY) (hl0 : ll.stackTraces = false) (h : Nat → Nat) (a : Nat → Nat) (S : ST) (O : OT) (b : Nat) (hG : G b S) (hbd : b ≤ 1000) : CH ll yL_refused wsL_refused { frames := 9, cells := 201, slots := 1206, locals := 167 } Y [.ref (h 0)] (HW Y h a S O) (QI (S := Unit) Y (fun (r : Int32) (_ : Unit) => r = nI 1) (fun (u : Unit) => HW Y h a S O)) 201 1206 := by
  refine CP_of (cc := cL_refused) (maxL := 8) (ret := (some .boolean)) (by decide) rfl (Nat.le_of_ble_eq_true rfl) ?_
  intro pp ee ss mm bl mt cc AA C hr hXS
  have w0 := C.t _ (List.mem_of_getElem? (i := 1) (show wsL_refused[1]? = some (Cond.constant RL 17 (-5000001)) from rfl))
  have w1 := C.t _ (List.mem_of_getElem? (i := 2) (show wsL_refused[2]? = some (Cond.constant RL 101 (1000000)) from rfl))
  have w2 := C.t _ (List.mem_of_getElem? (i := 3) (show wsL_refused[3]? = some (Cond.constant RL 27 (-5000003)) from rfl))
  have w3 := C.t _ (List.mem_of_getElem? (i := 4) (show wsL_refused[4]? = some (Cond.constant RL 20 (-5000002)) from rfl))
  refine J_eq (lv' := [(0, .ref (h 0))]) (ws' := HW Y h a S O) rfl rfl rfl rfl ?_
  rcases (show dX (stD S) 2 = 1 ∨ dX (stD S) 2 = 0 by have := EI_2 (G_E hG); omega) with hgo | hgo
  · have hn4 := EI_4 (G_E hG)
    have hm20 := EI_12 (G_E hG)
    refine J_aload_n C dL_refused_0 rfl 0 rfl ?_
    refine J_callL (wr := []) C (R_P (st := []) (wc := HW Y h a S O) C hXS (kO_print ll Y hl0 h a S O b (hG) (by omega)) (va_cwS 1 C.t gL_refused_L_print rfl rfl rfl (by decide +kernel) ⟨by decide, by decide⟩) rfl (List.range 49) (HW_all Y h a S O) rng_nd49 rfl (Nat.le_of_ble_eq_true rfl) dL_refused_1 ⟨by show _ ≤ 201; omega, by show _ ≤ 1206; omega⟩) (List.range 49) [] (HW_all Y h a S O) rfl (by decide) (by decide) (fun r1 u1 hw1 => ?_)
    subst hw1
    refine J_eq (pc' := 4) (lv' := [(0, .ref (h 0))]) (st' := [.long (prF (stD S))]) (ws' := HW Y h a S O) rfl rfl rfl rfl ?_
    refine J_lstore_n (lv' := [(1, .long (prF (stD S))), (0, .ref (h 0))]) C dL_refused_4 rfl (by decide) rfl ?_
    refine J_aload_n C dL_refused_5 rfl 1 rfl ?_
    refine J_iconst C dL_refused_6 (v := nI 0) (by decide) ?_
    refine J_callI (wr := []) C (R_H (st := []) (wc := HW Y h a S O) C hXS (kW_value ll Y hl0 h a S O b 0 (hG) (by omega) (by decide)) (vx_cwSW 2 C.t gL_refused_L_value rfl rfl rfl (by decide +kernel) ⟨by decide, by decide⟩) rfl (List.range 49) (HW_all Y h a S O) rng_nd49 rfl (Nat.le_of_ble_eq_true rfl) dL_refused_7 ⟨by show _ ≤ 201; omega, by show _ ≤ 1206; omega⟩) (List.range 49) [] (HW_all Y h a S O) rfl (by decide) (by decide) (fun r7 u7 hw7 => ?_)
    subst hw7
    refine J_eq (pc' := 10) (lv' := [(1, .long (prF (stD S))), (0, .ref (h 0))]) (st' := [.int (nI (abH (dX (stD S)) 0))]) (ws' := HW Y h a S O) rfl rfl rfl rfl ?_
    refine J_top (y := .int (nI (dX (stD S) 1))) (rfl) ?_
    refine J_istore_n (lv' := [(3, .int (nI (dX (stD S) 1))), (1, .long (prF (stD S))), (0, .ref (h 0))]) C dL_refused_10 rfl (by decide) rfl ?_
    refine J_aload_n C dL_refused_11 rfl 2 rfl ?_
    refine J_iconst C dL_refused_12 (v := nI 1) (by decide) ?_
    refine J_callI (wr := []) C (R_H (st := []) (wc := HW Y h a S O) C hXS (kW_value ll Y hl0 h a S O b 1 (hG) (by omega) (by decide)) (vx_cwSW 2 C.t gL_refused_L_value rfl rfl rfl (by decide +kernel) ⟨by decide, by decide⟩) rfl (List.range 49) (HW_all Y h a S O) rng_nd49 rfl (Nat.le_of_ble_eq_true rfl) dL_refused_13 ⟨by show _ ≤ 201; omega, by show _ ≤ 1206; omega⟩) (List.range 49) [] (HW_all Y h a S O) rfl (by decide) (by decide) (fun r13 u13 hw13 => ?_)
    subst hw13
    refine J_eq (pc' := 16) (lv' := [(3, .int (nI (dX (stD S) 1))), (1, .long (prF (stD S))), (0, .ref (h 0))]) (st' := [.int (nI (abH (dX (stD S)) 1))]) (ws' := HW Y h a S O) rfl rfl rfl rfl ?_
    refine J_top (y := .int (nI 1)) (by rw [show abH (dX (stD S)) 1 = dX (stD S) 2 from rfl, hgo]) ?_
    refine J_iconst C dL_refused_16 (v := nI 1) (by decide) ?_
    refine J_icmp_neN (tgt := 24) C dL_refused_17 (by decide) (by omega) (by omega) (fun cq17 => ?_) (fun cq17 => ?_)
    · exact absurd cq17 (by omega)
    · refine J_iconst C dL_refused_20 (v := nI 1) (by decide) ?_
      refine J_goto (tgt := 25) C dL_refused_21 (by decide) ?_
      refine J_istore (lv' := [(4, .int (nI 1)), (3, .int (nI (dX (stD S) 1))), (1, .long (prF (stD S))), (0, .ref (h 0))]) C dL_refused_25 (by decide) rfl ?_
      refine J_aload_n C dL_refused_27 rfl 3 rfl ?_
      refine J_iconst C dL_refused_28 (v := nI 2) (by decide) ?_
      refine J_iconst C dL_refused_29 (v := nI 0) (by decide) ?_
      refine J_callI (wr := []) C (R_H (st := []) (wc := HW Y h a S O) C hXS (kW_begin_x1 ll Y hl0 h a S O b (nI 2) (nI 0) (hG) (by omega) (Or.inl (by decide +kernel))) (vx_cwSW 3 C.t gL_refused_L_begin rfl rfl rfl (by decide +kernel) ⟨by decide, by decide⟩) rfl (List.range 49) (HW_all Y h a S O) rng_nd49 rfl (Nat.le_of_ble_eq_true rfl) dL_refused_30 ⟨by show _ ≤ 201; omega, by show _ ≤ 1206; omega⟩) (List.range 49) [] (HW_all Y h a S O) rfl (by decide) (by decide) (fun r30 u30 hw30 => ?_)
      subst hw30
      refine J_eq (pc' := 33) (lv' := [(4, .int (nI 1)), (3, .int (nI (dX (stD S) 1))), (1, .long (prF (stD S))), (0, .ref (h 0))]) (st' := [.int ((-5000001))]) (ws' := HW Y h a S O) rfl rfl rfl rfl ?_
      refine J_ldc C dL_refused_33 (v := (-5000001)) w0 ?_
      refine J_icmp_ne (tgt := 213) C dL_refused_35 (by decide) (fun cq35 => ?_) (fun cq35 => ?_)
      · exact absurd rfl cq35
      · refine J_aload_n C dL_refused_38 rfl 3 rfl ?_
        refine J_iconst C dL_refused_39 (v := nI 3) (by decide) ?_
        refine J_ldc C dL_refused_40 (v := nI 1000000) w1 ?_
        refine J_callI (wr := []) C (R_H (st := []) (wc := HW Y h a S O) C hXS (kW_begin_x1 ll Y hl0 h a S O b (nI 3) (nI 1000000) (hG) (by omega) (Or.inr (Or.inr (Or.inr (by decide +kernel))))) (vx_cwSW 3 C.t gL_refused_L_begin rfl rfl rfl (by decide +kernel) ⟨by decide, by decide⟩) rfl (List.range 49) (HW_all Y h a S O) rng_nd49 rfl (Nat.le_of_ble_eq_true rfl) dL_refused_42 ⟨by show _ ≤ 201; omega, by show _ ≤ 1206; omega⟩) (List.range 49) [] (HW_all Y h a S O) rfl (by decide) (by decide) (fun r42 u42 hw42 => ?_)
        subst hw42
        refine J_eq (pc' := 45) (lv' := [(4, .int (nI 1)), (3, .int (nI (dX (stD S) 1))), (1, .long (prF (stD S))), (0, .ref (h 0))]) (st' := [.int ((-5000001))]) (ws' := HW Y h a S O) rfl rfl rfl rfl ?_
        refine J_ldc C dL_refused_45 (v := (-5000001)) w0 ?_
        refine J_icmp_ne (tgt := 213) C dL_refused_47 (by decide) (fun cq47 => ?_) (fun cq47 => ?_)
        · exact absurd rfl cq47
        · refine J_aload_n C dL_refused_50 rfl 3 rfl ?_
          refine J_iconst C dL_refused_51 (v := nI 4) (by decide) ?_
          refine J_bipush C dL_refused_52 (v := iZ ((-2))) (by decide) ?_
          refine J_callI (wr := []) C (R_H (st := []) (wc := HW Y h a S O) C hXS (kW_begin_x1 ll Y hl0 h a S O b (nI 4) (iZ ((-2))) (hG) (by omega) (Or.inr (Or.inr (Or.inl (by decide +kernel))))) (vx_cwSW 3 C.t gL_refused_L_begin rfl rfl rfl (by decide +kernel) ⟨by decide, by decide⟩) rfl (List.range 49) (HW_all Y h a S O) rng_nd49 rfl (Nat.le_of_ble_eq_true rfl) dL_refused_54 ⟨by show _ ≤ 201; omega, by show _ ≤ 1206; omega⟩) (List.range 49) [] (HW_all Y h a S O) rfl (by decide) (by decide) (fun r54 u54 hw54 => ?_)
          subst hw54
          refine J_eq (pc' := 57) (lv' := [(4, .int (nI 1)), (3, .int (nI (dX (stD S) 1))), (1, .long (prF (stD S))), (0, .ref (h 0))]) (st' := [.int ((-5000001))]) (ws' := HW Y h a S O) rfl rfl rfl rfl ?_
          refine J_ldc C dL_refused_57 (v := (-5000001)) w0 ?_
          refine J_icmp_ne (tgt := 213) C dL_refused_59 (by decide) (fun cq59 => ?_) (fun cq59 => ?_)
          · exact absurd rfl cq59
          · refine J_aload_n C dL_refused_62 rfl 3 rfl ?_
            refine J_iload_n C dL_refused_63 rfl 1 rfl ?_
            refine J_iconst C dL_refused_64 (v := nI 1) (by decide) ?_
            refine J_iconst C dL_refused_65 (v := nI 0) (by decide) ?_
            refine J_top (y := .int (p2i (False))) ((congrArg Value.int (p2i_f (fun z => z))).symm) ?_
            refine J_callI (wr := []) C (R_H (st := []) (wc := HW Y h a S O) C hXS (kW_ask_x1 ll Y hl0 h a S O b (nI (dX (stD S) 1)) (nI 1) False (hG) (by omega) (oor (by omega) (Nat.le_refl _))) (vx_cwSW 4 C.t gL_refused_L_ask rfl rfl rfl (by decide +kernel) ⟨by decide, by decide⟩) rfl (List.range 49) (HW_all Y h a S O) rng_nd49 rfl (Nat.le_of_ble_eq_true rfl) dL_refused_66 ⟨by show _ ≤ 201; omega, by show _ ≤ 1206; omega⟩) (List.range 49) [] (HW_all Y h a S O) rfl (by decide) (by decide) (fun r66 u66 hw66 => ?_)
            subst hw66
            refine J_eq (pc' := 69) (lv' := [(4, .int (nI 1)), (3, .int (nI (dX (stD S) 1))), (1, .long (prF (stD S))), (0, .ref (h 0))]) (st' := [.int ((-5000003))]) (ws' := HW Y h a S O) rfl rfl rfl rfl ?_
            refine J_ldc C dL_refused_69 (v := (-5000003)) w2 ?_
            refine J_icmp_ne (tgt := 213) C dL_refused_71 (by decide) (fun cq71 => ?_) (fun cq71 => ?_)
            · exact absurd rfl cq71
            · refine J_aload_n C dL_refused_74 rfl 3 rfl ?_
              refine J_iload_n C dL_refused_75 rfl 1 rfl ?_
              refine J_iconst C dL_refused_76 (v := nI 0) (by decide) ?_
              refine J_callI (wr := []) C (R_H (st := []) (wc := HW Y h a S O) C hXS (kW_prove_x1 ll Y hl0 h a S O b (nI (dX (stD S) 1)) (nI 0) (hG) (by omega) (oor2 (by omega) (Nat.le_refl _))) (vx_cwSW 3 C.t gL_refused_L_prove rfl rfl rfl (by decide +kernel) ⟨by decide, by decide⟩) rfl (List.range 49) (HW_all Y h a S O) rng_nd49 rfl (Nat.le_of_ble_eq_true rfl) dL_refused_77 ⟨by show _ ≤ 201; omega, by show _ ≤ 1206; omega⟩) (List.range 49) [] (HW_all Y h a S O) rfl (by decide) (by decide) (fun r77 u77 hw77 => ?_)
              subst hw77
              refine J_eq (pc' := 80) (lv' := [(4, .int (nI 1)), (3, .int (nI (dX (stD S) 1))), (1, .long (prF (stD S))), (0, .ref (h 0))]) (st' := [.int ((-5000003))]) (ws' := HW Y h a S O) rfl rfl rfl rfl ?_
              refine J_ldc C dL_refused_80 (v := (-5000003)) w2 ?_
              refine J_icmp_ne (tgt := 213) C dL_refused_82 (by decide) (fun cq82 => ?_) (fun cq82 => ?_)
              · exact absurd rfl cq82
              · refine J_aload_n C dL_refused_85 rfl 3 rfl ?_
                refine J_iconst C dL_refused_86 (v := iZ ((-1))) (by decide) ?_
                refine J_callI (wr := []) C (R_H (st := []) (wc := HW Y h a S O) C hXS (kW_leave_x1 ll Y hl0 h a S O b (iZ ((-1))) (hG) (by omega) (Or.inl (by decide +kernel))) (vx_cwSW 2 C.t gL_refused_L_leave rfl rfl rfl (by decide +kernel) ⟨by decide, by decide⟩) rfl (List.range 49) (HW_all Y h a S O) rng_nd49 rfl (Nat.le_of_ble_eq_true rfl) dL_refused_87 ⟨by show _ ≤ 201; omega, by show _ ≤ 1206; omega⟩) (List.range 49) [] (HW_all Y h a S O) rfl (by decide) (by decide) (fun r87 u87 hw87 => ?_)
                subst hw87
                refine J_eq (pc' := 90) (lv' := [(4, .int (nI 1)), (3, .int (nI (dX (stD S) 1))), (1, .long (prF (stD S))), (0, .ref (h 0))]) (st' := [.int ((-5000003))]) (ws' := HW Y h a S O) rfl rfl rfl rfl ?_
                refine J_ldc C dL_refused_90 (v := (-5000003)) w2 ?_
                refine J_icmp_ne (tgt := 213) C dL_refused_92 (by decide) (fun cq92 => ?_) (fun cq92 => ?_)
                · exact absurd rfl cq92
                · refine J_aload_n C dL_refused_95 rfl 3 rfl ?_
                  refine J_bipush C dL_refused_96 (v := nI 8) (by decide) ?_
                  refine J_callI (wr := []) C (R_H (st := []) (wc := HW Y h a S O) C hXS (kW_accuse_x1 ll Y hl0 h a S O b (nI 8) (hG) (by omega) (Or.inr (by decide +kernel))) (vx_cwSW 2 C.t gL_refused_L_accuse rfl rfl rfl (by decide +kernel) ⟨by decide, by decide⟩) rfl (List.range 49) (HW_all Y h a S O) rng_nd49 rfl (Nat.le_of_ble_eq_true rfl) dL_refused_98 ⟨by show _ ≤ 201; omega, by show _ ≤ 1206; omega⟩) (List.range 49) [] (HW_all Y h a S O) rfl (by decide) (by decide) (fun r98 u98 hw98 => ?_)
                  subst hw98
                  refine J_eq (pc' := 101) (lv' := [(4, .int (nI 1)), (3, .int (nI (dX (stD S) 1))), (1, .long (prF (stD S))), (0, .ref (h 0))]) (st' := [.int ((-5000003))]) (ws' := HW Y h a S O) rfl rfl rfl rfl ?_
                  refine J_ldc C dL_refused_101 (v := (-5000003)) w2 ?_
                  refine J_icmp_ne (tgt := 213) C dL_refused_103 (by decide) (fun cq103 => ?_) (fun cq103 => ?_)
                  · exact absurd rfl cq103
                  · refine J_aload_n C dL_refused_106 rfl 3 rfl ?_
                    refine J_iload_n C dL_refused_107 rfl 1 rfl ?_
                    refine J_iconst C dL_refused_108 (v := nI 0) (by decide) ?_
                    refine J_callI (wr := []) C (R_H (st := []) (wc := HW Y h a S O) C hXS (kW_guest_x1 ll Y hl0 h a S O b (nI (dX (stD S) 1)) (nI 0) (hG) (by omega) (oor (by omega) (Nat.le_refl _))) (vx_cwSW 3 C.t gL_refused_L_guest rfl rfl rfl (by decide +kernel) ⟨by decide, by decide⟩) rfl (List.range 49) (HW_all Y h a S O) rng_nd49 rfl (Nat.le_of_ble_eq_true rfl) dL_refused_109 ⟨by show _ ≤ 201; omega, by show _ ≤ 1206; omega⟩) (List.range 49) [] (HW_all Y h a S O) rfl (by decide) (by decide) (fun r109 u109 hw109 => ?_)
                    subst hw109
                    refine J_eq (pc' := 112) (lv' := [(4, .int (nI 1)), (3, .int (nI (dX (stD S) 1))), (1, .long (prF (stD S))), (0, .ref (h 0))]) (st' := [.int ((-5000003))]) (ws' := HW Y h a S O) rfl rfl rfl rfl ?_
                    refine J_ldc C dL_refused_112 (v := (-5000003)) w2 ?_
                    refine J_icmp_ne (tgt := 213) C dL_refused_114 (by decide) (fun cq114 => ?_) (fun cq114 => ?_)
                    · exact absurd rfl cq114
                    · refine J_aload_n C dL_refused_117 rfl 3 rfl ?_
                      refine J_bipush C dL_refused_118 (v := nI 10) (by decide) ?_
                      refine J_callI (wr := []) C (R_H (st := []) (wc := HW Y h a S O) C hXS (kW_value_x1 ll Y hl0 h a S O b (nI 10) (hG) (by omega) (Or.inr (by decide +kernel))) (vx_cwSW 2 C.t gL_refused_L_value rfl rfl rfl (by decide +kernel) ⟨by decide, by decide⟩) rfl (List.range 49) (HW_all Y h a S O) rng_nd49 rfl (Nat.le_of_ble_eq_true rfl) dL_refused_120 ⟨by show _ ≤ 201; omega, by show _ ≤ 1206; omega⟩) (List.range 49) [] (HW_all Y h a S O) rfl (by decide) (by decide) (fun r120 u120 hw120 => ?_)
                      subst hw120
                      refine J_eq (pc' := 123) (lv' := [(4, .int (nI 1)), (3, .int (nI (dX (stD S) 1))), (1, .long (prF (stD S))), (0, .ref (h 0))]) (st' := [.int ((-5000001))]) (ws' := HW Y h a S O) rfl rfl rfl rfl ?_
                      refine J_ldc C dL_refused_123 (v := (-5000001)) w0 ?_
                      refine J_icmp_ne (tgt := 213) C dL_refused_125 (by decide) (fun cq125 => ?_) (fun cq125 => ?_)
                      · exact absurd rfl cq125
                      · refine J_aload_n C dL_refused_128 rfl 3 rfl ?_
                        refine J_aload_n C dL_refused_129 rfl 3 rfl ?_
                        refine J_iconst C dL_refused_130 (v := nI 2) (by decide) ?_
                        refine J_callI (wr := []) C (R_H (st := [.ref (h 0)]) (wc := HW Y h a S O) C hXS (kW_value ll Y hl0 h a S O b 2 (hG) (by omega) (by decide)) (vx_cwSW 2 C.t gL_refused_L_value rfl rfl rfl (by decide +kernel) ⟨by decide, by decide⟩) rfl (List.range 49) (HW_all Y h a S O) rng_nd49 rfl (Nat.le_of_ble_eq_true rfl) dL_refused_131 ⟨by show _ ≤ 201; omega, by show _ ≤ 1206; omega⟩) (List.range 49) [] (HW_all Y h a S O) rfl (by decide) (by decide) (fun r131 u131 hw131 => ?_)
                        subst hw131
                        refine J_eq (pc' := 134) (lv' := [(4, .int (nI 1)), (3, .int (nI (dX (stD S) 1))), (1, .long (prF (stD S))), (0, .ref (h 0))]) (st' := [.int (nI (abH (dX (stD S)) 2)), .ref (h 0)]) (ws' := HW Y h a S O) rfl rfl rfl rfl ?_
                        refine J_top (y := .int (nI (dX (stD S) 12))) (rfl) ?_
                        refine J_iconst C dL_refused_134 (v := nI 0) (by decide) ?_
                        refine J_callI (wr := []) C (R_H (st := []) (wc := HW Y h a S O) C hXS (kW_question_x1 ll Y hl0 h a S O b (nI (dX (stD S) 12)) (nI 0) (hG) (by omega) (oor (by omega) (Nat.le_refl _))) (vx_cwSW 3 C.t gL_refused_L_question rfl rfl rfl (by decide +kernel) ⟨by decide, by decide⟩) rfl (List.range 49) (HW_all Y h a S O) rng_nd49 rfl (Nat.le_of_ble_eq_true rfl) dL_refused_135 ⟨by show _ ≤ 201; omega, by show _ ≤ 1206; omega⟩) (List.range 49) [] (HW_all Y h a S O) rfl (by decide) (by decide) (fun r135 u135 hw135 => ?_)
                        subst hw135
                        refine J_eq (pc' := 138) (lv' := [(4, .int (nI 1)), (3, .int (nI (dX (stD S) 1))), (1, .long (prF (stD S))), (0, .ref (h 0))]) (st' := [.int ((-5000003))]) (ws' := HW Y h a S O) rfl rfl rfl rfl ?_
                        refine J_ldc C dL_refused_138 (v := (-5000003)) w2 ?_
                        refine J_icmp_ne (tgt := 213) C dL_refused_140 (by decide) (fun cq140 => ?_) (fun cq140 => ?_)
                        · exact absurd rfl cq140
                        · refine J_aload_n C dL_refused_143 rfl 3 rfl ?_
                          refine J_iconst C dL_refused_144 (v := iZ ((-1))) (by decide) ?_
                          refine J_callI (wr := []) C (R_H (st := []) (wc := HW Y h a S O) C hXS (kW_dealsWith_x1 ll Y hl0 h a S O b (iZ ((-1))) (hG) (by omega) (Or.inl (by decide +kernel))) (vx_cwSW 2 C.t gL_refused_L_dealsWith rfl rfl rfl (by decide +kernel) ⟨by decide, by decide⟩) rfl (List.range 49) (HW_all Y h a S O) rng_nd49 rfl (Nat.le_of_ble_eq_true rfl) dL_refused_145 ⟨by show _ ≤ 201; omega, by show _ ≤ 1206; omega⟩) (List.range 49) [] (HW_all Y h a S O) rfl (by decide) (by decide) (fun r145 u145 hw145 => ?_)
                          subst hw145
                          refine J_eq (pc' := 148) (lv' := [(4, .int (nI 1)), (3, .int (nI (dX (stD S) 1))), (1, .long (prF (stD S))), (0, .ref (h 0))]) (st' := [.int ((-5000003))]) (ws' := HW Y h a S O) rfl rfl rfl rfl ?_
                          refine J_ldc C dL_refused_148 (v := (-5000003)) w2 ?_
                          refine J_icmp_ne (tgt := 213) C dL_refused_150 (by decide) (fun cq150 => ?_) (fun cq150 => ?_)
                          · exact absurd rfl cq150
                          · refine J_aload_n C dL_refused_153 rfl 3 rfl ?_
                            refine J_iload_n C dL_refused_154 rfl 1 rfl ?_
                            refine J_iconst C dL_refused_155 (v := nI 0) (by decide) ?_
                            refine J_callI (wr := []) C (R_H (st := []) (wc := HW Y h a S O) C hXS (kW_dealsHeld_x1 ll Y hl0 h a S O b (nI (dX (stD S) 1)) (nI 0) (hG) (by omega) (oor2 (by omega) (Nat.le_refl _))) (vx_cwSW 3 C.t gL_refused_L_dealsHeld rfl rfl rfl (by decide +kernel) ⟨by decide, by decide⟩) rfl (List.range 49) (HW_all Y h a S O) rng_nd49 rfl (Nat.le_of_ble_eq_true rfl) dL_refused_156 ⟨by show _ ≤ 201; omega, by show _ ≤ 1206; omega⟩) (List.range 49) [] (HW_all Y h a S O) rfl (by decide) (by decide) (fun r156 u156 hw156 => ?_)
                            subst hw156
                            refine J_eq (pc' := 159) (lv' := [(4, .int (nI 1)), (3, .int (nI (dX (stD S) 1))), (1, .long (prF (stD S))), (0, .ref (h 0))]) (st' := [.int ((-5000003))]) (ws' := HW Y h a S O) rfl rfl rfl rfl ?_
                            refine J_ldc C dL_refused_159 (v := (-5000003)) w2 ?_
                            refine J_icmp_ne (tgt := 213) C dL_refused_161 (by decide) (fun cq161 => ?_) (fun cq161 => ?_)
                            · exact absurd rfl cq161
                            · refine J_aload_n C dL_refused_164 rfl 3 rfl ?_
                              refine J_iload_n C dL_refused_165 rfl 1 rfl ?_
                              refine J_iconst C dL_refused_166 (v := nI 1) (by decide) ?_
                              refine J_iconst C dL_refused_167 (v := nI 0) (by decide) ?_
                              refine J_callI (wr := []) C (R_H (st := []) (wc := HW Y h a S O) C hXS (kW_dealsIf_x1 ll Y hl0 h a S O b (nI (dX (stD S) 1)) (nI 1) (nI 0) (hG) (by omega) (oor (by omega) (Nat.le_refl _))) (vx_cwSW 4 C.t gL_refused_L_dealsIf rfl rfl rfl (by decide +kernel) ⟨by decide, by decide⟩) rfl (List.range 49) (HW_all Y h a S O) rng_nd49 rfl (Nat.le_of_ble_eq_true rfl) dL_refused_168 ⟨by show _ ≤ 201; omega, by show _ ≤ 1206; omega⟩) (List.range 49) [] (HW_all Y h a S O) rfl (by decide) (by decide) (fun r168 u168 hw168 => ?_)
                              subst hw168
                              refine J_eq (pc' := 171) (lv' := [(4, .int (nI 1)), (3, .int (nI (dX (stD S) 1))), (1, .long (prF (stD S))), (0, .ref (h 0))]) (st' := [.int ((-5000003))]) (ws' := HW Y h a S O) rfl rfl rfl rfl ?_
                              refine J_ldc C dL_refused_171 (v := (-5000003)) w2 ?_
                              refine J_icmp_ne (tgt := 213) C dL_refused_173 (by decide) (fun cq173 => ?_) (fun cq173 => ?_)
                              · exact absurd rfl cq173
                              · refine J_aload_n C dL_refused_176 rfl 3 rfl ?_
                                refine J_iconst C dL_refused_177 (v := iZ ((-1))) (by decide) ?_
                                refine J_iconst C dL_refused_178 (v := nI 1) (by decide) ?_
                                refine J_callI (wr := []) C (R_H (st := []) (wc := HW Y h a S O) C hXS (kW_worst_x1 ll Y hl0 h a S O b (iZ ((-1))) (nI 1) (hG) (by omega) (Or.inl (by decide +kernel))) (vx_cwSW 3 C.t gL_refused_L_worst rfl rfl rfl (by decide +kernel) ⟨by decide, by decide⟩) rfl (List.range 49) (HW_all Y h a S O) rng_nd49 rfl (Nat.le_of_ble_eq_true rfl) dL_refused_179 ⟨by show _ ≤ 201; omega, by show _ ≤ 1206; omega⟩) (List.range 49) [] (HW_all Y h a S O) rfl (by decide) (by decide) (fun r179 u179 hw179 => ?_)
                                subst hw179
                                refine J_eq (pc' := 182) (lv' := [(4, .int (nI 1)), (3, .int (nI (dX (stD S) 1))), (1, .long (prF (stD S))), (0, .ref (h 0))]) (st' := [.int ((-5000003))]) (ws' := HW Y h a S O) rfl rfl rfl rfl ?_
                                refine J_ldc C dL_refused_182 (v := (-5000003)) w2 ?_
                                refine J_icmp_ne (tgt := 213) C dL_refused_184 (by decide) (fun cq184 => ?_) (fun cq184 => ?_)
                                · exact absurd rfl cq184
                                · refine J_aload_n C dL_refused_187 rfl 3 rfl ?_
                                  refine J_iload_n C dL_refused_188 rfl 1 rfl ?_
                                  refine J_callI (wr := []) C (R_H (st := []) (wc := HW Y h a S O) C hXS (kW_bestCards_x1 ll Y hl0 h a S O b (nI (dX (stD S) 1)) (hG) (by omega) (oor (by omega) (Nat.le_refl _))) (vx_cwSW 2 C.t gL_refused_L_bestCards rfl rfl rfl (by decide +kernel) ⟨by decide, by decide⟩) rfl (List.range 49) (HW_all Y h a S O) rng_nd49 rfl (Nat.le_of_ble_eq_true rfl) dL_refused_189 ⟨by show _ ≤ 201; omega, by show _ ≤ 1206; omega⟩) (List.range 49) [] (HW_all Y h a S O) rfl (by decide) (by decide) (fun r189 u189 hw189 => ?_)
                                  subst hw189
                                  refine J_eq (pc' := 192) (lv' := [(4, .int (nI 1)), (3, .int (nI (dX (stD S) 1))), (1, .long (prF (stD S))), (0, .ref (h 0))]) (st' := [.int ((-5000003))]) (ws' := HW Y h a S O) rfl rfl rfl rfl ?_
                                  refine J_ldc C dL_refused_192 (v := (-5000003)) w2 ?_
                                  refine J_icmp_ne (tgt := 213) C dL_refused_194 (by decide) (fun cq194 => ?_) (fun cq194 => ?_)
                                  · exact absurd rfl cq194
                                  · refine J_aload_n C dL_refused_197 rfl 3 rfl ?_
                                    refine J_sipush C dL_refused_198 (v := nI 128) (by decide) ?_
                                    refine J_callI (wr := []) C (R_H (st := []) (wc := HW Y h a S O) C hXS (kW_append_x1 ll Y hl0 h a S O b (nI 128) (hG) (by omega) (Or.inr (by decide +kernel))) (vx_cwSW 2 C.t gL_refused_L_append rfl rfl rfl (by decide +kernel) ⟨by decide, by decide⟩) rfl (List.range 49) (HW_all Y h a S O) rng_nd49 rfl (Nat.le_of_ble_eq_true rfl) dL_refused_201 ⟨by show _ ≤ 201; omega, by show _ ≤ 1206; omega⟩) (List.range 49) [] (HW_all Y h a S O) rfl (by decide) (by decide) (fun r201 u201 hw201 => ?_)
                                    subst hw201
                                    refine J_eq (pc' := 204) (lv' := [(4, .int (nI 1)), (3, .int (nI (dX (stD S) 1))), (1, .long (prF (stD S))), (0, .ref (h 0))]) (st' := [.int ((-5000001))]) (ws' := HW Y h a S O) rfl rfl rfl rfl ?_
                                    refine J_ldc C dL_refused_204 (v := (-5000001)) w0 ?_
                                    refine J_icmp_ne (tgt := 213) C dL_refused_206 (by decide) (fun cq206 => ?_) (fun cq206 => ?_)
                                    · exact absurd rfl cq206
                                    · refine J_iconst C dL_refused_209 (v := nI 1) (by decide) ?_
                                      refine J_goto (tgt := 214) C dL_refused_210 (by decide) ?_
                                      refine J_istore (lv' := [(5, .int (nI 1)), (4, .int (nI 1)), (3, .int (nI (dX (stD S) 1))), (1, .long (prF (stD S))), (0, .ref (h 0))]) C dL_refused_214 (by decide) rfl ?_
                                      refine J_iconst C dL_refused_216 (v := nI 0) (by decide) ?_
                                      refine J_istore (lv' := [(6, .int (nI 0)), (5, .int (nI 1)), (4, .int (nI 1)), (3, .int (nI (dX (stD S) 1))), (1, .long (prF (stD S))), (0, .ref (h 0))]) C dL_refused_217 (by decide) rfl ?_
                                      refine J_lv (lv' := [(0, .ref (h 0)), (1, .long (prF (stD S))), (3, .int (nI (dX (stD S) 1))), (4, .int (nI 1)), (5, .int (nI 1)), (6, .int (nI 0))]) [5, 4, 3, 2, 1, 0] rfl ?_
                                      refine J_loopK (σ := Nat) (I := fun (k : Nat) => (k ≤ dX (stD S) 1)) (μ := fun (k : Nat) => dX (stD S) 1 - k) (kf := fun (k : Nat) => 96 + 6 * k) (nf := fun (k : Nat) => 576 + 36 * k) (lvf := fun (k : Nat) => [(0, .ref (h 0)), (1, .long (prF (stD S))), (3, .int (nI (dX (stD S) 1))), (4, .int (nI 1)), (5, .int (nI 1)), (6, .int (nI k))]) (stf := fun (k : Nat) => []) (wsf := fun (k : Nat) => HW Y h a S O) ?_ (0) (by omega) (by show _ ≤ 96 + 6 * 0; omega) (by show _ ≤ 576 + 36 * 0; omega) (rfl) rfl (rfl)
                                      rintro k hk ih219
                                      refine J_eq (lv' := [(0, .ref (h 0)), (1, .long (prF (stD S))), (3, .int (nI (dX (stD S) 1))), (4, .int (nI 1)), (5, .int (nI 1)), (6, .int (nI k))]) (st' := []) (ws' := HW Y h a S O) rfl rfl rfl rfl ?_
                                      refine J_iload C dL_refused_219 5 rfl ?_
                                      refine J_iload_n C dL_refused_221 rfl 2 rfl ?_
                                      refine J_icmp_geN (tgt := 348) C dL_refused_222 (by decide) (by omega) (by omega) (fun cq222 => ?_) (fun cq222 => ?_)
                                      · refine J_iload C dL_refused_348 4 rfl ?_
                                        refine J_if_eqN (tgt := 395) C dL_refused_350 (by decide) (by omega) (fun cq350 => ?_) (fun cq350 => ?_)
                                        · exact absurd cq350 (by omega)
                                        · refine J_iload C dL_refused_353 3 rfl ?_
                                          refine J_if_eqN (tgt := 372) C dL_refused_355 (by decide) (by omega) (fun cq355 => ?_) (fun cq355 => ?_)
                                          · exact absurd cq355 (by omega)
                                          · refine J_aload_n C dL_refused_358 rfl 0 rfl ?_
                                            refine J_iconst C dL_refused_359 (v := nI 3) (by decide) ?_
                                            refine J_iconst C dL_refused_360 (v := nI 0) (by decide) ?_
                                            refine J_callI (wr := []) C (R_H (st := []) (wc := HW Y h a S O) C hXS (kW_begin_x2 ll Y hl0 h a S O b 3 (nI 0) (hG) (by omega) (Or.inl rfl) (⟨by decide +kernel, by decide +kernel⟩) (hgo)) (vx_cwSW 3 C.t gL_refused_L_begin rfl rfl rfl (by decide +kernel) ⟨by decide, by decide⟩) rfl (List.range 49) (HW_all Y h a S O) rng_nd49 rfl (Nat.le_of_ble_eq_true rfl) dL_refused_361 ⟨by show _ ≤ 201; omega, by show _ ≤ 1206; omega⟩) (List.range 49) [] (HW_all Y h a S O) rfl (by decide) (by decide) (fun r361 u361 hw361 => ?_)
                                            subst hw361
                                            refine J_eq (pc' := 364) (lv' := [(0, .ref (h 0)), (1, .long (prF (stD S))), (3, .int (nI (dX (stD S) 1))), (4, .int (nI 1)), (5, .int (nI 1)), (6, .int (nI k))]) (st' := [.int ((-5000002))]) (ws' := HW Y h a S O) rfl rfl rfl rfl ?_
                                            refine J_ldc C dL_refused_364 (v := (-5000002)) w3 ?_
                                            refine J_icmp_ne (tgt := 395) C dL_refused_366 (by decide) (fun cq366 => ?_) (fun cq366 => ?_)
                                            · exact absurd rfl cq366
                                            · refine J_goto (tgt := 382) C dL_refused_369 (by decide) ?_
                                              refine J_aload_n C dL_refused_382 rfl 0 rfl ?_
                                              refine J_callL (wr := []) C (R_P (st := []) (wc := HW Y h a S O) C hXS (kO_print ll Y hl0 h a S O b (hG) (by omega)) (va_cwS 1 C.t gL_refused_L_print rfl rfl rfl (by decide +kernel) ⟨by decide, by decide⟩) rfl (List.range 49) (HW_all Y h a S O) rng_nd49 rfl (Nat.le_of_ble_eq_true rfl) dL_refused_383 ⟨by show _ ≤ 201; omega, by show _ ≤ 1206; omega⟩) (List.range 49) [] (HW_all Y h a S O) rfl (by decide) (by decide) (fun r383 u383 hw383 => ?_)
                                              subst hw383
                                              refine J_eq (pc' := 386) (lv' := [(0, .ref (h 0)), (1, .long (prF (stD S))), (3, .int (nI (dX (stD S) 1))), (4, .int (nI 1)), (5, .int (nI 1)), (6, .int (nI k))]) (st' := [.long (prF (stD S))]) (ws' := HW Y h a S O) rfl rfl rfl rfl ?_
                                              refine J_lload_n C dL_refused_386 rfl 1 rfl ?_
                                              refine J_lcmp C dL_refused_387 ?_
                                              refine J_top (y := .int (nI 0)) (by rw [lcs]) ?_
                                              refine J_if_neN (tgt := 395) C dL_refused_388 (by decide) (by omega) (fun cq388 => ?_) (fun cq388 => ?_)
                                              · exact absurd cq388 (by omega)
                                              · refine J_iconst C dL_refused_391 (v := nI 1) (by decide) ?_
                                                refine J_goto (tgt := 396) C dL_refused_392 (by decide) ?_
                                                refine J_wd (k' := 201) (n' := 1206) (by omega) (by omega) ?_
                                                exact J_zret C hr (by decide) dL_refused_396 (()) (rfl) (rfl)
                                      · refine J_iload C dL_refused_225 4 rfl ?_
                                        refine J_if_eqN (tgt := 348) C dL_refused_227 (by decide) (by omega) (fun cq227 => ?_) (fun cq227 => ?_)
                                        · exact absurd cq227 (by omega)
                                        · refine J_iload C dL_refused_230 3 rfl ?_
                                          refine J_if_eqN (tgt := 250) C dL_refused_232 (by decide) (by omega) (fun cq232 => ?_) (fun cq232 => ?_)
                                          · exact absurd cq232 (by omega)
                                          · refine J_aload_n C dL_refused_235 rfl 0 rfl ?_
                                            refine J_iload C dL_refused_236 5 rfl ?_
                                            refine J_iconst C dL_refused_238 (v := nI 1) (by decide) ?_
                                            refine J_callI (wr := []) C (R_H (st := []) (wc := HW Y h a S O) C hXS (kW_guest ll Y hl0 h a S O b k 1 (hG) (by omega) (by first | assumption | omega) (by decide)) (vx_cwSW 3 C.t gL_refused_L_guest rfl rfl rfl (by decide +kernel) ⟨by decide, by decide⟩) rfl (List.range 49) (HW_all Y h a S O) rng_nd49 rfl (Nat.le_of_ble_eq_true rfl) dL_refused_239 ⟨by show _ ≤ 201; omega, by show _ ≤ 1206; omega⟩) (List.range 49) [] (HW_all Y h a S O) rfl (by decide) (by decide) (fun r239 u239 hw239 => ?_)
                                            subst hw239
                                            refine J_eq (pc' := 242) (lv' := [(0, .ref (h 0)), (1, .long (prF (stD S))), (3, .int (nI (dX (stD S) 1))), (4, .int (nI 1)), (5, .int (nI 1)), (6, .int (nI k))]) (st' := [.int (nI (abG (dX (stD S)) (dHd (stD S)) (dPb (stD S)) (dAg (stD S)) (dL (stD S)) k 1))]) (ws' := HW Y h a S O) rfl rfl rfl rfl ?_
                                            refine J_top (y := .int (nI (dX (stD S) 7 / 2 ^ k &&& 1))) (rfl) ?_
                                            refine J_iconst C dL_refused_242 (v := nI 1) (by decide) ?_
                                            refine J_icmp_neN (tgt := 250) C dL_refused_243 (by decide) (Nat.lt_of_le_of_lt Nat.and_le_right (by decide)) (by decide) (fun cq243 => ?_) (fun cq243 => ?_)
                                            · refine J_iconst C dL_refused_250 (v := nI 0) (by decide) ?_
                                              refine J_istore (lv' := [(7, .int (nI 0)), (0, .ref (h 0)), (1, .long (prF (stD S))), (3, .int (nI (dX (stD S) 1))), (4, .int (nI 1)), (5, .int (nI 1)), (6, .int (nI k))]) C dL_refused_251 (by decide) rfl ?_
                                              refine J_aload_n C dL_refused_253 rfl 1 rfl ?_
                                              refine J_iload C dL_refused_254 6 rfl ?_
                                              refine J_iconst C dL_refused_256 (v := nI 0) (by decide) ?_
                                              refine J_iconst C dL_refused_257 (v := nI 0) (by decide) ?_
                                              refine J_top (y := .int (p2i (False))) ((congrArg Value.int (p2i_f (fun z => z))).symm) ?_
                                              refine J_callI (wr := []) C (R_H (st := []) (wc := HW Y h a S O) C hXS (kW_ask_x2 ll Y hl0 h a S O b k (nI 0) False (hG) (by omega) (by first | assumption | omega) (Or.inl (by decide +kernel))) (vx_cwSW 4 C.t gL_refused_L_ask rfl rfl rfl (by decide +kernel) ⟨by decide, by decide⟩) rfl (List.range 49) (HW_all Y h a S O) rng_nd49 rfl (Nat.le_of_ble_eq_true rfl) dL_refused_258 ⟨by show _ ≤ 201; omega, by show _ ≤ 1206; omega⟩) (List.range 49) [] (HW_all Y h a S O) rfl (by decide) (by decide) (fun r258 u258 hw258 => ?_)
                                              subst hw258
                                              refine J_eq (pc' := 261) (lv' := [(7, .int (nI 0)), (0, .ref (h 0)), (1, .long (prF (stD S))), (3, .int (nI (dX (stD S) 1))), (4, .int (nI 1)), (5, .int (nI 1)), (6, .int (nI k))]) (st' := [.int ((-5000001))]) (ws' := HW Y h a S O) rfl rfl rfl rfl ?_
                                              refine J_ldc C dL_refused_261 (v := (-5000001)) w0 ?_
                                              refine J_icmp_ne (tgt := 339) C dL_refused_263 (by decide) (fun cq263 => ?_) (fun cq263 => ?_)
                                              · exact absurd rfl cq263
                                              · refine J_aload_n C dL_refused_266 rfl 1 rfl ?_
                                                refine J_iload C dL_refused_267 6 rfl ?_
                                                refine J_sipush C dL_refused_269 (v := nI 256) (by decide) ?_
                                                refine J_iconst C dL_refused_272 (v := nI 1) (by decide) ?_
                                                refine J_top (y := .int (p2i (True))) ((congrArg Value.int (p2i_t trivial)).symm) ?_
                                                refine J_callI (wr := []) C (R_H (st := []) (wc := HW Y h a S O) C hXS (kW_ask_x2 ll Y hl0 h a S O b k (nI 256) True (hG) (by omega) (by first | assumption | omega) (Or.inr (by decide +kernel))) (vx_cwSW 4 C.t gL_refused_L_ask rfl rfl rfl (by decide +kernel) ⟨by decide, by decide⟩) rfl (List.range 49) (HW_all Y h a S O) rng_nd49 rfl (Nat.le_of_ble_eq_true rfl) dL_refused_273 ⟨by show _ ≤ 201; omega, by show _ ≤ 1206; omega⟩) (List.range 49) [] (HW_all Y h a S O) rfl (by decide) (by decide) (fun r273 u273 hw273 => ?_)
                                                subst hw273
                                                refine J_eq (pc' := 276) (lv' := [(7, .int (nI 0)), (0, .ref (h 0)), (1, .long (prF (stD S))), (3, .int (nI (dX (stD S) 1))), (4, .int (nI 1)), (5, .int (nI 1)), (6, .int (nI k))]) (st' := [.int ((-5000001))]) (ws' := HW Y h a S O) rfl rfl rfl rfl ?_
                                                refine J_ldc C dL_refused_276 (v := (-5000001)) w0 ?_
                                                refine J_icmp_ne (tgt := 339) C dL_refused_278 (by decide) (fun cq278 => ?_) (fun cq278 => ?_)
                                                · exact absurd rfl cq278
                                                · refine J_aload_n C dL_refused_281 rfl 1 rfl ?_
                                                  refine J_iload C dL_refused_282 6 rfl ?_
                                                  refine J_bipush C dL_refused_284 (v := nI 8) (by decide) ?_
                                                  refine J_callI (wr := []) C (R_H (st := []) (wc := HW Y h a S O) C hXS (kW_prove_x1 ll Y hl0 h a S O b (nI k) (nI 8) (hG) (by omega) (Or.inr (Or.inr (Or.inr (by decide +kernel))))) (vx_cwSW 3 C.t gL_refused_L_prove rfl rfl rfl (by decide +kernel) ⟨by decide, by decide⟩) rfl (List.range 49) (HW_all Y h a S O) rng_nd49 rfl (Nat.le_of_ble_eq_true rfl) dL_refused_286 ⟨by show _ ≤ 201; omega, by show _ ≤ 1206; omega⟩) (List.range 49) [] (HW_all Y h a S O) rfl (by decide) (by decide) (fun r286 u286 hw286 => ?_)
                                                  subst hw286
                                                  refine J_eq (pc' := 289) (lv' := [(7, .int (nI 0)), (0, .ref (h 0)), (1, .long (prF (stD S))), (3, .int (nI (dX (stD S) 1))), (4, .int (nI 1)), (5, .int (nI 1)), (6, .int (nI k))]) (st' := [.int ((-5000003))]) (ws' := HW Y h a S O) rfl rfl rfl rfl ?_
                                                  refine J_ldc C dL_refused_289 (v := (-5000003)) w2 ?_
                                                  refine J_icmp_ne (tgt := 339) C dL_refused_291 (by decide) (fun cq291 => ?_) (fun cq291 => ?_)
                                                  · exact absurd rfl cq291
                                                  · refine J_iload C dL_refused_294 0 rfl ?_
                                                    refine J_if_neN (tgt := 335) C dL_refused_296 (by decide) (by omega) (fun cq296 => ?_) (fun cq296 => ?_)
                                                    · exact absurd cq296 (by omega)
                                                    · refine J_aload_n C dL_refused_299 rfl 1 rfl ?_
                                                      refine J_iload C dL_refused_300 6 rfl ?_
                                                      refine J_iconst C dL_refused_302 (v := nI 1) (by decide) ?_
                                                      refine J_iconst C dL_refused_303 (v := nI 0) (by decide) ?_
                                                      refine J_top (y := .int (p2i (False))) ((congrArg Value.int (p2i_f (fun z => z))).symm) ?_
                                                      refine J_callI (wr := []) C (R_H (st := []) (wc := HW Y h a S O) C hXS (kW_ask_x3 ll Y hl0 h a S O b k 1 False (hG) (by omega) (by first | assumption | omega) (⟨by decide, by decide⟩) (fun z => cq243 z.1.2.2)) (vx_cwSW 4 C.t gL_refused_L_ask rfl rfl rfl (by decide +kernel) ⟨by decide, by decide⟩) rfl (List.range 49) (HW_all Y h a S O) rng_nd49 rfl (Nat.le_of_ble_eq_true rfl) dL_refused_304 ⟨by show _ ≤ 201; omega, by show _ ≤ 1206; omega⟩) (List.range 49) [] (HW_all Y h a S O) rfl (by decide) (by decide) (fun r304 u304 hw304 => ?_)
                                                      subst hw304
                                                      refine J_eq (pc' := 307) (lv' := [(7, .int (nI 0)), (0, .ref (h 0)), (1, .long (prF (stD S))), (3, .int (nI (dX (stD S) 1))), (4, .int (nI 1)), (5, .int (nI 1)), (6, .int (nI k))]) (st' := [.int ((-5000002))]) (ws' := HW Y h a S O) rfl rfl rfl rfl ?_
                                                      refine J_ldc C dL_refused_307 (v := (-5000002)) w3 ?_
                                                      refine J_icmp_ne (tgt := 339) C dL_refused_309 (by decide) (fun cq309 => ?_) (fun cq309 => ?_)
                                                      · exact absurd rfl cq309
                                                      · refine J_aload_n C dL_refused_312 rfl 1 rfl ?_
                                                        refine J_iload C dL_refused_313 6 rfl ?_
                                                        refine J_iconst C dL_refused_315 (v := nI 0) (by decide) ?_
                                                        refine J_callI (wr := []) C (R_H (st := []) (wc := HW Y h a S O) C hXS (kW_prove_x2 ll Y hl0 h a S O b k 0 (hG) (by omega) (by first | assumption | omega) (by decide) (fun z => cq243 z.2.2)) (vx_cwSW 3 C.t gL_refused_L_prove rfl rfl rfl (by decide +kernel) ⟨by decide, by decide⟩) rfl (List.range 49) (HW_all Y h a S O) rng_nd49 rfl (Nat.le_of_ble_eq_true rfl) dL_refused_316 ⟨by show _ ≤ 201; omega, by show _ ≤ 1206; omega⟩) (List.range 49) [] (HW_all Y h a S O) rfl (by decide) (by decide) (fun r316 u316 hw316 => ?_)
                                                        subst hw316
                                                        refine J_eq (pc' := 319) (lv' := [(7, .int (nI 0)), (0, .ref (h 0)), (1, .long (prF (stD S))), (3, .int (nI (dX (stD S) 1))), (4, .int (nI 1)), (5, .int (nI 1)), (6, .int (nI k))]) (st' := [.int ((-5000002))]) (ws' := HW Y h a S O) rfl rfl rfl rfl ?_
                                                        refine J_ldc C dL_refused_319 (v := (-5000002)) w3 ?_
                                                        refine J_icmp_ne (tgt := 339) C dL_refused_321 (by decide) (fun cq321 => ?_) (fun cq321 => ?_)
                                                        · exact absurd rfl cq321
                                                        · refine J_aload_n C dL_refused_324 rfl 1 rfl ?_
                                                          refine J_iload C dL_refused_325 6 rfl ?_
                                                          refine J_callI (wr := []) C (R_H (st := []) (wc := HW Y h a S O) C hXS (kW_leave_x2 ll Y hl0 h a S O b k (hG) (by omega) (by first | assumption | omega) (fun z => cq243 z.2.2)) (vx_cwSW 2 C.t gL_refused_L_leave rfl rfl rfl (by decide +kernel) ⟨by decide, by decide⟩) rfl (List.range 49) (HW_all Y h a S O) rng_nd49 rfl (Nat.le_of_ble_eq_true rfl) dL_refused_327 ⟨by show _ ≤ 201; omega, by show _ ≤ 1206; omega⟩) (List.range 49) [] (HW_all Y h a S O) rfl (by decide) (by decide) (fun r327 u327 hw327 => ?_)
                                                          subst hw327
                                                          refine J_eq (pc' := 330) (lv' := [(7, .int (nI 0)), (0, .ref (h 0)), (1, .long (prF (stD S))), (3, .int (nI (dX (stD S) 1))), (4, .int (nI 1)), (5, .int (nI 1)), (6, .int (nI k))]) (st' := [.int ((-5000002))]) (ws' := HW Y h a S O) rfl rfl rfl rfl ?_
                                                          refine J_ldc C dL_refused_330 (v := (-5000002)) w3 ?_
                                                          refine J_icmp_ne (tgt := 339) C dL_refused_332 (by decide) (fun cq332 => ?_) (fun cq332 => ?_)
                                                          · exact absurd rfl cq332
                                                          · refine J_iconst C dL_refused_335 (v := nI 1) (by decide) ?_
                                                            refine J_goto (tgt := 340) C dL_refused_336 (by decide) ?_
                                                            refine J_istore (lv' := [(5, .int (nI 1)), (7, .int (nI 0)), (0, .ref (h 0)), (1, .long (prF (stD S))), (3, .int (nI (dX (stD S) 1))), (4, .int (nI 1)), (6, .int (nI k))]) C dL_refused_340 (by decide) rfl ?_
                                                            refine J_iinc (j := 6) (v := nI (k + 1)) (lv' := [(6, .int (nI (k + 1))), (5, .int (nI 1)), (7, .int (nI 0)), (0, .ref (h 0)), (1, .long (prF (stD S))), (3, .int (nI (dX (stD S) 1))), (4, .int (nI 1))]) C dL_refused_342 rfl (nI_1 _) (by decide) rfl ?_
                                                            refine J_goto (tgt := 219) C dL_refused_345 (by decide) ?_
                                                            refine J_wd (k' := 96 + 6 * (k + 1)) (n' := 576 + 36 * (k + 1)) (by omega) (by omega) ?_
                                                            refine J_lv (lv' := [(0, .ref (h 0)), (1, .long (prF (stD S))), (3, .int (nI (dX (stD S) 1))), (4, .int (nI 1)), (5, .int (nI 1)), (6, .int (nI (k + 1)))]) [3, 4, 5, 6, 1, 0] rfl ?_
                                                            exact ih219 (k + 1) (by omega) (show dX (stD S) 1 - (k + 1) < dX (stD S) 1 - k from by omega)
                                            · refine J_iconst C dL_refused_246 (v := nI 1) (by decide) ?_
                                              refine J_goto (tgt := 251) C dL_refused_247 (by decide) ?_
                                              refine J_istore (lv' := [(7, .int (nI 1)), (0, .ref (h 0)), (1, .long (prF (stD S))), (3, .int (nI (dX (stD S) 1))), (4, .int (nI 1)), (5, .int (nI 1)), (6, .int (nI k))]) C dL_refused_251 (by decide) rfl ?_
                                              refine J_aload_n C dL_refused_253 rfl 1 rfl ?_
                                              refine J_iload C dL_refused_254 6 rfl ?_
                                              refine J_iconst C dL_refused_256 (v := nI 0) (by decide) ?_
                                              refine J_iconst C dL_refused_257 (v := nI 0) (by decide) ?_
                                              refine J_top (y := .int (p2i (False))) ((congrArg Value.int (p2i_f (fun z => z))).symm) ?_
                                              refine J_callI (wr := []) C (R_H (st := []) (wc := HW Y h a S O) C hXS (kW_ask_x2 ll Y hl0 h a S O b k (nI 0) False (hG) (by omega) (by first | assumption | omega) (Or.inl (by decide +kernel))) (vx_cwSW 4 C.t gL_refused_L_ask rfl rfl rfl (by decide +kernel) ⟨by decide, by decide⟩) rfl (List.range 49) (HW_all Y h a S O) rng_nd49 rfl (Nat.le_of_ble_eq_true rfl) dL_refused_258 ⟨by show _ ≤ 201; omega, by show _ ≤ 1206; omega⟩) (List.range 49) [] (HW_all Y h a S O) rfl (by decide) (by decide) (fun r258 u258 hw258 => ?_)
                                              subst hw258
                                              refine J_eq (pc' := 261) (lv' := [(7, .int (nI 1)), (0, .ref (h 0)), (1, .long (prF (stD S))), (3, .int (nI (dX (stD S) 1))), (4, .int (nI 1)), (5, .int (nI 1)), (6, .int (nI k))]) (st' := [.int ((-5000001))]) (ws' := HW Y h a S O) rfl rfl rfl rfl ?_
                                              refine J_ldc C dL_refused_261 (v := (-5000001)) w0 ?_
                                              refine J_icmp_ne (tgt := 339) C dL_refused_263 (by decide) (fun cq263 => ?_) (fun cq263 => ?_)
                                              · exact absurd rfl cq263
                                              · refine J_aload_n C dL_refused_266 rfl 1 rfl ?_
                                                refine J_iload C dL_refused_267 6 rfl ?_
                                                refine J_sipush C dL_refused_269 (v := nI 256) (by decide) ?_
                                                refine J_iconst C dL_refused_272 (v := nI 1) (by decide) ?_
                                                refine J_top (y := .int (p2i (True))) ((congrArg Value.int (p2i_t trivial)).symm) ?_
                                                refine J_callI (wr := []) C (R_H (st := []) (wc := HW Y h a S O) C hXS (kW_ask_x2 ll Y hl0 h a S O b k (nI 256) True (hG) (by omega) (by first | assumption | omega) (Or.inr (by decide +kernel))) (vx_cwSW 4 C.t gL_refused_L_ask rfl rfl rfl (by decide +kernel) ⟨by decide, by decide⟩) rfl (List.range 49) (HW_all Y h a S O) rng_nd49 rfl (Nat.le_of_ble_eq_true rfl) dL_refused_273 ⟨by show _ ≤ 201; omega, by show _ ≤ 1206; omega⟩) (List.range 49) [] (HW_all Y h a S O) rfl (by decide) (by decide) (fun r273 u273 hw273 => ?_)
                                                subst hw273
                                                refine J_eq (pc' := 276) (lv' := [(7, .int (nI 1)), (0, .ref (h 0)), (1, .long (prF (stD S))), (3, .int (nI (dX (stD S) 1))), (4, .int (nI 1)), (5, .int (nI 1)), (6, .int (nI k))]) (st' := [.int ((-5000001))]) (ws' := HW Y h a S O) rfl rfl rfl rfl ?_
                                                refine J_ldc C dL_refused_276 (v := (-5000001)) w0 ?_
                                                refine J_icmp_ne (tgt := 339) C dL_refused_278 (by decide) (fun cq278 => ?_) (fun cq278 => ?_)
                                                · exact absurd rfl cq278
                                                · refine J_aload_n C dL_refused_281 rfl 1 rfl ?_
                                                  refine J_iload C dL_refused_282 6 rfl ?_
                                                  refine J_bipush C dL_refused_284 (v := nI 8) (by decide) ?_
                                                  refine J_callI (wr := []) C (R_H (st := []) (wc := HW Y h a S O) C hXS (kW_prove_x1 ll Y hl0 h a S O b (nI k) (nI 8) (hG) (by omega) (Or.inr (Or.inr (Or.inr (by decide +kernel))))) (vx_cwSW 3 C.t gL_refused_L_prove rfl rfl rfl (by decide +kernel) ⟨by decide, by decide⟩) rfl (List.range 49) (HW_all Y h a S O) rng_nd49 rfl (Nat.le_of_ble_eq_true rfl) dL_refused_286 ⟨by show _ ≤ 201; omega, by show _ ≤ 1206; omega⟩) (List.range 49) [] (HW_all Y h a S O) rfl (by decide) (by decide) (fun r286 u286 hw286 => ?_)
                                                  subst hw286
                                                  refine J_eq (pc' := 289) (lv' := [(7, .int (nI 1)), (0, .ref (h 0)), (1, .long (prF (stD S))), (3, .int (nI (dX (stD S) 1))), (4, .int (nI 1)), (5, .int (nI 1)), (6, .int (nI k))]) (st' := [.int ((-5000003))]) (ws' := HW Y h a S O) rfl rfl rfl rfl ?_
                                                  refine J_ldc C dL_refused_289 (v := (-5000003)) w2 ?_
                                                  refine J_icmp_ne (tgt := 339) C dL_refused_291 (by decide) (fun cq291 => ?_) (fun cq291 => ?_)
                                                  · exact absurd rfl cq291
                                                  · refine J_iload C dL_refused_294 0 rfl ?_
                                                    refine J_if_neN (tgt := 335) C dL_refused_296 (by decide) (by omega) (fun cq296 => ?_) (fun cq296 => ?_)
                                                    · refine J_iconst C dL_refused_335 (v := nI 1) (by decide) ?_
                                                      refine J_goto (tgt := 340) C dL_refused_336 (by decide) ?_
                                                      refine J_istore (lv' := [(5, .int (nI 1)), (7, .int (nI 1)), (0, .ref (h 0)), (1, .long (prF (stD S))), (3, .int (nI (dX (stD S) 1))), (4, .int (nI 1)), (6, .int (nI k))]) C dL_refused_340 (by decide) rfl ?_
                                                      refine J_iinc (j := 6) (v := nI (k + 1)) (lv' := [(6, .int (nI (k + 1))), (5, .int (nI 1)), (7, .int (nI 1)), (0, .ref (h 0)), (1, .long (prF (stD S))), (3, .int (nI (dX (stD S) 1))), (4, .int (nI 1))]) C dL_refused_342 rfl (nI_1 _) (by decide) rfl ?_
                                                      refine J_goto (tgt := 219) C dL_refused_345 (by decide) ?_
                                                      refine J_wd (k' := 96 + 6 * (k + 1)) (n' := 576 + 36 * (k + 1)) (by omega) (by omega) ?_
                                                      refine J_lv (lv' := [(0, .ref (h 0)), (1, .long (prF (stD S))), (3, .int (nI (dX (stD S) 1))), (4, .int (nI 1)), (5, .int (nI 1)), (6, .int (nI (k + 1)))]) [3, 4, 5, 6, 1, 0] rfl ?_
                                                      exact ih219 (k + 1) (by omega) (show dX (stD S) 1 - (k + 1) < dX (stD S) 1 - k from by omega)
                                                    · exact absurd cq296 (by omega)
  · have hn4 := EI_4 (G_E hG)
    have hm20 := EI_12 (G_E hG)
    refine J_aload_n C dL_refused_0 rfl 0 rfl ?_
    refine J_callL (wr := []) C (R_P (st := []) (wc := HW Y h a S O) C hXS (kO_print ll Y hl0 h a S O b (hG) (by omega)) (va_cwS 1 C.t gL_refused_L_print rfl rfl rfl (by decide +kernel) ⟨by decide, by decide⟩) rfl (List.range 49) (HW_all Y h a S O) rng_nd49 rfl (Nat.le_of_ble_eq_true rfl) dL_refused_1 ⟨by show _ ≤ 201; omega, by show _ ≤ 1206; omega⟩) (List.range 49) [] (HW_all Y h a S O) rfl (by decide) (by decide) (fun r1 u1 hw1 => ?_)
    subst hw1
    refine J_eq (pc' := 4) (lv' := [(0, .ref (h 0))]) (st' := [.long (prF (stD S))]) (ws' := HW Y h a S O) rfl rfl rfl rfl ?_
    refine J_lstore_n (lv' := [(1, .long (prF (stD S))), (0, .ref (h 0))]) C dL_refused_4 rfl (by decide) rfl ?_
    refine J_aload_n C dL_refused_5 rfl 1 rfl ?_
    refine J_iconst C dL_refused_6 (v := nI 0) (by decide) ?_
    refine J_callI (wr := []) C (R_H (st := []) (wc := HW Y h a S O) C hXS (kW_value ll Y hl0 h a S O b 0 (hG) (by omega) (by decide)) (vx_cwSW 2 C.t gL_refused_L_value rfl rfl rfl (by decide +kernel) ⟨by decide, by decide⟩) rfl (List.range 49) (HW_all Y h a S O) rng_nd49 rfl (Nat.le_of_ble_eq_true rfl) dL_refused_7 ⟨by show _ ≤ 201; omega, by show _ ≤ 1206; omega⟩) (List.range 49) [] (HW_all Y h a S O) rfl (by decide) (by decide) (fun r7 u7 hw7 => ?_)
    subst hw7
    refine J_eq (pc' := 10) (lv' := [(1, .long (prF (stD S))), (0, .ref (h 0))]) (st' := [.int (nI (abH (dX (stD S)) 0))]) (ws' := HW Y h a S O) rfl rfl rfl rfl ?_
    refine J_top (y := .int (nI (dX (stD S) 1))) (rfl) ?_
    refine J_istore_n (lv' := [(3, .int (nI (dX (stD S) 1))), (1, .long (prF (stD S))), (0, .ref (h 0))]) C dL_refused_10 rfl (by decide) rfl ?_
    refine J_aload_n C dL_refused_11 rfl 2 rfl ?_
    refine J_iconst C dL_refused_12 (v := nI 1) (by decide) ?_
    refine J_callI (wr := []) C (R_H (st := []) (wc := HW Y h a S O) C hXS (kW_value ll Y hl0 h a S O b 1 (hG) (by omega) (by decide)) (vx_cwSW 2 C.t gL_refused_L_value rfl rfl rfl (by decide +kernel) ⟨by decide, by decide⟩) rfl (List.range 49) (HW_all Y h a S O) rng_nd49 rfl (Nat.le_of_ble_eq_true rfl) dL_refused_13 ⟨by show _ ≤ 201; omega, by show _ ≤ 1206; omega⟩) (List.range 49) [] (HW_all Y h a S O) rfl (by decide) (by decide) (fun r13 u13 hw13 => ?_)
    subst hw13
    refine J_eq (pc' := 16) (lv' := [(3, .int (nI (dX (stD S) 1))), (1, .long (prF (stD S))), (0, .ref (h 0))]) (st' := [.int (nI (abH (dX (stD S)) 1))]) (ws' := HW Y h a S O) rfl rfl rfl rfl ?_
    refine J_top (y := .int (nI 0)) (by rw [show abH (dX (stD S)) 1 = dX (stD S) 2 from rfl, hgo]) ?_
    refine J_iconst C dL_refused_16 (v := nI 1) (by decide) ?_
    refine J_icmp_neN (tgt := 24) C dL_refused_17 (by decide) (by omega) (by omega) (fun cq17 => ?_) (fun cq17 => ?_)
    · refine J_iconst C dL_refused_24 (v := nI 0) (by decide) ?_
      refine J_istore (lv' := [(4, .int (nI 0)), (3, .int (nI (dX (stD S) 1))), (1, .long (prF (stD S))), (0, .ref (h 0))]) C dL_refused_25 (by decide) rfl ?_
      refine J_aload_n C dL_refused_27 rfl 3 rfl ?_
      refine J_iconst C dL_refused_28 (v := nI 2) (by decide) ?_
      refine J_iconst C dL_refused_29 (v := nI 0) (by decide) ?_
      refine J_callI (wr := []) C (R_H (st := []) (wc := HW Y h a S O) C hXS (kW_begin_x1 ll Y hl0 h a S O b (nI 2) (nI 0) (hG) (by omega) (Or.inl (by decide +kernel))) (vx_cwSW 3 C.t gL_refused_L_begin rfl rfl rfl (by decide +kernel) ⟨by decide, by decide⟩) rfl (List.range 49) (HW_all Y h a S O) rng_nd49 rfl (Nat.le_of_ble_eq_true rfl) dL_refused_30 ⟨by show _ ≤ 201; omega, by show _ ≤ 1206; omega⟩) (List.range 49) [] (HW_all Y h a S O) rfl (by decide) (by decide) (fun r30 u30 hw30 => ?_)
      subst hw30
      refine J_eq (pc' := 33) (lv' := [(4, .int (nI 0)), (3, .int (nI (dX (stD S) 1))), (1, .long (prF (stD S))), (0, .ref (h 0))]) (st' := [.int ((-5000001))]) (ws' := HW Y h a S O) rfl rfl rfl rfl ?_
      refine J_ldc C dL_refused_33 (v := (-5000001)) w0 ?_
      refine J_icmp_ne (tgt := 213) C dL_refused_35 (by decide) (fun cq35 => ?_) (fun cq35 => ?_)
      · exact absurd rfl cq35
      · refine J_aload_n C dL_refused_38 rfl 3 rfl ?_
        refine J_iconst C dL_refused_39 (v := nI 3) (by decide) ?_
        refine J_ldc C dL_refused_40 (v := nI 1000000) w1 ?_
        refine J_callI (wr := []) C (R_H (st := []) (wc := HW Y h a S O) C hXS (kW_begin_x1 ll Y hl0 h a S O b (nI 3) (nI 1000000) (hG) (by omega) (Or.inr (Or.inr (Or.inr (by decide +kernel))))) (vx_cwSW 3 C.t gL_refused_L_begin rfl rfl rfl (by decide +kernel) ⟨by decide, by decide⟩) rfl (List.range 49) (HW_all Y h a S O) rng_nd49 rfl (Nat.le_of_ble_eq_true rfl) dL_refused_42 ⟨by show _ ≤ 201; omega, by show _ ≤ 1206; omega⟩) (List.range 49) [] (HW_all Y h a S O) rfl (by decide) (by decide) (fun r42 u42 hw42 => ?_)
        subst hw42
        refine J_eq (pc' := 45) (lv' := [(4, .int (nI 0)), (3, .int (nI (dX (stD S) 1))), (1, .long (prF (stD S))), (0, .ref (h 0))]) (st' := [.int ((-5000001))]) (ws' := HW Y h a S O) rfl rfl rfl rfl ?_
        refine J_ldc C dL_refused_45 (v := (-5000001)) w0 ?_
        refine J_icmp_ne (tgt := 213) C dL_refused_47 (by decide) (fun cq47 => ?_) (fun cq47 => ?_)
        · exact absurd rfl cq47
        · refine J_aload_n C dL_refused_50 rfl 3 rfl ?_
          refine J_iconst C dL_refused_51 (v := nI 4) (by decide) ?_
          refine J_bipush C dL_refused_52 (v := iZ ((-2))) (by decide) ?_
          refine J_callI (wr := []) C (R_H (st := []) (wc := HW Y h a S O) C hXS (kW_begin_x1 ll Y hl0 h a S O b (nI 4) (iZ ((-2))) (hG) (by omega) (Or.inr (Or.inr (Or.inl (by decide +kernel))))) (vx_cwSW 3 C.t gL_refused_L_begin rfl rfl rfl (by decide +kernel) ⟨by decide, by decide⟩) rfl (List.range 49) (HW_all Y h a S O) rng_nd49 rfl (Nat.le_of_ble_eq_true rfl) dL_refused_54 ⟨by show _ ≤ 201; omega, by show _ ≤ 1206; omega⟩) (List.range 49) [] (HW_all Y h a S O) rfl (by decide) (by decide) (fun r54 u54 hw54 => ?_)
          subst hw54
          refine J_eq (pc' := 57) (lv' := [(4, .int (nI 0)), (3, .int (nI (dX (stD S) 1))), (1, .long (prF (stD S))), (0, .ref (h 0))]) (st' := [.int ((-5000001))]) (ws' := HW Y h a S O) rfl rfl rfl rfl ?_
          refine J_ldc C dL_refused_57 (v := (-5000001)) w0 ?_
          refine J_icmp_ne (tgt := 213) C dL_refused_59 (by decide) (fun cq59 => ?_) (fun cq59 => ?_)
          · exact absurd rfl cq59
          · refine J_aload_n C dL_refused_62 rfl 3 rfl ?_
            refine J_iload_n C dL_refused_63 rfl 1 rfl ?_
            refine J_iconst C dL_refused_64 (v := nI 1) (by decide) ?_
            refine J_iconst C dL_refused_65 (v := nI 0) (by decide) ?_
            refine J_top (y := .int (p2i (False))) ((congrArg Value.int (p2i_f (fun z => z))).symm) ?_
            refine J_callI (wr := []) C (R_H (st := []) (wc := HW Y h a S O) C hXS (kW_ask_x1 ll Y hl0 h a S O b (nI (dX (stD S) 1)) (nI 1) False (hG) (by omega) (oor (by omega) (Nat.le_refl _))) (vx_cwSW 4 C.t gL_refused_L_ask rfl rfl rfl (by decide +kernel) ⟨by decide, by decide⟩) rfl (List.range 49) (HW_all Y h a S O) rng_nd49 rfl (Nat.le_of_ble_eq_true rfl) dL_refused_66 ⟨by show _ ≤ 201; omega, by show _ ≤ 1206; omega⟩) (List.range 49) [] (HW_all Y h a S O) rfl (by decide) (by decide) (fun r66 u66 hw66 => ?_)
            subst hw66
            refine J_eq (pc' := 69) (lv' := [(4, .int (nI 0)), (3, .int (nI (dX (stD S) 1))), (1, .long (prF (stD S))), (0, .ref (h 0))]) (st' := [.int ((-5000003))]) (ws' := HW Y h a S O) rfl rfl rfl rfl ?_
            refine J_ldc C dL_refused_69 (v := (-5000003)) w2 ?_
            refine J_icmp_ne (tgt := 213) C dL_refused_71 (by decide) (fun cq71 => ?_) (fun cq71 => ?_)
            · exact absurd rfl cq71
            · refine J_aload_n C dL_refused_74 rfl 3 rfl ?_
              refine J_iload_n C dL_refused_75 rfl 1 rfl ?_
              refine J_iconst C dL_refused_76 (v := nI 0) (by decide) ?_
              refine J_callI (wr := []) C (R_H (st := []) (wc := HW Y h a S O) C hXS (kW_prove_x1 ll Y hl0 h a S O b (nI (dX (stD S) 1)) (nI 0) (hG) (by omega) (oor2 (by omega) (Nat.le_refl _))) (vx_cwSW 3 C.t gL_refused_L_prove rfl rfl rfl (by decide +kernel) ⟨by decide, by decide⟩) rfl (List.range 49) (HW_all Y h a S O) rng_nd49 rfl (Nat.le_of_ble_eq_true rfl) dL_refused_77 ⟨by show _ ≤ 201; omega, by show _ ≤ 1206; omega⟩) (List.range 49) [] (HW_all Y h a S O) rfl (by decide) (by decide) (fun r77 u77 hw77 => ?_)
              subst hw77
              refine J_eq (pc' := 80) (lv' := [(4, .int (nI 0)), (3, .int (nI (dX (stD S) 1))), (1, .long (prF (stD S))), (0, .ref (h 0))]) (st' := [.int ((-5000003))]) (ws' := HW Y h a S O) rfl rfl rfl rfl ?_
              refine J_ldc C dL_refused_80 (v := (-5000003)) w2 ?_
              refine J_icmp_ne (tgt := 213) C dL_refused_82 (by decide) (fun cq82 => ?_) (fun cq82 => ?_)
              · exact absurd rfl cq82
              · refine J_aload_n C dL_refused_85 rfl 3 rfl ?_
                refine J_iconst C dL_refused_86 (v := iZ ((-1))) (by decide) ?_
                refine J_callI (wr := []) C (R_H (st := []) (wc := HW Y h a S O) C hXS (kW_leave_x1 ll Y hl0 h a S O b (iZ ((-1))) (hG) (by omega) (Or.inl (by decide +kernel))) (vx_cwSW 2 C.t gL_refused_L_leave rfl rfl rfl (by decide +kernel) ⟨by decide, by decide⟩) rfl (List.range 49) (HW_all Y h a S O) rng_nd49 rfl (Nat.le_of_ble_eq_true rfl) dL_refused_87 ⟨by show _ ≤ 201; omega, by show _ ≤ 1206; omega⟩) (List.range 49) [] (HW_all Y h a S O) rfl (by decide) (by decide) (fun r87 u87 hw87 => ?_)
                subst hw87
                refine J_eq (pc' := 90) (lv' := [(4, .int (nI 0)), (3, .int (nI (dX (stD S) 1))), (1, .long (prF (stD S))), (0, .ref (h 0))]) (st' := [.int ((-5000003))]) (ws' := HW Y h a S O) rfl rfl rfl rfl ?_
                refine J_ldc C dL_refused_90 (v := (-5000003)) w2 ?_
                refine J_icmp_ne (tgt := 213) C dL_refused_92 (by decide) (fun cq92 => ?_) (fun cq92 => ?_)
                · exact absurd rfl cq92
                · refine J_aload_n C dL_refused_95 rfl 3 rfl ?_
                  refine J_bipush C dL_refused_96 (v := nI 8) (by decide) ?_
                  refine J_callI (wr := []) C (R_H (st := []) (wc := HW Y h a S O) C hXS (kW_accuse_x1 ll Y hl0 h a S O b (nI 8) (hG) (by omega) (Or.inr (by decide +kernel))) (vx_cwSW 2 C.t gL_refused_L_accuse rfl rfl rfl (by decide +kernel) ⟨by decide, by decide⟩) rfl (List.range 49) (HW_all Y h a S O) rng_nd49 rfl (Nat.le_of_ble_eq_true rfl) dL_refused_98 ⟨by show _ ≤ 201; omega, by show _ ≤ 1206; omega⟩) (List.range 49) [] (HW_all Y h a S O) rfl (by decide) (by decide) (fun r98 u98 hw98 => ?_)
                  subst hw98
                  refine J_eq (pc' := 101) (lv' := [(4, .int (nI 0)), (3, .int (nI (dX (stD S) 1))), (1, .long (prF (stD S))), (0, .ref (h 0))]) (st' := [.int ((-5000003))]) (ws' := HW Y h a S O) rfl rfl rfl rfl ?_
                  refine J_ldc C dL_refused_101 (v := (-5000003)) w2 ?_
                  refine J_icmp_ne (tgt := 213) C dL_refused_103 (by decide) (fun cq103 => ?_) (fun cq103 => ?_)
                  · exact absurd rfl cq103
                  · refine J_aload_n C dL_refused_106 rfl 3 rfl ?_
                    refine J_iload_n C dL_refused_107 rfl 1 rfl ?_
                    refine J_iconst C dL_refused_108 (v := nI 0) (by decide) ?_
                    refine J_callI (wr := []) C (R_H (st := []) (wc := HW Y h a S O) C hXS (kW_guest_x1 ll Y hl0 h a S O b (nI (dX (stD S) 1)) (nI 0) (hG) (by omega) (oor (by omega) (Nat.le_refl _))) (vx_cwSW 3 C.t gL_refused_L_guest rfl rfl rfl (by decide +kernel) ⟨by decide, by decide⟩) rfl (List.range 49) (HW_all Y h a S O) rng_nd49 rfl (Nat.le_of_ble_eq_true rfl) dL_refused_109 ⟨by show _ ≤ 201; omega, by show _ ≤ 1206; omega⟩) (List.range 49) [] (HW_all Y h a S O) rfl (by decide) (by decide) (fun r109 u109 hw109 => ?_)
                    subst hw109
                    refine J_eq (pc' := 112) (lv' := [(4, .int (nI 0)), (3, .int (nI (dX (stD S) 1))), (1, .long (prF (stD S))), (0, .ref (h 0))]) (st' := [.int ((-5000003))]) (ws' := HW Y h a S O) rfl rfl rfl rfl ?_
                    refine J_ldc C dL_refused_112 (v := (-5000003)) w2 ?_
                    refine J_icmp_ne (tgt := 213) C dL_refused_114 (by decide) (fun cq114 => ?_) (fun cq114 => ?_)
                    · exact absurd rfl cq114
                    · refine J_aload_n C dL_refused_117 rfl 3 rfl ?_
                      refine J_bipush C dL_refused_118 (v := nI 10) (by decide) ?_
                      refine J_callI (wr := []) C (R_H (st := []) (wc := HW Y h a S O) C hXS (kW_value_x1 ll Y hl0 h a S O b (nI 10) (hG) (by omega) (Or.inr (by decide +kernel))) (vx_cwSW 2 C.t gL_refused_L_value rfl rfl rfl (by decide +kernel) ⟨by decide, by decide⟩) rfl (List.range 49) (HW_all Y h a S O) rng_nd49 rfl (Nat.le_of_ble_eq_true rfl) dL_refused_120 ⟨by show _ ≤ 201; omega, by show _ ≤ 1206; omega⟩) (List.range 49) [] (HW_all Y h a S O) rfl (by decide) (by decide) (fun r120 u120 hw120 => ?_)
                      subst hw120
                      refine J_eq (pc' := 123) (lv' := [(4, .int (nI 0)), (3, .int (nI (dX (stD S) 1))), (1, .long (prF (stD S))), (0, .ref (h 0))]) (st' := [.int ((-5000001))]) (ws' := HW Y h a S O) rfl rfl rfl rfl ?_
                      refine J_ldc C dL_refused_123 (v := (-5000001)) w0 ?_
                      refine J_icmp_ne (tgt := 213) C dL_refused_125 (by decide) (fun cq125 => ?_) (fun cq125 => ?_)
                      · exact absurd rfl cq125
                      · refine J_aload_n C dL_refused_128 rfl 3 rfl ?_
                        refine J_aload_n C dL_refused_129 rfl 3 rfl ?_
                        refine J_iconst C dL_refused_130 (v := nI 2) (by decide) ?_
                        refine J_callI (wr := []) C (R_H (st := [.ref (h 0)]) (wc := HW Y h a S O) C hXS (kW_value ll Y hl0 h a S O b 2 (hG) (by omega) (by decide)) (vx_cwSW 2 C.t gL_refused_L_value rfl rfl rfl (by decide +kernel) ⟨by decide, by decide⟩) rfl (List.range 49) (HW_all Y h a S O) rng_nd49 rfl (Nat.le_of_ble_eq_true rfl) dL_refused_131 ⟨by show _ ≤ 201; omega, by show _ ≤ 1206; omega⟩) (List.range 49) [] (HW_all Y h a S O) rfl (by decide) (by decide) (fun r131 u131 hw131 => ?_)
                        subst hw131
                        refine J_eq (pc' := 134) (lv' := [(4, .int (nI 0)), (3, .int (nI (dX (stD S) 1))), (1, .long (prF (stD S))), (0, .ref (h 0))]) (st' := [.int (nI (abH (dX (stD S)) 2)), .ref (h 0)]) (ws' := HW Y h a S O) rfl rfl rfl rfl ?_
                        refine J_top (y := .int (nI (dX (stD S) 12))) (rfl) ?_
                        refine J_iconst C dL_refused_134 (v := nI 0) (by decide) ?_
                        refine J_callI (wr := []) C (R_H (st := []) (wc := HW Y h a S O) C hXS (kW_question_x1 ll Y hl0 h a S O b (nI (dX (stD S) 12)) (nI 0) (hG) (by omega) (oor (by omega) (Nat.le_refl _))) (vx_cwSW 3 C.t gL_refused_L_question rfl rfl rfl (by decide +kernel) ⟨by decide, by decide⟩) rfl (List.range 49) (HW_all Y h a S O) rng_nd49 rfl (Nat.le_of_ble_eq_true rfl) dL_refused_135 ⟨by show _ ≤ 201; omega, by show _ ≤ 1206; omega⟩) (List.range 49) [] (HW_all Y h a S O) rfl (by decide) (by decide) (fun r135 u135 hw135 => ?_)
                        subst hw135
                        refine J_eq (pc' := 138) (lv' := [(4, .int (nI 0)), (3, .int (nI (dX (stD S) 1))), (1, .long (prF (stD S))), (0, .ref (h 0))]) (st' := [.int ((-5000003))]) (ws' := HW Y h a S O) rfl rfl rfl rfl ?_
                        refine J_ldc C dL_refused_138 (v := (-5000003)) w2 ?_
                        refine J_icmp_ne (tgt := 213) C dL_refused_140 (by decide) (fun cq140 => ?_) (fun cq140 => ?_)
                        · exact absurd rfl cq140
                        · refine J_aload_n C dL_refused_143 rfl 3 rfl ?_
                          refine J_iconst C dL_refused_144 (v := iZ ((-1))) (by decide) ?_
                          refine J_callI (wr := []) C (R_H (st := []) (wc := HW Y h a S O) C hXS (kW_dealsWith_x1 ll Y hl0 h a S O b (iZ ((-1))) (hG) (by omega) (Or.inl (by decide +kernel))) (vx_cwSW 2 C.t gL_refused_L_dealsWith rfl rfl rfl (by decide +kernel) ⟨by decide, by decide⟩) rfl (List.range 49) (HW_all Y h a S O) rng_nd49 rfl (Nat.le_of_ble_eq_true rfl) dL_refused_145 ⟨by show _ ≤ 201; omega, by show _ ≤ 1206; omega⟩) (List.range 49) [] (HW_all Y h a S O) rfl (by decide) (by decide) (fun r145 u145 hw145 => ?_)
                          subst hw145
                          refine J_eq (pc' := 148) (lv' := [(4, .int (nI 0)), (3, .int (nI (dX (stD S) 1))), (1, .long (prF (stD S))), (0, .ref (h 0))]) (st' := [.int ((-5000003))]) (ws' := HW Y h a S O) rfl rfl rfl rfl ?_
                          refine J_ldc C dL_refused_148 (v := (-5000003)) w2 ?_
                          refine J_icmp_ne (tgt := 213) C dL_refused_150 (by decide) (fun cq150 => ?_) (fun cq150 => ?_)
                          · exact absurd rfl cq150
                          · refine J_aload_n C dL_refused_153 rfl 3 rfl ?_
                            refine J_iload_n C dL_refused_154 rfl 1 rfl ?_
                            refine J_iconst C dL_refused_155 (v := nI 0) (by decide) ?_
                            refine J_callI (wr := []) C (R_H (st := []) (wc := HW Y h a S O) C hXS (kW_dealsHeld_x1 ll Y hl0 h a S O b (nI (dX (stD S) 1)) (nI 0) (hG) (by omega) (oor2 (by omega) (Nat.le_refl _))) (vx_cwSW 3 C.t gL_refused_L_dealsHeld rfl rfl rfl (by decide +kernel) ⟨by decide, by decide⟩) rfl (List.range 49) (HW_all Y h a S O) rng_nd49 rfl (Nat.le_of_ble_eq_true rfl) dL_refused_156 ⟨by show _ ≤ 201; omega, by show _ ≤ 1206; omega⟩) (List.range 49) [] (HW_all Y h a S O) rfl (by decide) (by decide) (fun r156 u156 hw156 => ?_)
                            subst hw156
                            refine J_eq (pc' := 159) (lv' := [(4, .int (nI 0)), (3, .int (nI (dX (stD S) 1))), (1, .long (prF (stD S))), (0, .ref (h 0))]) (st' := [.int ((-5000003))]) (ws' := HW Y h a S O) rfl rfl rfl rfl ?_
                            refine J_ldc C dL_refused_159 (v := (-5000003)) w2 ?_
                            refine J_icmp_ne (tgt := 213) C dL_refused_161 (by decide) (fun cq161 => ?_) (fun cq161 => ?_)
                            · exact absurd rfl cq161
                            · refine J_aload_n C dL_refused_164 rfl 3 rfl ?_
                              refine J_iload_n C dL_refused_165 rfl 1 rfl ?_
                              refine J_iconst C dL_refused_166 (v := nI 1) (by decide) ?_
                              refine J_iconst C dL_refused_167 (v := nI 0) (by decide) ?_
                              refine J_callI (wr := []) C (R_H (st := []) (wc := HW Y h a S O) C hXS (kW_dealsIf_x1 ll Y hl0 h a S O b (nI (dX (stD S) 1)) (nI 1) (nI 0) (hG) (by omega) (oor (by omega) (Nat.le_refl _))) (vx_cwSW 4 C.t gL_refused_L_dealsIf rfl rfl rfl (by decide +kernel) ⟨by decide, by decide⟩) rfl (List.range 49) (HW_all Y h a S O) rng_nd49 rfl (Nat.le_of_ble_eq_true rfl) dL_refused_168 ⟨by show _ ≤ 201; omega, by show _ ≤ 1206; omega⟩) (List.range 49) [] (HW_all Y h a S O) rfl (by decide) (by decide) (fun r168 u168 hw168 => ?_)
                              subst hw168
                              refine J_eq (pc' := 171) (lv' := [(4, .int (nI 0)), (3, .int (nI (dX (stD S) 1))), (1, .long (prF (stD S))), (0, .ref (h 0))]) (st' := [.int ((-5000003))]) (ws' := HW Y h a S O) rfl rfl rfl rfl ?_
                              refine J_ldc C dL_refused_171 (v := (-5000003)) w2 ?_
                              refine J_icmp_ne (tgt := 213) C dL_refused_173 (by decide) (fun cq173 => ?_) (fun cq173 => ?_)
                              · exact absurd rfl cq173
                              · refine J_aload_n C dL_refused_176 rfl 3 rfl ?_
                                refine J_iconst C dL_refused_177 (v := iZ ((-1))) (by decide) ?_
                                refine J_iconst C dL_refused_178 (v := nI 1) (by decide) ?_
                                refine J_callI (wr := []) C (R_H (st := []) (wc := HW Y h a S O) C hXS (kW_worst_x1 ll Y hl0 h a S O b (iZ ((-1))) (nI 1) (hG) (by omega) (Or.inl (by decide +kernel))) (vx_cwSW 3 C.t gL_refused_L_worst rfl rfl rfl (by decide +kernel) ⟨by decide, by decide⟩) rfl (List.range 49) (HW_all Y h a S O) rng_nd49 rfl (Nat.le_of_ble_eq_true rfl) dL_refused_179 ⟨by show _ ≤ 201; omega, by show _ ≤ 1206; omega⟩) (List.range 49) [] (HW_all Y h a S O) rfl (by decide) (by decide) (fun r179 u179 hw179 => ?_)
                                subst hw179
                                refine J_eq (pc' := 182) (lv' := [(4, .int (nI 0)), (3, .int (nI (dX (stD S) 1))), (1, .long (prF (stD S))), (0, .ref (h 0))]) (st' := [.int ((-5000003))]) (ws' := HW Y h a S O) rfl rfl rfl rfl ?_
                                refine J_ldc C dL_refused_182 (v := (-5000003)) w2 ?_
                                refine J_icmp_ne (tgt := 213) C dL_refused_184 (by decide) (fun cq184 => ?_) (fun cq184 => ?_)
                                · exact absurd rfl cq184
                                · refine J_aload_n C dL_refused_187 rfl 3 rfl ?_
                                  refine J_iload_n C dL_refused_188 rfl 1 rfl ?_
                                  refine J_callI (wr := []) C (R_H (st := []) (wc := HW Y h a S O) C hXS (kW_bestCards_x1 ll Y hl0 h a S O b (nI (dX (stD S) 1)) (hG) (by omega) (oor (by omega) (Nat.le_refl _))) (vx_cwSW 2 C.t gL_refused_L_bestCards rfl rfl rfl (by decide +kernel) ⟨by decide, by decide⟩) rfl (List.range 49) (HW_all Y h a S O) rng_nd49 rfl (Nat.le_of_ble_eq_true rfl) dL_refused_189 ⟨by show _ ≤ 201; omega, by show _ ≤ 1206; omega⟩) (List.range 49) [] (HW_all Y h a S O) rfl (by decide) (by decide) (fun r189 u189 hw189 => ?_)
                                  subst hw189
                                  refine J_eq (pc' := 192) (lv' := [(4, .int (nI 0)), (3, .int (nI (dX (stD S) 1))), (1, .long (prF (stD S))), (0, .ref (h 0))]) (st' := [.int ((-5000003))]) (ws' := HW Y h a S O) rfl rfl rfl rfl ?_
                                  refine J_ldc C dL_refused_192 (v := (-5000003)) w2 ?_
                                  refine J_icmp_ne (tgt := 213) C dL_refused_194 (by decide) (fun cq194 => ?_) (fun cq194 => ?_)
                                  · exact absurd rfl cq194
                                  · refine J_aload_n C dL_refused_197 rfl 3 rfl ?_
                                    refine J_sipush C dL_refused_198 (v := nI 128) (by decide) ?_
                                    refine J_callI (wr := []) C (R_H (st := []) (wc := HW Y h a S O) C hXS (kW_append_x1 ll Y hl0 h a S O b (nI 128) (hG) (by omega) (Or.inr (by decide +kernel))) (vx_cwSW 2 C.t gL_refused_L_append rfl rfl rfl (by decide +kernel) ⟨by decide, by decide⟩) rfl (List.range 49) (HW_all Y h a S O) rng_nd49 rfl (Nat.le_of_ble_eq_true rfl) dL_refused_201 ⟨by show _ ≤ 201; omega, by show _ ≤ 1206; omega⟩) (List.range 49) [] (HW_all Y h a S O) rfl (by decide) (by decide) (fun r201 u201 hw201 => ?_)
                                    subst hw201
                                    refine J_eq (pc' := 204) (lv' := [(4, .int (nI 0)), (3, .int (nI (dX (stD S) 1))), (1, .long (prF (stD S))), (0, .ref (h 0))]) (st' := [.int ((-5000001))]) (ws' := HW Y h a S O) rfl rfl rfl rfl ?_
                                    refine J_ldc C dL_refused_204 (v := (-5000001)) w0 ?_
                                    refine J_icmp_ne (tgt := 213) C dL_refused_206 (by decide) (fun cq206 => ?_) (fun cq206 => ?_)
                                    · exact absurd rfl cq206
                                    · refine J_iconst C dL_refused_209 (v := nI 1) (by decide) ?_
                                      refine J_goto (tgt := 214) C dL_refused_210 (by decide) ?_
                                      refine J_istore (lv' := [(5, .int (nI 1)), (4, .int (nI 0)), (3, .int (nI (dX (stD S) 1))), (1, .long (prF (stD S))), (0, .ref (h 0))]) C dL_refused_214 (by decide) rfl ?_
                                      refine J_iconst C dL_refused_216 (v := nI 0) (by decide) ?_
                                      refine J_istore (lv' := [(6, .int (nI 0)), (5, .int (nI 1)), (4, .int (nI 0)), (3, .int (nI (dX (stD S) 1))), (1, .long (prF (stD S))), (0, .ref (h 0))]) C dL_refused_217 (by decide) rfl ?_
                                      refine J_lv (lv' := [(0, .ref (h 0)), (1, .long (prF (stD S))), (3, .int (nI (dX (stD S) 1))), (4, .int (nI 0)), (5, .int (nI 1)), (6, .int (nI 0))]) [5, 4, 3, 2, 1, 0] rfl ?_
                                      refine J_loopK (σ := Nat) (I := fun (k : Nat) => (k ≤ dX (stD S) 1)) (μ := fun (k : Nat) => dX (stD S) 1 - k) (kf := fun (k : Nat) => 96 + 6 * k) (nf := fun (k : Nat) => 576 + 36 * k) (lvf := fun (k : Nat) => [(0, .ref (h 0)), (1, .long (prF (stD S))), (3, .int (nI (dX (stD S) 1))), (4, .int (nI 0)), (5, .int (nI 1)), (6, .int (nI k))]) (stf := fun (k : Nat) => []) (wsf := fun (k : Nat) => HW Y h a S O) ?_ (0) (by omega) (by show _ ≤ 96 + 6 * 0; omega) (by show _ ≤ 576 + 36 * 0; omega) (rfl) rfl (rfl)
                                      rintro k hk ih219
                                      refine J_eq (lv' := [(0, .ref (h 0)), (1, .long (prF (stD S))), (3, .int (nI (dX (stD S) 1))), (4, .int (nI 0)), (5, .int (nI 1)), (6, .int (nI k))]) (st' := []) (ws' := HW Y h a S O) rfl rfl rfl rfl ?_
                                      refine J_iload C dL_refused_219 5 rfl ?_
                                      refine J_iload_n C dL_refused_221 rfl 2 rfl ?_
                                      refine J_icmp_geN (tgt := 348) C dL_refused_222 (by decide) (by omega) (by omega) (fun cq222 => ?_) (fun cq222 => ?_)
                                      · refine J_iload C dL_refused_348 4 rfl ?_
                                        refine J_if_eqN (tgt := 395) C dL_refused_350 (by decide) (by omega) (fun cq350 => ?_) (fun cq350 => ?_)
                                        · exact absurd cq350 (by omega)
                                        · refine J_iload C dL_refused_353 3 rfl ?_
                                          refine J_if_eqN (tgt := 372) C dL_refused_355 (by decide) (by omega) (fun cq355 => ?_) (fun cq355 => ?_)
                                          · refine J_aload_n C dL_refused_372 rfl 0 rfl ?_
                                            refine J_iconst C dL_refused_373 (v := nI 0) (by decide) ?_
                                            refine J_callI (wr := []) C (R_H (st := []) (wc := HW Y h a S O) C hXS (kW_accuse_x2 ll Y hl0 h a S O b 0 (hG) (by omega) (by decide) (hgo)) (vx_cwSW 2 C.t gL_refused_L_accuse rfl rfl rfl (by decide +kernel) ⟨by decide, by decide⟩) rfl (List.range 49) (HW_all Y h a S O) rng_nd49 rfl (Nat.le_of_ble_eq_true rfl) dL_refused_374 ⟨by show _ ≤ 201; omega, by show _ ≤ 1206; omega⟩) (List.range 49) [] (HW_all Y h a S O) rfl (by decide) (by decide) (fun r374 u374 hw374 => ?_)
                                            subst hw374
                                            refine J_eq (pc' := 377) (lv' := [(0, .ref (h 0)), (1, .long (prF (stD S))), (3, .int (nI (dX (stD S) 1))), (4, .int (nI 0)), (5, .int (nI 1)), (6, .int (nI k))]) (st' := [.int ((-5000002))]) (ws' := HW Y h a S O) rfl rfl rfl rfl ?_
                                            refine J_ldc C dL_refused_377 (v := (-5000002)) w3 ?_
                                            refine J_icmp_ne (tgt := 395) C dL_refused_379 (by decide) (fun cq379 => ?_) (fun cq379 => ?_)
                                            · exact absurd rfl cq379
                                            · refine J_aload_n C dL_refused_382 rfl 0 rfl ?_
                                              refine J_callL (wr := []) C (R_P (st := []) (wc := HW Y h a S O) C hXS (kO_print ll Y hl0 h a S O b (hG) (by omega)) (va_cwS 1 C.t gL_refused_L_print rfl rfl rfl (by decide +kernel) ⟨by decide, by decide⟩) rfl (List.range 49) (HW_all Y h a S O) rng_nd49 rfl (Nat.le_of_ble_eq_true rfl) dL_refused_383 ⟨by show _ ≤ 201; omega, by show _ ≤ 1206; omega⟩) (List.range 49) [] (HW_all Y h a S O) rfl (by decide) (by decide) (fun r383 u383 hw383 => ?_)
                                              subst hw383
                                              refine J_eq (pc' := 386) (lv' := [(0, .ref (h 0)), (1, .long (prF (stD S))), (3, .int (nI (dX (stD S) 1))), (4, .int (nI 0)), (5, .int (nI 1)), (6, .int (nI k))]) (st' := [.long (prF (stD S))]) (ws' := HW Y h a S O) rfl rfl rfl rfl ?_
                                              refine J_lload_n C dL_refused_386 rfl 1 rfl ?_
                                              refine J_lcmp C dL_refused_387 ?_
                                              refine J_top (y := .int (nI 0)) (by rw [lcs]) ?_
                                              refine J_if_neN (tgt := 395) C dL_refused_388 (by decide) (by omega) (fun cq388 => ?_) (fun cq388 => ?_)
                                              · exact absurd cq388 (by omega)
                                              · refine J_iconst C dL_refused_391 (v := nI 1) (by decide) ?_
                                                refine J_goto (tgt := 396) C dL_refused_392 (by decide) ?_
                                                refine J_wd (k' := 201) (n' := 1206) (by omega) (by omega) ?_
                                                exact J_zret C hr (by decide) dL_refused_396 (()) (rfl) (rfl)
                                          · exact absurd cq355 (by omega)
                                      · refine J_iload C dL_refused_225 4 rfl ?_
                                        refine J_if_eqN (tgt := 348) C dL_refused_227 (by decide) (by omega) (fun cq227 => ?_) (fun cq227 => ?_)
                                        · exact absurd cq227 (by omega)
                                        · refine J_iload C dL_refused_230 3 rfl ?_
                                          refine J_if_eqN (tgt := 250) C dL_refused_232 (by decide) (by omega) (fun cq232 => ?_) (fun cq232 => ?_)
                                          · refine J_iconst C dL_refused_250 (v := nI 0) (by decide) ?_
                                            refine J_istore (lv' := [(7, .int (nI 0)), (0, .ref (h 0)), (1, .long (prF (stD S))), (3, .int (nI (dX (stD S) 1))), (4, .int (nI 0)), (5, .int (nI 1)), (6, .int (nI k))]) C dL_refused_251 (by decide) rfl ?_
                                            refine J_aload_n C dL_refused_253 rfl 1 rfl ?_
                                            refine J_iload C dL_refused_254 6 rfl ?_
                                            refine J_iconst C dL_refused_256 (v := nI 0) (by decide) ?_
                                            refine J_iconst C dL_refused_257 (v := nI 0) (by decide) ?_
                                            refine J_top (y := .int (p2i (False))) ((congrArg Value.int (p2i_f (fun z => z))).symm) ?_
                                            refine J_callI (wr := []) C (R_H (st := []) (wc := HW Y h a S O) C hXS (kW_ask_x2 ll Y hl0 h a S O b k (nI 0) False (hG) (by omega) (by first | assumption | omega) (Or.inl (by decide +kernel))) (vx_cwSW 4 C.t gL_refused_L_ask rfl rfl rfl (by decide +kernel) ⟨by decide, by decide⟩) rfl (List.range 49) (HW_all Y h a S O) rng_nd49 rfl (Nat.le_of_ble_eq_true rfl) dL_refused_258 ⟨by show _ ≤ 201; omega, by show _ ≤ 1206; omega⟩) (List.range 49) [] (HW_all Y h a S O) rfl (by decide) (by decide) (fun r258 u258 hw258 => ?_)
                                            subst hw258
                                            refine J_eq (pc' := 261) (lv' := [(7, .int (nI 0)), (0, .ref (h 0)), (1, .long (prF (stD S))), (3, .int (nI (dX (stD S) 1))), (4, .int (nI 0)), (5, .int (nI 1)), (6, .int (nI k))]) (st' := [.int ((-5000001))]) (ws' := HW Y h a S O) rfl rfl rfl rfl ?_
                                            refine J_ldc C dL_refused_261 (v := (-5000001)) w0 ?_
                                            refine J_icmp_ne (tgt := 339) C dL_refused_263 (by decide) (fun cq263 => ?_) (fun cq263 => ?_)
                                            · exact absurd rfl cq263
                                            · refine J_aload_n C dL_refused_266 rfl 1 rfl ?_
                                              refine J_iload C dL_refused_267 6 rfl ?_
                                              refine J_sipush C dL_refused_269 (v := nI 256) (by decide) ?_
                                              refine J_iconst C dL_refused_272 (v := nI 1) (by decide) ?_
                                              refine J_top (y := .int (p2i (True))) ((congrArg Value.int (p2i_t trivial)).symm) ?_
                                              refine J_callI (wr := []) C (R_H (st := []) (wc := HW Y h a S O) C hXS (kW_ask_x2 ll Y hl0 h a S O b k (nI 256) True (hG) (by omega) (by first | assumption | omega) (Or.inr (by decide +kernel))) (vx_cwSW 4 C.t gL_refused_L_ask rfl rfl rfl (by decide +kernel) ⟨by decide, by decide⟩) rfl (List.range 49) (HW_all Y h a S O) rng_nd49 rfl (Nat.le_of_ble_eq_true rfl) dL_refused_273 ⟨by show _ ≤ 201; omega, by show _ ≤ 1206; omega⟩) (List.range 49) [] (HW_all Y h a S O) rfl (by decide) (by decide) (fun r273 u273 hw273 => ?_)
                                              subst hw273
                                              refine J_eq (pc' := 276) (lv' := [(7, .int (nI 0)), (0, .ref (h 0)), (1, .long (prF (stD S))), (3, .int (nI (dX (stD S) 1))), (4, .int (nI 0)), (5, .int (nI 1)), (6, .int (nI k))]) (st' := [.int ((-5000001))]) (ws' := HW Y h a S O) rfl rfl rfl rfl ?_
                                              refine J_ldc C dL_refused_276 (v := (-5000001)) w0 ?_
                                              refine J_icmp_ne (tgt := 339) C dL_refused_278 (by decide) (fun cq278 => ?_) (fun cq278 => ?_)
                                              · exact absurd rfl cq278
                                              · refine J_aload_n C dL_refused_281 rfl 1 rfl ?_
                                                refine J_iload C dL_refused_282 6 rfl ?_
                                                refine J_bipush C dL_refused_284 (v := nI 8) (by decide) ?_
                                                refine J_callI (wr := []) C (R_H (st := []) (wc := HW Y h a S O) C hXS (kW_prove_x1 ll Y hl0 h a S O b (nI k) (nI 8) (hG) (by omega) (Or.inr (Or.inr (Or.inr (by decide +kernel))))) (vx_cwSW 3 C.t gL_refused_L_prove rfl rfl rfl (by decide +kernel) ⟨by decide, by decide⟩) rfl (List.range 49) (HW_all Y h a S O) rng_nd49 rfl (Nat.le_of_ble_eq_true rfl) dL_refused_286 ⟨by show _ ≤ 201; omega, by show _ ≤ 1206; omega⟩) (List.range 49) [] (HW_all Y h a S O) rfl (by decide) (by decide) (fun r286 u286 hw286 => ?_)
                                                subst hw286
                                                refine J_eq (pc' := 289) (lv' := [(7, .int (nI 0)), (0, .ref (h 0)), (1, .long (prF (stD S))), (3, .int (nI (dX (stD S) 1))), (4, .int (nI 0)), (5, .int (nI 1)), (6, .int (nI k))]) (st' := [.int ((-5000003))]) (ws' := HW Y h a S O) rfl rfl rfl rfl ?_
                                                refine J_ldc C dL_refused_289 (v := (-5000003)) w2 ?_
                                                refine J_icmp_ne (tgt := 339) C dL_refused_291 (by decide) (fun cq291 => ?_) (fun cq291 => ?_)
                                                · exact absurd rfl cq291
                                                · refine J_iload C dL_refused_294 0 rfl ?_
                                                  refine J_if_neN (tgt := 335) C dL_refused_296 (by decide) (by omega) (fun cq296 => ?_) (fun cq296 => ?_)
                                                  · exact absurd cq296 (by omega)
                                                  · refine J_aload_n C dL_refused_299 rfl 1 rfl ?_
                                                    refine J_iload C dL_refused_300 6 rfl ?_
                                                    refine J_iconst C dL_refused_302 (v := nI 1) (by decide) ?_
                                                    refine J_iconst C dL_refused_303 (v := nI 0) (by decide) ?_
                                                    refine J_top (y := .int (p2i (False))) ((congrArg Value.int (p2i_f (fun z => z))).symm) ?_
                                                    refine J_callI (wr := []) C (R_H (st := []) (wc := HW Y h a S O) C hXS (kW_ask_x3 ll Y hl0 h a S O b k 1 False (hG) (by omega) (by first | assumption | omega) (⟨by decide, by decide⟩) (fun z => by have := z.1.1; omega)) (vx_cwSW 4 C.t gL_refused_L_ask rfl rfl rfl (by decide +kernel) ⟨by decide, by decide⟩) rfl (List.range 49) (HW_all Y h a S O) rng_nd49 rfl (Nat.le_of_ble_eq_true rfl) dL_refused_304 ⟨by show _ ≤ 201; omega, by show _ ≤ 1206; omega⟩) (List.range 49) [] (HW_all Y h a S O) rfl (by decide) (by decide) (fun r304 u304 hw304 => ?_)
                                                    subst hw304
                                                    refine J_eq (pc' := 307) (lv' := [(7, .int (nI 0)), (0, .ref (h 0)), (1, .long (prF (stD S))), (3, .int (nI (dX (stD S) 1))), (4, .int (nI 0)), (5, .int (nI 1)), (6, .int (nI k))]) (st' := [.int ((-5000002))]) (ws' := HW Y h a S O) rfl rfl rfl rfl ?_
                                                    refine J_ldc C dL_refused_307 (v := (-5000002)) w3 ?_
                                                    refine J_icmp_ne (tgt := 339) C dL_refused_309 (by decide) (fun cq309 => ?_) (fun cq309 => ?_)
                                                    · exact absurd rfl cq309
                                                    · refine J_aload_n C dL_refused_312 rfl 1 rfl ?_
                                                      refine J_iload C dL_refused_313 6 rfl ?_
                                                      refine J_iconst C dL_refused_315 (v := nI 0) (by decide) ?_
                                                      refine J_callI (wr := []) C (R_H (st := []) (wc := HW Y h a S O) C hXS (kW_prove_x2 ll Y hl0 h a S O b k 0 (hG) (by omega) (by first | assumption | omega) (by decide) (fun z => by have := z.1; omega)) (vx_cwSW 3 C.t gL_refused_L_prove rfl rfl rfl (by decide +kernel) ⟨by decide, by decide⟩) rfl (List.range 49) (HW_all Y h a S O) rng_nd49 rfl (Nat.le_of_ble_eq_true rfl) dL_refused_316 ⟨by show _ ≤ 201; omega, by show _ ≤ 1206; omega⟩) (List.range 49) [] (HW_all Y h a S O) rfl (by decide) (by decide) (fun r316 u316 hw316 => ?_)
                                                      subst hw316
                                                      refine J_eq (pc' := 319) (lv' := [(7, .int (nI 0)), (0, .ref (h 0)), (1, .long (prF (stD S))), (3, .int (nI (dX (stD S) 1))), (4, .int (nI 0)), (5, .int (nI 1)), (6, .int (nI k))]) (st' := [.int ((-5000002))]) (ws' := HW Y h a S O) rfl rfl rfl rfl ?_
                                                      refine J_ldc C dL_refused_319 (v := (-5000002)) w3 ?_
                                                      refine J_icmp_ne (tgt := 339) C dL_refused_321 (by decide) (fun cq321 => ?_) (fun cq321 => ?_)
                                                      · exact absurd rfl cq321
                                                      · refine J_aload_n C dL_refused_324 rfl 1 rfl ?_
                                                        refine J_iload C dL_refused_325 6 rfl ?_
                                                        refine J_callI (wr := []) C (R_H (st := []) (wc := HW Y h a S O) C hXS (kW_leave_x2 ll Y hl0 h a S O b k (hG) (by omega) (by first | assumption | omega) (fun z => by have := z.1; omega)) (vx_cwSW 2 C.t gL_refused_L_leave rfl rfl rfl (by decide +kernel) ⟨by decide, by decide⟩) rfl (List.range 49) (HW_all Y h a S O) rng_nd49 rfl (Nat.le_of_ble_eq_true rfl) dL_refused_327 ⟨by show _ ≤ 201; omega, by show _ ≤ 1206; omega⟩) (List.range 49) [] (HW_all Y h a S O) rfl (by decide) (by decide) (fun r327 u327 hw327 => ?_)
                                                        subst hw327
                                                        refine J_eq (pc' := 330) (lv' := [(7, .int (nI 0)), (0, .ref (h 0)), (1, .long (prF (stD S))), (3, .int (nI (dX (stD S) 1))), (4, .int (nI 0)), (5, .int (nI 1)), (6, .int (nI k))]) (st' := [.int ((-5000002))]) (ws' := HW Y h a S O) rfl rfl rfl rfl ?_
                                                        refine J_ldc C dL_refused_330 (v := (-5000002)) w3 ?_
                                                        refine J_icmp_ne (tgt := 339) C dL_refused_332 (by decide) (fun cq332 => ?_) (fun cq332 => ?_)
                                                        · exact absurd rfl cq332
                                                        · refine J_iconst C dL_refused_335 (v := nI 1) (by decide) ?_
                                                          refine J_goto (tgt := 340) C dL_refused_336 (by decide) ?_
                                                          refine J_istore (lv' := [(5, .int (nI 1)), (7, .int (nI 0)), (0, .ref (h 0)), (1, .long (prF (stD S))), (3, .int (nI (dX (stD S) 1))), (4, .int (nI 0)), (6, .int (nI k))]) C dL_refused_340 (by decide) rfl ?_
                                                          refine J_iinc (j := 6) (v := nI (k + 1)) (lv' := [(6, .int (nI (k + 1))), (5, .int (nI 1)), (7, .int (nI 0)), (0, .ref (h 0)), (1, .long (prF (stD S))), (3, .int (nI (dX (stD S) 1))), (4, .int (nI 0))]) C dL_refused_342 rfl (nI_1 _) (by decide) rfl ?_
                                                          refine J_goto (tgt := 219) C dL_refused_345 (by decide) ?_
                                                          refine J_wd (k' := 96 + 6 * (k + 1)) (n' := 576 + 36 * (k + 1)) (by omega) (by omega) ?_
                                                          refine J_lv (lv' := [(0, .ref (h 0)), (1, .long (prF (stD S))), (3, .int (nI (dX (stD S) 1))), (4, .int (nI 0)), (5, .int (nI 1)), (6, .int (nI (k + 1)))]) [3, 4, 5, 6, 1, 0] rfl ?_
                                                          exact ih219 (k + 1) (by omega) (show dX (stD S) 1 - (k + 1) < dX (stD S) 1 - k from by omega)
                                          · exact absurd cq232 (by omega)
    · exact absurd cq17 (by omega)

