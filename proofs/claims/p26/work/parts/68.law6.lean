set_option maxHeartbeats 4000000 in
set_option maxRecDepth 100000 in
theorem kL_cell (ll : Launch) (Y : GY) (b9 LL : Nat) (xs : Nat → Int32) (kk : Nat) (hLL : LL ≤ 260) (hkk : kk < 1000) : CZ ll yL_cell wsL_cell { frames := 0, cells := 0, slots := 0, locals := 0 } Y [.ref b9, .int (nI kk)] [] (ZT b9 LL xs) (QI (S := Unit) Y (fun (_ : Int32) (_ : Unit) => True) (fun _ => [])) 0 0 := by
  refine CZ_of (cc := cL_cell) (maxL := 3) (ret := (some .int)) (by decide) rfl (Nat.le_of_ble_eq_true rfl) ?_
  intro pp ee ss mm bl mt cc C hr hT
  have w0 := C.t _ (List.mem_of_getElem? (i := 1) (show wsL_cell[1]? = some (Cond.constant RL 7 (916318735)) from rfl))
  refine J_eq (lv' := [(0, .ref b9), (1, .int (nI kk))]) (ws' := []) rfl rfl rfl rfl ?_
  refine J_iload_n C dL_cell_0 rfl 1 rfl ?_
  refine J_aload_n C dL_cell_1 rfl 0 rfl ?_
  refine J_tlen C hT dL_cell_2 ?_
  refine J_icmp_geN (tgt := 12) C dL_cell_3 (by decide) (by omega) (by omega) (fun cq3 => ?_) (fun cq3 => ?_)
  · refine J_ldc C dL_cell_12 (v := nI 916318735) w0 ?_
    refine J_iload_n C dL_cell_14 rfl 1 rfl ?_
    refine J_iconst C dL_cell_15 (v := nI 3) (by decide) ?_
    refine J_iaddN C dL_cell_16 ?_
    refine J_imulN C dL_cell_17 ?_
    refine J_istore_n (lv' := [(2, .int (nI (916318735 * (kk + 3)))), (0, .ref b9), (1, .int (nI kk))]) C dL_cell_18 rfl (by decide) rfl ?_
    refine J_iload_n C dL_cell_19 rfl 0 rfl ?_
    refine J_iload_n C dL_cell_20 rfl 0 rfl ?_
    refine J_bipush C dL_cell_21 (v := nI 15) (by decide) ?_
    refine J_iushr C dL_cell_23 ?_
    refine J_ixor C dL_cell_24 ?_
    exact J_iret C hr dL_cell_25 (()) (trivial) (rfl)
  · refine J_aload_n C dL_cell_6 rfl 0 rfl ?_
    refine J_iload_n C dL_cell_7 rfl 1 rfl ?_
    refine J_taldN C hT (show kk < LL by omega) (Nat.lt_of_le_of_lt hLL (by decide)) dL_cell_8 ?_
    refine J_goto (tgt := 18) C dL_cell_9 (by decide) ?_
    refine J_istore_n (lv' := [(2, .int (xs (kk))), (0, .ref b9), (1, .int (nI kk))]) C dL_cell_18 rfl (by decide) rfl ?_
    refine J_iload_n C dL_cell_19 rfl 0 rfl ?_
    refine J_iload_n C dL_cell_20 rfl 0 rfl ?_
    refine J_bipush C dL_cell_21 (v := nI 15) (by decide) ?_
    refine J_iushr C dL_cell_23 ?_
    refine J_ixor C dL_cell_24 ?_
    exact J_iret C hr dL_cell_25 (()) (trivial) (rfl)

section LC
variable {pp : Program} {ll : Launch} {ee : Env} {ss : State} {mm : MethodId} {args : Array Value} {bl : List Frame} {mt : Method} {cc : Code} {QQ : State → Prop} {Y : GY} {AA : Nat → Prop}
set_option maxHeartbeats 4000000 in
set_option maxRecDepth 100000 in
theorem sg_0 (C : JC pp ss mm args mt cc Y AA 10 RL cL_law wsL_law) (hXS : XS ss) (hl0 : ll.stackTraces = false) {b9 LL : Nat} {xs : Nat → Int32} (hT : va_T .int b9 LL (fun j => .int (xs j)) AA ss ss.heap) (hLL : LL ≤ 260) {t kk nn b : Nat} (h a : Nat → Nat) (ht : t < 30) (hkk : kk + 250 ≤ 723245) (hnn : nn + 1500 ≤ 6931733) (hbd : b ≤ 900)  (S : ST) (O : OT) (hG : G b S) (hb1 : b + 1 ≤ 900) (K : ∀ (y : Nat) (S' : ST) (O' : OT), y < 1000000 → G (b + 1) S' → J pp ll ee room_1 ss mm args bl mt cc QQ Y AA 10 (kk + 250) (nn + 1500) 182 [(0, .ref b9), (1, .ref (h 0)), (2, .int (nI 1)), (3, .int (nI t)), (5, .int (nI y))] [] (HW Y h a S' O')) : J pp ll ee room_1 ss mm args bl mt cc QQ Y AA 10 kk nn 56 [(0, .ref b9), (1, .ref (h 0)), (2, .int (nI 1)), (3, .int (nI t))] [] (HW Y h a S O) := by
  have w0 := C.t _ (List.mem_of_getElem? (i := 4) (show wsL_law[4]? = some (Cond.constant RL 101 (1000000)) from rfl))
  have w1 := C.t _ (List.mem_of_getElem? (i := 3) (show wsL_law[3]? = some (Cond.constant RL 20 (-5000002)) from rfl))
  have w2 := C.t _ (List.mem_of_getElem? (i := 5) (show wsL_law[5]? = some (Cond.constant RL 17 (-5000001)) from rfl))
  have w3 := C.t _ (List.mem_of_getElem? (i := 6) (show wsL_law[6]? = some (Cond.constant RL 27 (-5000003)) from rfl))
  refine J_aload_n C dL_law_56 rfl 0 rfl ?_
  refine J_iconst C dL_law_57 (v := nI 2) (by decide) ?_
  refine J_iload_n C dL_law_58 rfl 3 rfl ?_
  refine J_imulN C dL_law_59 ?_
  refine J_callI (wr := HW Y h a S O) C (R_ZT (st := []) C hT (kL_cell ll Y b9 LL xs (2 * t) hLL (by omega)) (va_cwS 2 C.t gL_law_L_cell rfl rfl rfl (by decide +kernel) ⟨by decide, by decide⟩) rfl rfl (Nat.le_of_ble_eq_true rfl) dL_law_60 ⟨by show _ ≤ 723245; omega, by show _ ≤ 6931733; omega⟩) [] (List.range 49) rfl (HW_all Y h a S O) rng_nd49 (by decide +kernel) (fun r60 u60 hw60 => ?_)
  refine J_eq (pc' := 63) (lv' := [(0, .ref b9), (1, .ref (h 0)), (2, .int (nI 1)), (3, .int (nI t))]) (st' := [.int r60]) (ws' := HW Y h a S O) rfl rfl rfl (List.append_nil _) ?_
  refine J_istore (lv' := [(4, .int r60), (0, .ref b9), (1, .ref (h 0)), (2, .int (nI 1)), (3, .int (nI t))]) C dL_law_63 (by decide) rfl ?_
  refine J_aload_n C dL_law_65 rfl 1 rfl ?_
  refine J_iconst C dL_law_66 (v := nI 2) (by decide) ?_
  refine J_iload_n C dL_law_67 rfl 4 rfl ?_
  refine J_imulN C dL_law_68 ?_
  refine J_iconst C dL_law_69 (v := nI 1) (by decide) ?_
  refine J_iaddN C dL_law_70 ?_
  refine J_callI (wr := HW Y h a S O) C (R_ZT (st := []) C hT (kL_cell ll Y b9 LL xs ((2 * t) + 1) hLL (by omega)) (va_cwS 2 C.t gL_law_L_cell rfl rfl rfl (by decide +kernel) ⟨by decide, by decide⟩) rfl rfl (Nat.le_of_ble_eq_true rfl) dL_law_71 ⟨by show _ ≤ 723245; omega, by show _ ≤ 6931733; omega⟩) [] (List.range 49) rfl (HW_all Y h a S O) rng_nd49 (by decide +kernel) (fun r71 u71 hw71 => ?_)
  refine J_eq (pc' := 74) (lv' := [(4, .int r60), (0, .ref b9), (1, .ref (h 0)), (2, .int (nI 1)), (3, .int (nI t))]) (st' := [.int r71]) (ws' := HW Y h a S O) rfl rfl rfl (List.append_nil _) ?_
  refine J_ldc C dL_law_74 (v := nI 1000000) w0 ?_
  refine J_callI (wr := HW Y h a S O) C (R_S (st := []) (wc := []) C (kL_low ll Y r71 1000000 (by decide)) (va_cwS 2 C.t gL_law_L_low rfl rfl rfl (by decide +kernel) ⟨by decide, by decide⟩) rfl [] rfl (by decide) rfl (Nat.le_of_ble_eq_true rfl) dL_law_76 ⟨by show _ ≤ 723245; omega, by show _ ≤ 6931733; omega⟩) [] (List.range 49) rfl (HW_all Y h a S O) rng_nd49 (by decide +kernel) (fun r76 u76 hw76 => ?_)
  obtain ⟨rfl, hu76⟩ := hw76
  refine J_eq (pc' := 79) (lv' := [(4, .int r60), (0, .ref b9), (1, .ref (h 0)), (2, .int (nI 1)), (3, .int (nI t))]) (st' := [.int (nI u76)]) (ws' := HW Y h a S O) rfl rfl rfl (List.append_nil _) ?_
  refine J_istore (lv' := [(5, .int (nI u76)), (4, .int r60), (0, .ref b9), (1, .ref (h 0)), (2, .int (nI 1)), (3, .int (nI t))]) C dL_law_79 (by decide) rfl ?_
  refine J_aload_n C dL_law_81 rfl 3 rfl ?_
  refine J_callL (wr := []) C (R_P (st := []) (wc := HW Y h a S O) C hXS (kO_print ll Y hl0 h a S O b (hG) (by omega)) (va_cwS 1 C.t gL_law_L_print rfl rfl rfl (by decide +kernel) ⟨by decide, by decide⟩) rfl (List.range 49) (HW_all Y h a S O) rng_nd49 rfl (Nat.le_of_ble_eq_true rfl) dL_law_82 ⟨by show _ ≤ 723245; omega, by show _ ≤ 6931733; omega⟩) (List.range 49) [] (HW_all Y h a S O) rfl (by decide) (by decide) (fun r82 u82 hw82 => ?_)
  subst hw82
  refine J_eq (pc' := 85) (lv' := [(5, .int (nI u76)), (4, .int r60), (0, .ref b9), (1, .ref (h 0)), (2, .int (nI 1)), (3, .int (nI t))]) (st' := [.long (prF (stD S))]) (ws' := HW Y h a S O) rfl rfl rfl rfl ?_
  refine J_lstore (lv' := [(6, .long (prF (stD S))), (5, .int (nI u76)), (4, .int r60), (0, .ref b9), (1, .ref (h 0)), (2, .int (nI 1)), (3, .int (nI t))]) C dL_law_85 (by decide) rfl ?_
  refine J_aload_n C dL_law_87 rfl 4 rfl ?_
  refine J_iload C dL_law_88 2 rfl ?_
  refine J_iload C dL_law_90 1 rfl ?_
  refine J_callI (wr := []) C (R_P (st := []) (wc := HW Y h a S O) C hXS (kO_acts ll Y hl0 h a S O b r60 u76 (hG) (by omega) (by omega) (by first | assumption | omega)) (va_cwS 3 C.t gL_law_L_acts rfl rfl rfl (by decide +kernel) ⟨by decide, by decide⟩) rfl (List.range 49) (HW_all Y h a S O) rng_nd49 rfl (Nat.le_of_ble_eq_true rfl) dL_law_92 ⟨by show _ ≤ 723245; omega, by show _ ≤ 6931733; omega⟩) (List.range 49) [] (HW_all Y h a S O) rfl (by decide) (by decide) (fun r92 u92 hw92 => ?_)
  obtain hw92 := hw92
  refine J_eq (pc' := 95) (lv' := [(6, .long (prF (stD S))), (5, .int (nI u76)), (4, .int r60), (0, .ref b9), (1, .ref (h 0)), (2, .int (nI 1)), (3, .int (nI t))]) (st' := [.int r92]) (ws' := HW Y h a u92 O) rfl rfl rfl rfl ?_
  rcases hw92 with ⟨⟨q, eq, hq⟩, hG92, hV92⟩ | ⟨hr92, hS92⟩
  · refine J_top (y := .int (nI q)) (by rw [eq]) ?_
    refine J_istore (lv' := [(8, .int (nI q)), (6, .long (prF (stD S))), (5, .int (nI u76)), (4, .int r60), (0, .ref b9), (1, .ref (h 0)), (2, .int (nI 1)), (3, .int (nI t))]) C dL_law_95 (by decide) rfl ?_
    refine J_iload C dL_law_97 0 rfl ?_
    refine J_if_geN (tgt := 133) C dL_law_99 (by decide) (by omega) ?_
    refine J_iconst C dL_law_133 (v := nI 1) (by decide) ?_
    refine J_goto (tgt := 138) C dL_law_134 (by decide) ?_
    refine J_istore_n (lv' := [(2, .int (nI 1)), (8, .int (nI q)), (6, .long (prF (stD S))), (5, .int (nI u76)), (4, .int r60), (0, .ref b9), (1, .ref (h 0)), (3, .int (nI t))]) C dL_law_138 rfl (by decide) rfl ?_
    refine J_iload_n C dL_law_139 rfl 0 rfl ?_
    refine J_if_eqN (tgt := 182) C dL_law_140 (by decide) (by omega) (fun cq140 => ?_) (fun cq140 => ?_)
    · exact absurd cq140 (by omega)
    · refine J_iload C dL_law_143 1 rfl ?_
      refine J_if_ltN (tgt := 182) C dL_law_145 (by decide) (hq) ?_
      refine J_iload C dL_law_148 4 rfl ?_
      refine J_bipush C dL_law_150 (v := nI 25) (by decide) ?_
      refine J_ishr C dL_law_152 ?_
      refine J_bipush C dL_law_153 (v := nI 7) (by decide) ?_
      refine J_iand C dL_law_155 ?_
      refine J_if_neT (tgt := 182) C dL_law_156 (by decide) (fun cq156 => ?_) (fun cq156 => ?_)
      · refine J_wd (k' := kk + 250) (n' := nn + 1500) (by omega) (by omega) ?_
        refine J_lv (lv' := [(0, .ref b9), (1, .ref (h 0)), (2, .int (nI 1)), (3, .int (nI t)), (5, .int (nI u76))]) [5, 6, 0, 7, 3] rfl ?_
        exact K u76 u92 O (by omega) (hG92)
      · refine J_aload_n C dL_law_159 rfl 6 rfl ?_
        refine J_callI (wr := []) C (R_H (st := []) (wc := HW Y h a u92 O) C hXS (kW_undo ll Y hl0 h a u92 O ((b + 1)) (hG92) (by omega) (stD S) (hV92) (G_E hG) (b) (G_b hG)) (vx_cwSW 1 C.t gL_law_L_undo rfl rfl rfl (by decide +kernel) ⟨by decide, by decide⟩) rfl (List.range 49) (HW_all Y h a u92 O) rng_nd49 rfl (Nat.le_of_ble_eq_true rfl) dL_law_160 ⟨by show _ ≤ 723245; omega, by show _ ≤ 6931733; omega⟩) (List.range 49) [] (HW_all Y h a u92 O) rfl (by decide) (by decide) (fun r160 u160 hw160 => ?_)
        obtain ⟨rfl, he160, hG160⟩ := hw160
        refine J_eq (pc' := 163) (lv' := [(2, .int (nI 1)), (8, .int (nI q)), (6, .long (prF (stD S))), (5, .int (nI u76)), (4, .int r60), (0, .ref b9), (1, .ref (h 0)), (3, .int (nI t))]) (st' := [.int (nI (stSc u92 - 1))]) (ws' := HW Y h a u160 O) rfl rfl rfl rfl ?_
        refine J_if_ltN (tgt := 180) C dL_law_163 (by decide) (by have := G_sc hG92; omega) ?_
        refine J_aload_n C dL_law_166 rfl 6 rfl ?_
        refine J_callL (wr := []) C (R_P (st := []) (wc := HW Y h a u160 O) C hXS (kO_print ll Y hl0 h a u160 O b (hG160) (by omega)) (va_cwS 1 C.t gL_law_L_print rfl rfl rfl (by decide +kernel) ⟨by decide, by decide⟩) rfl (List.range 49) (HW_all Y h a u160 O) rng_nd49 rfl (Nat.le_of_ble_eq_true rfl) dL_law_167 ⟨by show _ ≤ 723245; omega, by show _ ≤ 6931733; omega⟩) (List.range 49) [] (HW_all Y h a u160 O) rfl (by decide) (by decide) (fun r167 u167 hw167 => ?_)
        subst hw167
        refine J_eq (pc' := 170) (lv' := [(2, .int (nI 1)), (8, .int (nI q)), (6, .long (prF (stD S))), (5, .int (nI u76)), (4, .int r60), (0, .ref b9), (1, .ref (h 0)), (3, .int (nI t))]) (st' := [.long (prF (stD u160))]) (ws' := HW Y h a u160 O) rfl rfl rfl rfl ?_
        refine J_top (y := .long (prF (stD S))) (by rw [he160]) ?_
        refine J_lload C dL_law_170 2 rfl ?_
        refine J_lcmp C dL_law_172 ?_
        refine J_top (y := .int (nI 0)) (by rw [lcs]) ?_
        refine J_if_neN (tgt := 180) C dL_law_173 (by decide) (by omega) (fun cq173 => ?_) (fun cq173 => ?_)
        · exact absurd cq173 (by omega)
        · refine J_iconst C dL_law_176 (v := nI 1) (by decide) ?_
          refine J_goto (tgt := 181) C dL_law_177 (by decide) ?_
          refine J_istore_n (lv' := [(2, .int (nI 1)), (8, .int (nI q)), (6, .long (prF (stD S))), (5, .int (nI u76)), (4, .int r60), (0, .ref b9), (1, .ref (h 0)), (3, .int (nI t))]) C dL_law_181 rfl (by decide) rfl ?_
          refine J_wd (k' := kk + 250) (n' := nn + 1500) (by omega) (by omega) ?_
          refine J_lv (lv' := [(0, .ref b9), (1, .ref (h 0)), (2, .int (nI 1)), (3, .int (nI t)), (5, .int (nI u76))]) [5, 6, 0, 7, 3] rfl ?_
          exact K u76 u160 O (by omega) (G_mono (Nat.le_succ b) hG160)
  · have hS9 := hS92.symm
    subst hS9
    rcases hr92 with hr92 | hr92 | hr92
    · refine J_eq (lv' := [(6, .long (prF (stD S))), (5, .int (nI u76)), (4, .int r60), (0, .ref b9), (1, .ref (h 0)), (2, .int (nI 1)), (3, .int (nI t))]) (st' := [.int ((-5000002))]) (ws' := HW Y h a S O) rfl rfl (by rw [hr92]) rfl ?_
      refine J_istore (lv' := [(8, .int ((-5000002))), (6, .long (prF (stD S))), (5, .int (nI u76)), (4, .int r60), (0, .ref b9), (1, .ref (h 0)), (2, .int (nI 1)), (3, .int (nI t))]) C dL_law_95 (by decide) rfl ?_
      refine J_iload C dL_law_97 0 rfl ?_
      refine J_if_geT (tgt := 133) C dL_law_99 (by decide) (fun cq99 => ?_) (fun cq99 => ?_)
      · exact absurd cq99 (by decide +kernel)
      · refine J_iload C dL_law_102 0 rfl ?_
        refine J_ldc C dL_law_104 (v := (-5000002)) w1 ?_
        refine J_icmp_eq (tgt := 123) C dL_law_106 (by decide) (fun cq106 => ?_) (fun cq106 => ?_)
        · refine J_aload_n C dL_law_123 rfl 5 rfl ?_
          refine J_callL (wr := []) C (R_P (st := []) (wc := HW Y h a S O) C hXS (kO_print ll Y hl0 h a S O b (hG) (by omega)) (va_cwS 1 C.t gL_law_L_print rfl rfl rfl (by decide +kernel) ⟨by decide, by decide⟩) rfl (List.range 49) (HW_all Y h a S O) rng_nd49 rfl (Nat.le_of_ble_eq_true rfl) dL_law_124 ⟨by show _ ≤ 723245; omega, by show _ ≤ 6931733; omega⟩) (List.range 49) [] (HW_all Y h a S O) rfl (by decide) (by decide) (fun r124 u124 hw124 => ?_)
          subst hw124
          refine J_eq (pc' := 127) (lv' := [(8, .int ((-5000002))), (6, .long (prF (stD S))), (5, .int (nI u76)), (4, .int r60), (0, .ref b9), (1, .ref (h 0)), (2, .int (nI 1)), (3, .int (nI t))]) (st' := [.long (prF (stD S))]) (ws' := HW Y h a S O) rfl rfl rfl rfl ?_
          refine J_lload C dL_law_127 1 rfl ?_
          refine J_lcmp C dL_law_129 ?_
          refine J_top (y := .int (nI 0)) (by rw [lcs]) ?_
          refine J_if_neN (tgt := 137) C dL_law_130 (by decide) (by omega) (fun cq130 => ?_) (fun cq130 => ?_)
          · exact absurd cq130 (by omega)
          · refine J_iconst C dL_law_133 (v := nI 1) (by decide) ?_
            refine J_goto (tgt := 138) C dL_law_134 (by decide) ?_
            refine J_istore_n (lv' := [(2, .int (nI 1)), (8, .int ((-5000002))), (6, .long (prF (stD S))), (5, .int (nI u76)), (4, .int r60), (0, .ref b9), (1, .ref (h 0)), (3, .int (nI t))]) C dL_law_138 rfl (by decide) rfl ?_
            refine J_iload_n C dL_law_139 rfl 0 rfl ?_
            refine J_if_eqN (tgt := 182) C dL_law_140 (by decide) (by omega) (fun cq140 => ?_) (fun cq140 => ?_)
            · exact absurd cq140 (by omega)
            · refine J_iload C dL_law_143 1 rfl ?_
              refine J_if_ltT (tgt := 182) C dL_law_145 (by decide) (fun cq145 => ?_) (fun cq145 => ?_)
              · refine J_wd (k' := kk + 250) (n' := nn + 1500) (by omega) (by omega) ?_
                refine J_lv (lv' := [(0, .ref b9), (1, .ref (h 0)), (2, .int (nI 1)), (3, .int (nI t)), (5, .int (nI u76))]) [5, 6, 0, 7, 3] rfl ?_
                exact K u76 S O (by omega) (G_mono (Nat.le_succ b) hG)
              · exact absurd cq145 (by decide +kernel)
        · exact absurd rfl cq106
    · refine J_eq (lv' := [(6, .long (prF (stD S))), (5, .int (nI u76)), (4, .int r60), (0, .ref b9), (1, .ref (h 0)), (2, .int (nI 1)), (3, .int (nI t))]) (st' := [.int ((-5000001))]) (ws' := HW Y h a S O) rfl rfl (by rw [hr92]) rfl ?_
      refine J_istore (lv' := [(8, .int ((-5000001))), (6, .long (prF (stD S))), (5, .int (nI u76)), (4, .int r60), (0, .ref b9), (1, .ref (h 0)), (2, .int (nI 1)), (3, .int (nI t))]) C dL_law_95 (by decide) rfl ?_
      refine J_iload C dL_law_97 0 rfl ?_
      refine J_if_geT (tgt := 133) C dL_law_99 (by decide) (fun cq99 => ?_) (fun cq99 => ?_)
      · exact absurd cq99 (by decide +kernel)
      · refine J_iload C dL_law_102 0 rfl ?_
        refine J_ldc C dL_law_104 (v := (-5000002)) w1 ?_
        refine J_icmp_eqT (tgt := 123) C dL_law_106 (by decide) (fun cq106 => ?_) (fun cq106 => ?_)
        · exact absurd cq106 (by decide +kernel)
        · refine J_iload C dL_law_109 0 rfl ?_
          refine J_ldc C dL_law_111 (v := (-5000001)) w2 ?_
          refine J_icmp_eq (tgt := 123) C dL_law_113 (by decide) (fun cq113 => ?_) (fun cq113 => ?_)
          · refine J_aload_n C dL_law_123 rfl 5 rfl ?_
            refine J_callL (wr := []) C (R_P (st := []) (wc := HW Y h a S O) C hXS (kO_print ll Y hl0 h a S O b (hG) (by omega)) (va_cwS 1 C.t gL_law_L_print rfl rfl rfl (by decide +kernel) ⟨by decide, by decide⟩) rfl (List.range 49) (HW_all Y h a S O) rng_nd49 rfl (Nat.le_of_ble_eq_true rfl) dL_law_124 ⟨by show _ ≤ 723245; omega, by show _ ≤ 6931733; omega⟩) (List.range 49) [] (HW_all Y h a S O) rfl (by decide) (by decide) (fun r124 u124 hw124 => ?_)
            subst hw124
            refine J_eq (pc' := 127) (lv' := [(8, .int ((-5000001))), (6, .long (prF (stD S))), (5, .int (nI u76)), (4, .int r60), (0, .ref b9), (1, .ref (h 0)), (2, .int (nI 1)), (3, .int (nI t))]) (st' := [.long (prF (stD S))]) (ws' := HW Y h a S O) rfl rfl rfl rfl ?_
            refine J_lload C dL_law_127 1 rfl ?_
            refine J_lcmp C dL_law_129 ?_
            refine J_top (y := .int (nI 0)) (by rw [lcs]) ?_
            refine J_if_neN (tgt := 137) C dL_law_130 (by decide) (by omega) (fun cq130 => ?_) (fun cq130 => ?_)
            · exact absurd cq130 (by omega)
            · refine J_iconst C dL_law_133 (v := nI 1) (by decide) ?_
              refine J_goto (tgt := 138) C dL_law_134 (by decide) ?_
              refine J_istore_n (lv' := [(2, .int (nI 1)), (8, .int ((-5000001))), (6, .long (prF (stD S))), (5, .int (nI u76)), (4, .int r60), (0, .ref b9), (1, .ref (h 0)), (3, .int (nI t))]) C dL_law_138 rfl (by decide) rfl ?_
              refine J_iload_n C dL_law_139 rfl 0 rfl ?_
              refine J_if_eqN (tgt := 182) C dL_law_140 (by decide) (by omega) (fun cq140 => ?_) (fun cq140 => ?_)
              · exact absurd cq140 (by omega)
              · refine J_iload C dL_law_143 1 rfl ?_
                refine J_if_ltT (tgt := 182) C dL_law_145 (by decide) (fun cq145 => ?_) (fun cq145 => ?_)
                · refine J_wd (k' := kk + 250) (n' := nn + 1500) (by omega) (by omega) ?_
                  refine J_lv (lv' := [(0, .ref b9), (1, .ref (h 0)), (2, .int (nI 1)), (3, .int (nI t)), (5, .int (nI u76))]) [5, 6, 0, 7, 3] rfl ?_
                  exact K u76 S O (by omega) (G_mono (Nat.le_succ b) hG)
                · exact absurd cq145 (by decide +kernel)
          · exact absurd rfl cq113
    · refine J_eq (lv' := [(6, .long (prF (stD S))), (5, .int (nI u76)), (4, .int r60), (0, .ref b9), (1, .ref (h 0)), (2, .int (nI 1)), (3, .int (nI t))]) (st' := [.int ((-5000003))]) (ws' := HW Y h a S O) rfl rfl (by rw [hr92]) rfl ?_
      refine J_istore (lv' := [(8, .int ((-5000003))), (6, .long (prF (stD S))), (5, .int (nI u76)), (4, .int r60), (0, .ref b9), (1, .ref (h 0)), (2, .int (nI 1)), (3, .int (nI t))]) C dL_law_95 (by decide) rfl ?_
      refine J_iload C dL_law_97 0 rfl ?_
      refine J_if_geT (tgt := 133) C dL_law_99 (by decide) (fun cq99 => ?_) (fun cq99 => ?_)
      · exact absurd cq99 (by decide +kernel)
      · refine J_iload C dL_law_102 0 rfl ?_
        refine J_ldc C dL_law_104 (v := (-5000002)) w1 ?_
        refine J_icmp_eqT (tgt := 123) C dL_law_106 (by decide) (fun cq106 => ?_) (fun cq106 => ?_)
        · exact absurd cq106 (by decide +kernel)
        · refine J_iload C dL_law_109 0 rfl ?_
          refine J_ldc C dL_law_111 (v := (-5000001)) w2 ?_
          refine J_icmp_eqT (tgt := 123) C dL_law_113 (by decide) (fun cq113 => ?_) (fun cq113 => ?_)
          · exact absurd cq113 (by decide +kernel)
          · refine J_iload C dL_law_116 0 rfl ?_
            refine J_ldc C dL_law_118 (v := (-5000003)) w3 ?_
            refine J_icmp_ne (tgt := 137) C dL_law_120 (by decide) (fun cq120 => ?_) (fun cq120 => ?_)
            · exact absurd rfl cq120
            · refine J_aload_n C dL_law_123 rfl 5 rfl ?_
              refine J_callL (wr := []) C (R_P (st := []) (wc := HW Y h a S O) C hXS (kO_print ll Y hl0 h a S O b (hG) (by omega)) (va_cwS 1 C.t gL_law_L_print rfl rfl rfl (by decide +kernel) ⟨by decide, by decide⟩) rfl (List.range 49) (HW_all Y h a S O) rng_nd49 rfl (Nat.le_of_ble_eq_true rfl) dL_law_124 ⟨by show _ ≤ 723245; omega, by show _ ≤ 6931733; omega⟩) (List.range 49) [] (HW_all Y h a S O) rfl (by decide) (by decide) (fun r124 u124 hw124 => ?_)
              subst hw124
              refine J_eq (pc' := 127) (lv' := [(8, .int ((-5000003))), (6, .long (prF (stD S))), (5, .int (nI u76)), (4, .int r60), (0, .ref b9), (1, .ref (h 0)), (2, .int (nI 1)), (3, .int (nI t))]) (st' := [.long (prF (stD S))]) (ws' := HW Y h a S O) rfl rfl rfl rfl ?_
              refine J_lload C dL_law_127 1 rfl ?_
              refine J_lcmp C dL_law_129 ?_
              refine J_top (y := .int (nI 0)) (by rw [lcs]) ?_
              refine J_if_neN (tgt := 137) C dL_law_130 (by decide) (by omega) (fun cq130 => ?_) (fun cq130 => ?_)
              · exact absurd cq130 (by omega)
              · refine J_iconst C dL_law_133 (v := nI 1) (by decide) ?_
                refine J_goto (tgt := 138) C dL_law_134 (by decide) ?_
                refine J_istore_n (lv' := [(2, .int (nI 1)), (8, .int ((-5000003))), (6, .long (prF (stD S))), (5, .int (nI u76)), (4, .int r60), (0, .ref b9), (1, .ref (h 0)), (3, .int (nI t))]) C dL_law_138 rfl (by decide) rfl ?_
                refine J_iload_n C dL_law_139 rfl 0 rfl ?_
                refine J_if_eqN (tgt := 182) C dL_law_140 (by decide) (by omega) (fun cq140 => ?_) (fun cq140 => ?_)
                · exact absurd cq140 (by omega)
                · refine J_iload C dL_law_143 1 rfl ?_
                  refine J_if_ltT (tgt := 182) C dL_law_145 (by decide) (fun cq145 => ?_) (fun cq145 => ?_)
                  · refine J_wd (k' := kk + 250) (n' := nn + 1500) (by omega) (by omega) ?_
                    refine J_lv (lv' := [(0, .ref b9), (1, .ref (h 0)), (2, .int (nI 1)), (3, .int (nI t)), (5, .int (nI u76))]) [5, 6, 0, 7, 3] rfl ?_
                    exact K u76 S O (by omega) (G_mono (Nat.le_succ b) hG)
                  · exact absurd cq145 (by decide +kernel)
end LC
section LC
variable {pp : Program} {ll : Launch} {ee : Env} {ss : State} {mm : MethodId} {args : Array Value} {bl : List Frame} {mt : Method} {cc : Code} {QQ : State → Prop} {Y : GY} {AA : Nat → Prop}
set_option maxHeartbeats 4000000 in
set_option maxRecDepth 100000 in
theorem sg_1 (C : JC pp ss mm args mt cc Y AA 10 RL cL_law wsL_law) (hXS : XS ss) (hl0 : ll.stackTraces = false) {b9 LL : Nat} {xs : Nat → Int32} (hT : va_T .int b9 LL (fun j => .int (xs j)) AA ss ss.heap) (hLL : LL ≤ 260) {t kk nn b : Nat} (h a : Nat → Nat) (ht : t < 30) (hkk : kk + 250 ≤ 723245) (hnn : nn + 1500 ≤ 6931733) (hbd : b ≤ 900) {y : Nat} (S : ST) (O : OT) (hG : G b S) (n : Nat) (hn : n = dX (stD S) 1) (K : ∀ (S' : ST) (O' : OT), G b S' → n = dX (stD S') 1 → J pp ll ee room_1 ss mm args bl mt cc QQ Y AA 10 (kk + 250) (nn + 1500) 200 [(0, .ref b9), (1, .ref (h 0)), (2, .int (nI 1)), (3, .int (nI t)), (5, .int (nI y)), (9, .int (nI n))] [] (HW Y h a S' O')) : J pp ll ee room_1 ss mm args bl mt cc QQ Y AA 10 kk nn 182 [(0, .ref b9), (1, .ref (h 0)), (2, .int (nI 1)), (3, .int (nI t)), (5, .int (nI y))] [] (HW Y h a S O) := by
  refine J_aload_n C dL_law_182 rfl 1 rfl ?_
  refine J_iconst C dL_law_183 (v := nI 0) (by decide) ?_
  refine J_callI (wr := []) C (R_H (st := []) (wc := HW Y h a S O) C hXS (kW_value ll Y hl0 h a S O b 0 (hG) (by omega) (by decide)) (vx_cwSW 2 C.t gL_law_L_value rfl rfl rfl (by decide +kernel) ⟨by decide, by decide⟩) rfl (List.range 49) (HW_all Y h a S O) rng_nd49 rfl (Nat.le_of_ble_eq_true rfl) dL_law_184 ⟨by show _ ≤ 723245; omega, by show _ ≤ 6931733; omega⟩) (List.range 49) [] (HW_all Y h a S O) rfl (by decide) (by decide) (fun r184 u184 hw184 => ?_)
  subst hw184
  refine J_eq (pc' := 187) (lv' := [(0, .ref b9), (1, .ref (h 0)), (2, .int (nI 1)), (3, .int (nI t)), (5, .int (nI y))]) (st' := [.int (nI (abH (dX (stD S)) 0))]) (ws' := HW Y h a S O) rfl rfl rfl rfl ?_
  refine J_top (y := .int (nI n)) (by rw [hn]; rfl) ?_
  refine J_istore (lv' := [(9, .int (nI n)), (0, .ref b9), (1, .ref (h 0)), (2, .int (nI 1)), (3, .int (nI t)), (5, .int (nI y))]) C dL_law_187 (by decide) rfl ?_
  refine J_iload_n C dL_law_189 rfl 3 rfl ?_
  refine J_if_eqN (tgt := 360) C dL_law_190 (by decide) (by omega) (fun cq190 => ?_) (fun cq190 => ?_)
  · exact absurd cq190 (by omega)
  · refine J_aload_n C dL_law_193 rfl 2 rfl ?_
    refine J_callI (wr := []) C (R_P (st := []) (wc := HW Y h a S O) C hXS (kO_areGuests ll Y hl0 h a S O b (hG) (by omega)) (va_cwS 1 C.t gL_law_L_areGuests rfl rfl rfl (by decide +kernel) ⟨by decide, by decide⟩) rfl (List.range 49) (HW_all Y h a S O) rng_nd49 rfl (Nat.le_of_ble_eq_true rfl) dL_law_194 ⟨by show _ ≤ 723245; omega, by show _ ≤ 6931733; omega⟩) (List.range 49) [] (HW_all Y h a S O) rfl (by decide) (by decide) (fun r194 u194 hw194 => ?_)
    subst hw194
    refine J_eq (pc' := 197) (lv' := [(9, .int (nI n)), (0, .ref b9), (1, .ref (h 0)), (2, .int (nI 1)), (3, .int (nI t)), (5, .int (nI y))]) (st' := [.int (nI 1)]) (ws' := HW Y h a S O) rfl rfl rfl rfl ?_
    refine J_if_eqN (tgt := 360) C dL_law_197 (by decide) (by omega) (fun cq197 => ?_) (fun cq197 => ?_)
    · exact absurd cq197 (by omega)
    · refine J_wd (k' := kk + 250) (n' := nn + 1500) (by omega) (by omega) ?_
      refine J_lv (lv' := [(0, .ref b9), (1, .ref (h 0)), (2, .int (nI 1)), (3, .int (nI t)), (5, .int (nI y)), (9, .int (nI n))]) [1, 2, 3, 4, 5, 0] rfl ?_
      exact K S O hG hn
end LC
section LC
variable {pp : Program} {ll : Launch} {ee : Env} {ss : State} {mm : MethodId} {args : Array Value} {bl : List Frame} {mt : Method} {cc : Code} {QQ : State → Prop} {Y : GY} {AA : Nat → Prop}
set_option maxHeartbeats 4000000 in
set_option maxRecDepth 100000 in
theorem sg_2 (C : JC pp ss mm args mt cc Y AA 10 RL cL_law wsL_law) (hXS : XS ss) (hl0 : ll.stackTraces = false) {b9 LL : Nat} {xs : Nat → Int32} (hT : va_T .int b9 LL (fun j => .int (xs j)) AA ss ss.heap) (hLL : LL ≤ 260) {t kk nn b : Nat} (h a : Nat → Nat) (ht : t < 30) (hkk : kk + 250 ≤ 723245) (hnn : nn + 1500 ≤ 6931733) (hbd : b ≤ 900) {y n : Nat} (S : ST) (O : OT) (hG : G b S) (hy : y < 1000000) (hn : n = dX (stD S) 1) (K : ∀ (S' : ST) (O' : OT), G b S' → n = dX (stD S') 1 → J pp ll ee room_1 ss mm args bl mt cc QQ Y AA 10 (kk + 250) (nn + 1500) 216 [(0, .ref b9), (1, .ref (h 0)), (2, .int (nI 1)), (3, .int (nI t)), (5, .int (nI y)), (9, .int (nI n))] [] (HW Y h a S' O')) : J pp ll ee room_1 ss mm args bl mt cc QQ Y AA 10 kk nn 200 [(0, .ref b9), (1, .ref (h 0)), (2, .int (nI 1)), (3, .int (nI t)), (5, .int (nI y)), (9, .int (nI n))] [] (HW Y h a S O) := by
  have hn4 := EI_4 (G_E hG)
  refine J_iload_n C dL_law_200 rfl 3 rfl ?_
  refine J_bipush C dL_law_201 (v := nI 10) (by decide) ?_
  refine J_iremN C dL_law_203 (by omega) (by omega) (by omega) ?_
  refine J_bipush C dL_law_204 (v := nI 7) (by decide) ?_
  refine J_icmp_neN (tgt := 216) C dL_law_206 (by decide) (by omega) (by decide) (fun cq206 => ?_) (fun cq206 => ?_)
  · refine J_wd (k' := kk + 250) (n' := nn + 1500) (by omega) (by omega) ?_
    refine J_lv (lv' := [(0, .ref b9), (1, .ref (h 0)), (2, .int (nI 1)), (3, .int (nI t)), (5, .int (nI y)), (9, .int (nI n))]) [0, 1, 2, 3, 4, 5] rfl ?_
    exact K S O hG hn
  · refine J_aload_n C dL_law_209 rfl 1 rfl ?_
    refine J_callI (wr := []) C (R_P (st := []) (wc := HW Y h a S O) C hXS (kO_areDeals ll Y hl0 h a S O b (hG) (by omega)) (va_cwS 1 C.t gL_law_L_areDeals rfl rfl rfl (by decide +kernel) ⟨by decide, by decide⟩) rfl (List.range 49) (HW_all Y h a S O) rng_nd49 rfl (Nat.le_of_ble_eq_true rfl) dL_law_210 ⟨by show _ ≤ 723245; omega, by show _ ≤ 6931733; omega⟩) (List.range 49) [] (HW_all Y h a S O) rfl (by decide) (by decide) (fun r210 u210 hw210 => ?_)
    subst hw210
    refine J_eq (pc' := 213) (lv' := [(0, .ref b9), (1, .ref (h 0)), (2, .int (nI 1)), (3, .int (nI t)), (5, .int (nI y)), (9, .int (nI n))]) (st' := [.int (nI 1)]) (ws' := HW Y h a S O) rfl rfl rfl rfl ?_
    refine J_if_eqN (tgt := 360) C dL_law_213 (by decide) (by omega) (fun cq213 => ?_) (fun cq213 => ?_)
    · exact absurd cq213 (by omega)
    · refine J_wd (k' := kk + 250) (n' := nn + 1500) (by omega) (by omega) ?_
      refine J_lv (lv' := [(0, .ref b9), (1, .ref (h 0)), (2, .int (nI 1)), (3, .int (nI t)), (5, .int (nI y)), (9, .int (nI n))]) [0, 1, 2, 3, 4, 5] rfl ?_
      exact K S O hG hn
end LC
section LC
variable {pp : Program} {ll : Launch} {ee : Env} {ss : State} {mm : MethodId} {args : Array Value} {bl : List Frame} {mt : Method} {cc : Code} {QQ : State → Prop} {Y : GY} {AA : Nat → Prop}
set_option maxHeartbeats 4000000 in
set_option maxRecDepth 100000 in
theorem sg_3 (C : JC pp ss mm args mt cc Y AA 10 RL cL_law wsL_law) (hXS : XS ss) (hl0 : ll.stackTraces = false) {b9 LL : Nat} {xs : Nat → Int32} (hT : va_T .int b9 LL (fun j => .int (xs j)) AA ss ss.heap) (hLL : LL ≤ 260) {t kk nn b : Nat} (h a : Nat → Nat) (ht : t < 30) (hkk : kk + 250 ≤ 723245) (hnn : nn + 1500 ≤ 6931733) (hbd : b ≤ 900) {y n : Nat} (S : ST) (O : OT) (hG : G b S) (hy : y < 1000000) (hn : n = dX (stD S) 1) (K : ∀ (S' : ST) (O' : OT), G b S' → n = dX (stD S') 1 → J pp ll ee room_1 ss mm args bl mt cc QQ Y AA 10 (kk + 250) (nn + 1500) 263 [(0, .ref b9), (1, .ref (h 0)), (2, .int (nI 1)), (3, .int (nI t)), (5, .int (nI y)), (9, .int (nI n))] [] (HW Y h a S' O')) : J pp ll ee room_1 ss mm args bl mt cc QQ Y AA 10 kk nn 216 [(0, .ref b9), (1, .ref (h 0)), (2, .int (nI 1)), (3, .int (nI t)), (5, .int (nI y)), (9, .int (nI n))] [] (HW Y h a S O) := by
  have hn4 := EI_4 (G_E hG)
  refine J_iload_n C dL_law_216 rfl 3 rfl ?_
  refine J_iconst C dL_law_217 (v := nI 5) (by decide) ?_
  refine J_iremN C dL_law_218 (by omega) (by omega) (by omega) ?_
  refine J_iconst C dL_law_219 (v := nI 3) (by decide) ?_
  refine J_icmp_neN (tgt := 263) C dL_law_220 (by decide) (by omega) (by decide) (fun cq220 => ?_) (fun cq220 => ?_)
  · refine J_wd (k' := kk + 250) (n' := nn + 1500) (by omega) (by omega) ?_
    refine J_lv (lv' := [(0, .ref b9), (1, .ref (h 0)), (2, .int (nI 1)), (3, .int (nI t)), (5, .int (nI y)), (9, .int (nI n))]) [0, 1, 2, 3, 4, 5] rfl ?_
    exact K S O hG hn
  · refine J_iload C dL_law_223 5 rfl ?_
    refine J_if_eqN (tgt := 263) C dL_law_225 (by decide) (by omega) (fun cq225 => ?_) (fun cq225 => ?_)
    · refine J_wd (k' := kk + 250) (n' := nn + 1500) (by omega) (by omega) ?_
      refine J_lv (lv' := [(0, .ref b9), (1, .ref (h 0)), (2, .int (nI 1)), (3, .int (nI t)), (5, .int (nI y)), (9, .int (nI n))]) [0, 1, 2, 3, 4, 5] rfl ?_
      exact K S O hG hn
    · refine J_aload_n C dL_law_228 rfl 1 rfl ?_
      refine J_iload C dL_law_229 4 rfl ?_
      refine J_iload C dL_law_231 5 rfl ?_
      refine J_iremN C dL_law_233 (by omega) (by omega) (by omega) ?_
      refine J_iconst C dL_law_234 (v := nI 1) (by decide) ?_
      refine J_iload C dL_law_235 4 rfl ?_
      refine J_bipush C dL_law_237 (v := nI 9) (by decide) ?_
      refine J_idivN C dL_law_239 (by omega) (by omega) (by omega) ?_
      refine J_sipush C dL_law_240 (v := nI 255) (by decide) ?_
      refine J_iremN C dL_law_243 (by omega) (by omega) (by omega) ?_
      refine J_iaddN C dL_law_244 ?_
      refine J_iload C dL_law_245 4 rfl ?_
      refine J_iconst C dL_law_247 (v := nI 2) (by decide) ?_
      refine J_iremN C dL_law_248 (by omega) (by omega) (by omega) ?_
      refine J_if_neN (tgt := 256) C dL_law_249 (by decide) (by omega) (fun cq249 => ?_) (fun cq249 => ?_)
      · refine J_iconst C dL_law_256 (v := nI 0) (by decide) ?_
        refine J_top (y := .int (p2i (y % 2 = 0))) (by rw [p2i_f cq249]) ?_
        refine J_callI (wr := []) C (R_P (st := []) (wc := HW Y h a S O) C hXS (kO_isAsked ll Y hl0 h a S O b (y % n) (1 + ((y / 9) % 255)) (y % 2 = 0) (hG) (by omega) (by rw [← hn]; exact Nat.mod_lt _ (by omega)) (by omega)) (va_cwS 4 C.t gL_law_L_isAsked rfl rfl rfl (by decide +kernel) ⟨by decide, by decide⟩) rfl (List.range 49) (HW_all Y h a S O) rng_nd49 rfl (Nat.le_of_ble_eq_true rfl) dL_law_257 ⟨by show _ ≤ 723245; omega, by show _ ≤ 6931733; omega⟩) (List.range 49) [] (HW_all Y h a S O) rfl (by decide) (by decide) (fun r257 u257 hw257 => ?_)
        obtain ⟨rfl, he257, hG257⟩ := hw257
        refine J_eq (pc' := 260) (lv' := [(0, .ref b9), (1, .ref (h 0)), (2, .int (nI 1)), (3, .int (nI t)), (5, .int (nI y)), (9, .int (nI n))]) (st' := [.int (nI 1)]) (ws' := HW Y h a u257.1 u257.2) rfl rfl rfl rfl ?_
        refine J_if_eqN (tgt := 360) C dL_law_260 (by decide) (by omega) (fun cq260 => ?_) (fun cq260 => ?_)
        · exact absurd cq260 (by omega)
        · refine J_wd (k' := kk + 250) (n' := nn + 1500) (by omega) (by omega) ?_
          refine J_lv (lv' := [(0, .ref b9), (1, .ref (h 0)), (2, .int (nI 1)), (3, .int (nI t)), (5, .int (nI y)), (9, .int (nI n))]) [0, 1, 2, 3, 4, 5] rfl ?_
          exact K u257.1 u257.2 hG257 (hn.trans (by rw [he257]))
      · refine J_iconst C dL_law_252 (v := nI 1) (by decide) ?_
        refine J_goto (tgt := 257) C dL_law_253 (by decide) ?_
        refine J_top (y := .int (p2i (y % 2 = 0))) (by rw [p2i_t cq249]) ?_
        refine J_callI (wr := []) C (R_P (st := []) (wc := HW Y h a S O) C hXS (kO_isAsked ll Y hl0 h a S O b (y % n) (1 + ((y / 9) % 255)) (y % 2 = 0) (hG) (by omega) (by rw [← hn]; exact Nat.mod_lt _ (by omega)) (by omega)) (va_cwS 4 C.t gL_law_L_isAsked rfl rfl rfl (by decide +kernel) ⟨by decide, by decide⟩) rfl (List.range 49) (HW_all Y h a S O) rng_nd49 rfl (Nat.le_of_ble_eq_true rfl) dL_law_257 ⟨by show _ ≤ 723245; omega, by show _ ≤ 6931733; omega⟩) (List.range 49) [] (HW_all Y h a S O) rfl (by decide) (by decide) (fun r257 u257 hw257 => ?_)
        obtain ⟨rfl, he257, hG257⟩ := hw257
        refine J_eq (pc' := 260) (lv' := [(0, .ref b9), (1, .ref (h 0)), (2, .int (nI 1)), (3, .int (nI t)), (5, .int (nI y)), (9, .int (nI n))]) (st' := [.int (nI 1)]) (ws' := HW Y h a u257.1 u257.2) rfl rfl rfl rfl ?_
        refine J_if_eqN (tgt := 360) C dL_law_260 (by decide) (by omega) (fun cq260 => ?_) (fun cq260 => ?_)
        · exact absurd cq260 (by omega)
        · refine J_wd (k' := kk + 250) (n' := nn + 1500) (by omega) (by omega) ?_
          refine J_lv (lv' := [(0, .ref b9), (1, .ref (h 0)), (2, .int (nI 1)), (3, .int (nI t)), (5, .int (nI y)), (9, .int (nI n))]) [0, 1, 2, 3, 4, 5] rfl ?_
          exact K u257.1 u257.2 hG257 (hn.trans (by rw [he257]))
end LC
section LC
variable {pp : Program} {ll : Launch} {ee : Env} {ss : State} {mm : MethodId} {args : Array Value} {bl : List Frame} {mt : Method} {cc : Code} {QQ : State → Prop} {Y : GY} {AA : Nat → Prop}
set_option maxHeartbeats 4000000 in
set_option maxRecDepth 100000 in
theorem sg_4 (C : JC pp ss mm args mt cc Y AA 10 RL cL_law wsL_law) (hXS : XS ss) (hl0 : ll.stackTraces = false) {b9 LL : Nat} {xs : Nat → Int32} (hT : va_T .int b9 LL (fun j => .int (xs j)) AA ss ss.heap) (hLL : LL ≤ 260) {t kk nn b : Nat} (h a : Nat → Nat) (ht : t < 30) (hkk : kk + 250 ≤ 723245) (hnn : nn + 1500 ≤ 6931733) (hbd : b ≤ 900) {y n : Nat} (S : ST) (O : OT) (hG : G b S) (hy : y < 1000000) (hn : n = dX (stD S) 1) (K : ∀ (S' : ST) (O' : OT), G b S' → n = dX (stD S') 1 → J pp ll ee room_1 ss mm args bl mt cc QQ Y AA 10 (kk + 250) (nn + 1500) 286 [(0, .ref b9), (1, .ref (h 0)), (2, .int (nI 1)), (3, .int (nI t)), (5, .int (nI y)), (9, .int (nI n))] [] (HW Y h a S' O')) : J pp ll ee room_1 ss mm args bl mt cc QQ Y AA 10 kk nn 263 [(0, .ref b9), (1, .ref (h 0)), (2, .int (nI 1)), (3, .int (nI t)), (5, .int (nI y)), (9, .int (nI n))] [] (HW Y h a S O) := by
  have hn4 := EI_4 (G_E hG)
  refine J_iload_n C dL_law_263 rfl 3 rfl ?_
  refine J_bipush C dL_law_264 (v := nI 17) (by decide) ?_
  refine J_icmp_neN (tgt := 286) C dL_law_266 (by decide) (by omega) (by decide) (fun cq266 => ?_) (fun cq266 => ?_)
  · refine J_wd (k' := kk + 250) (n' := nn + 1500) (by omega) (by omega) ?_
    refine J_lv (lv' := [(0, .ref b9), (1, .ref (h 0)), (2, .int (nI 1)), (3, .int (nI t)), (5, .int (nI y)), (9, .int (nI n))]) [0, 1, 2, 3, 4, 5] rfl ?_
    exact K S O hG hn
  · refine J_iload C dL_law_269 5 rfl ?_
    refine J_if_eqN (tgt := 286) C dL_law_271 (by decide) (by omega) (fun cq271 => ?_) (fun cq271 => ?_)
    · refine J_wd (k' := kk + 250) (n' := nn + 1500) (by omega) (by omega) ?_
      refine J_lv (lv' := [(0, .ref b9), (1, .ref (h 0)), (2, .int (nI 1)), (3, .int (nI t)), (5, .int (nI y)), (9, .int (nI n))]) [0, 1, 2, 3, 4, 5] rfl ?_
      exact K S O hG hn
    · refine J_aload_n C dL_law_274 rfl 1 rfl ?_
      refine J_iload C dL_law_275 4 rfl ?_
      refine J_iload C dL_law_277 5 rfl ?_
      refine J_iremN C dL_law_279 (by omega) (by omega) (by omega) ?_
      refine J_callI (wr := []) C (R_P (st := []) (wc := HW Y h a S O) C hXS (kO_isBest ll Y hl0 h a S O b (y % n) (hG) (by omega) (by rw [← hn]; exact Nat.mod_lt _ (by omega))) (va_cwS 2 C.t gL_law_L_isBest rfl rfl rfl (by decide +kernel) ⟨by decide, by decide⟩) rfl (List.range 49) (HW_all Y h a S O) rng_nd49 rfl (Nat.le_of_ble_eq_true rfl) dL_law_280 ⟨by show _ ≤ 723245; omega, by show _ ≤ 6931733; omega⟩) (List.range 49) [] (HW_all Y h a S O) rfl (by decide) (by decide) (fun r280 u280 hw280 => ?_)
      subst hw280
      refine J_eq (pc' := 283) (lv' := [(0, .ref b9), (1, .ref (h 0)), (2, .int (nI 1)), (3, .int (nI t)), (5, .int (nI y)), (9, .int (nI n))]) (st' := [.int (nI 1)]) (ws' := HW Y h a S u280) rfl rfl rfl rfl ?_
      refine J_if_eqN (tgt := 360) C dL_law_283 (by decide) (by omega) (fun cq283 => ?_) (fun cq283 => ?_)
      · exact absurd cq283 (by omega)
      · refine J_wd (k' := kk + 250) (n' := nn + 1500) (by omega) (by omega) ?_
        refine J_lv (lv' := [(0, .ref b9), (1, .ref (h 0)), (2, .int (nI 1)), (3, .int (nI t)), (5, .int (nI y)), (9, .int (nI n))]) [0, 1, 2, 3, 4, 5] rfl ?_
        exact K S u280 hG hn
end LC
section LC
variable {pp : Program} {ll : Launch} {ee : Env} {ss : State} {mm : MethodId} {args : Array Value} {bl : List Frame} {mt : Method} {cc : Code} {QQ : State → Prop} {Y : GY} {AA : Nat → Prop}
set_option maxHeartbeats 4000000 in
set_option maxRecDepth 100000 in
theorem sg_5 (C : JC pp ss mm args mt cc Y AA 10 RL cL_law wsL_law) (hXS : XS ss) (hl0 : ll.stackTraces = false) {b9 LL : Nat} {xs : Nat → Int32} (hT : va_T .int b9 LL (fun j => .int (xs j)) AA ss ss.heap) (hLL : LL ≤ 260) {t kk nn b : Nat} (h a : Nat → Nat) (ht : t < 30) (hkk : kk + 250 ≤ 723245) (hnn : nn + 1500 ≤ 6931733) (hbd : b ≤ 900) {y n : Nat} (S : ST) (O : OT) (hG : G b S) (hy : y < 1000000) (hn : n = dX (stD S) 1) (K : ∀ (S' : ST) (O' : OT), G b S' → n = dX (stD S') 1 → J pp ll ee room_1 ss mm args bl mt cc QQ Y AA 10 (kk + 250) (nn + 1500) 318 [(0, .ref b9), (1, .ref (h 0)), (2, .int (nI 1)), (3, .int (nI t)), (5, .int (nI y)), (9, .int (nI n))] [] (HW Y h a S' O')) : J pp ll ee room_1 ss mm args bl mt cc QQ Y AA 10 kk nn 286 [(0, .ref b9), (1, .ref (h 0)), (2, .int (nI 1)), (3, .int (nI t)), (5, .int (nI y)), (9, .int (nI n))] [] (HW Y h a S O) := by
  have hn4 := EI_4 (G_E hG)
  refine J_iload_n C dL_law_286 rfl 3 rfl ?_
  refine J_bipush C dL_law_287 (v := nI 6) (by decide) ?_
  refine J_iremN C dL_law_289 (by omega) (by omega) (by omega) ?_
  refine J_iconst C dL_law_290 (v := nI 2) (by decide) ?_
  refine J_icmp_neN (tgt := 318) C dL_law_291 (by decide) (by omega) (by decide) (fun cq291 => ?_) (fun cq291 => ?_)
  · refine J_wd (k' := kk + 250) (n' := nn + 1500) (by omega) (by omega) ?_
    refine J_lv (lv' := [(0, .ref b9), (1, .ref (h 0)), (2, .int (nI 1)), (3, .int (nI t)), (5, .int (nI y)), (9, .int (nI n))]) [0, 1, 2, 3, 4, 5] rfl ?_
    exact K S O hG hn
  · refine J_iload C dL_law_294 5 rfl ?_
    refine J_if_eqN (tgt := 318) C dL_law_296 (by decide) (by omega) (fun cq296 => ?_) (fun cq296 => ?_)
    · refine J_wd (k' := kk + 250) (n' := nn + 1500) (by omega) (by omega) ?_
      refine J_lv (lv' := [(0, .ref b9), (1, .ref (h 0)), (2, .int (nI 1)), (3, .int (nI t)), (5, .int (nI y)), (9, .int (nI n))]) [0, 1, 2, 3, 4, 5] rfl ?_
      exact K S O hG hn
    · refine J_aload_n C dL_law_299 rfl 1 rfl ?_
      refine J_iload C dL_law_300 4 rfl ?_
      refine J_iload C dL_law_302 5 rfl ?_
      refine J_iremN C dL_law_304 (by omega) (by omega) (by omega) ?_
      refine J_iload C dL_law_305 4 rfl ?_
      refine J_iconst C dL_law_307 (v := nI 5) (by decide) ?_
      refine J_idivN C dL_law_308 (by omega) (by omega) (by omega) ?_
      refine J_bipush C dL_law_309 (v := nI 8) (by decide) ?_
      refine J_iremN C dL_law_311 (by omega) (by omega) (by omega) ?_
      refine J_callI (wr := []) C (R_P (st := []) (wc := HW Y h a S O) C hXS (kO_isProved ll Y hl0 h a S O b (y % n) ((y / 5) % 8) (hG) (by omega) (by rw [← hn]; exact Nat.mod_lt _ (by omega)) (by omega)) (va_cwS 3 C.t gL_law_L_isProved rfl rfl rfl (by decide +kernel) ⟨by decide, by decide⟩) rfl (List.range 49) (HW_all Y h a S O) rng_nd49 rfl (Nat.le_of_ble_eq_true rfl) dL_law_312 ⟨by show _ ≤ 723245; omega, by show _ ≤ 6931733; omega⟩) (List.range 49) [] (HW_all Y h a S O) rfl (by decide) (by decide) (fun r312 u312 hw312 => ?_)
      obtain ⟨rfl, he312, hG312⟩ := hw312
      refine J_eq (pc' := 315) (lv' := [(0, .ref b9), (1, .ref (h 0)), (2, .int (nI 1)), (3, .int (nI t)), (5, .int (nI y)), (9, .int (nI n))]) (st' := [.int (nI 1)]) (ws' := HW Y h a u312 O) rfl rfl rfl rfl ?_
      refine J_if_eqN (tgt := 360) C dL_law_315 (by decide) (by omega) (fun cq315 => ?_) (fun cq315 => ?_)
      · exact absurd cq315 (by omega)
      · refine J_wd (k' := kk + 250) (n' := nn + 1500) (by omega) (by omega) ?_
        refine J_lv (lv' := [(0, .ref b9), (1, .ref (h 0)), (2, .int (nI 1)), (3, .int (nI t)), (5, .int (nI y)), (9, .int (nI n))]) [0, 1, 2, 3, 4, 5] rfl ?_
        exact K u312 O hG312 (hn.trans (by rw [he312]))
end LC
section LC
variable {pp : Program} {ll : Launch} {ee : Env} {ss : State} {mm : MethodId} {args : Array Value} {bl : List Frame} {mt : Method} {cc : Code} {QQ : State → Prop} {Y : GY} {AA : Nat → Prop}
set_option maxHeartbeats 4000000 in
set_option maxRecDepth 100000 in
theorem sg_6 (C : JC pp ss mm args mt cc Y AA 10 RL cL_law wsL_law) (hXS : XS ss) (hl0 : ll.stackTraces = false) {b9 LL : Nat} {xs : Nat → Int32} (hT : va_T .int b9 LL (fun j => .int (xs j)) AA ss ss.heap) (hLL : LL ≤ 260) {t kk nn b : Nat} (h a : Nat → Nat) (ht : t < 30) (hkk : kk + 250 ≤ 723245) (hnn : nn + 1500 ≤ 6931733) (hbd : b ≤ 900) {y n : Nat} (S : ST) (O : OT) (hG : G b S) (hy : y < 1000000) (hn : n = dX (stD S) 1) (K : ∀ (S' : ST) (O' : OT), G b S' → n = dX (stD S') 1 → J pp ll ee room_1 ss mm args bl mt cc QQ Y AA 10 (kk + 250) (nn + 1500) 340 [(0, .ref b9), (1, .ref (h 0)), (2, .int (nI 1)), (3, .int (nI t)), (5, .int (nI y)), (9, .int (nI n))] [] (HW Y h a S' O')) : J pp ll ee room_1 ss mm args bl mt cc QQ Y AA 10 kk nn 318 [(0, .ref b9), (1, .ref (h 0)), (2, .int (nI 1)), (3, .int (nI t)), (5, .int (nI y)), (9, .int (nI n))] [] (HW Y h a S O) := by
  have hn4 := EI_4 (G_E hG)
  refine J_iload_n C dL_law_318 rfl 3 rfl ?_
  refine J_bipush C dL_law_319 (v := nI 7) (by decide) ?_
  refine J_iremN C dL_law_321 (by omega) (by omega) (by omega) ?_
  refine J_iconst C dL_law_322 (v := nI 5) (by decide) ?_
  refine J_icmp_neN (tgt := 340) C dL_law_323 (by decide) (by omega) (by decide) (fun cq323 => ?_) (fun cq323 => ?_)
  · refine J_wd (k' := kk + 250) (n' := nn + 1500) (by omega) (by omega) ?_
    refine J_lv (lv' := [(0, .ref b9), (1, .ref (h 0)), (2, .int (nI 1)), (3, .int (nI t)), (5, .int (nI y)), (9, .int (nI n))]) [0, 1, 2, 3, 4, 5] rfl ?_
    exact K S O hG hn
  · refine J_aload_n C dL_law_326 rfl 1 rfl ?_
    refine J_iload C dL_law_327 4 rfl ?_
    refine J_iconst C dL_law_329 (v := nI 3) (by decide) ?_
    refine J_idivN C dL_law_330 (by omega) (by omega) (by omega) ?_
    refine J_bipush C dL_law_331 (v := nI 8) (by decide) ?_
    refine J_iremN C dL_law_333 (by omega) (by omega) (by omega) ?_
    refine J_callI (wr := []) C (R_P (st := []) (wc := HW Y h a S O) C hXS (kO_isAccused ll Y hl0 h a S O b ((y / 3) % 8) (hG) (by omega) (by omega) (by first | assumption | omega)) (va_cwS 2 C.t gL_law_L_isAccused rfl rfl rfl (by decide +kernel) ⟨by decide, by decide⟩) rfl (List.range 49) (HW_all Y h a S O) rng_nd49 rfl (Nat.le_of_ble_eq_true rfl) dL_law_334 ⟨by show _ ≤ 723245; omega, by show _ ≤ 6931733; omega⟩) (List.range 49) [] (HW_all Y h a S O) rfl (by decide) (by decide) (fun r334 u334 hw334 => ?_)
    obtain ⟨rfl, he334, hG334⟩ := hw334
    refine J_eq (pc' := 337) (lv' := [(0, .ref b9), (1, .ref (h 0)), (2, .int (nI 1)), (3, .int (nI t)), (5, .int (nI y)), (9, .int (nI n))]) (st' := [.int (nI 1)]) (ws' := HW Y h a u334 O) rfl rfl rfl rfl ?_
    refine J_if_eqN (tgt := 360) C dL_law_337 (by decide) (by omega) (fun cq337 => ?_) (fun cq337 => ?_)
    · exact absurd cq337 (by omega)
    · refine J_wd (k' := kk + 250) (n' := nn + 1500) (by omega) (by omega) ?_
      refine J_lv (lv' := [(0, .ref b9), (1, .ref (h 0)), (2, .int (nI 1)), (3, .int (nI t)), (5, .int (nI y)), (9, .int (nI n))]) [0, 1, 2, 3, 4, 5] rfl ?_
      exact K u334 O hG334 (hn.trans (by rw [he334]))
end LC
section LC
variable {pp : Program} {ll : Launch} {ee : Env} {ss : State} {mm : MethodId} {args : Array Value} {bl : List Frame} {mt : Method} {cc : Code} {QQ : State → Prop} {Y : GY} {AA : Nat → Prop}
set_option maxHeartbeats 4000000 in
set_option maxRecDepth 100000 in
theorem sg_7 (C : JC pp ss mm args mt cc Y AA 10 RL cL_law wsL_law) (hXS : XS ss) (hl0 : ll.stackTraces = false) {b9 LL : Nat} {xs : Nat → Int32} (hT : va_T .int b9 LL (fun j => .int (xs j)) AA ss ss.heap) (hLL : LL ≤ 260) {t kk nn b : Nat} (h a : Nat → Nat) (ht : t < 30) (hkk : kk + 250 ≤ 723245) (hnn : nn + 1500 ≤ 6931733) (hbd : b ≤ 900) {y n : Nat} (S : ST) (O : OT) (hG : G b S) (hy : y < 1000000) (hn : n = dX (stD S) 1) (K : ∀ (S' : ST) (O' : OT), G b S' → n = dX (stD S') 1 → J pp ll ee room_1 ss mm args bl mt cc QQ Y AA 10 (kk + 250) (nn + 1500) 356 [(0, .ref b9), (1, .ref (h 0)), (2, .int (nI 1)), (3, .int (nI t)), (5, .int (nI y)), (9, .int (nI n))] [] (HW Y h a S' O')) : J pp ll ee room_1 ss mm args bl mt cc QQ Y AA 10 kk nn 340 [(0, .ref b9), (1, .ref (h 0)), (2, .int (nI 1)), (3, .int (nI t)), (5, .int (nI y)), (9, .int (nI n))] [] (HW Y h a S O) := by
  have hn4 := EI_4 (G_E hG)
  refine J_iload_n C dL_law_340 rfl 3 rfl ?_
  refine J_bipush C dL_law_341 (v := nI 11) (by decide) ?_
  refine J_iremN C dL_law_343 (by omega) (by omega) (by omega) ?_
  refine J_bipush C dL_law_344 (v := nI 8) (by decide) ?_
  refine J_icmp_neN (tgt := 356) C dL_law_346 (by decide) (by omega) (by decide) (fun cq346 => ?_) (fun cq346 => ?_)
  · refine J_wd (k' := kk + 250) (n' := nn + 1500) (by omega) (by omega) ?_
    refine J_lv (lv' := [(0, .ref b9), (1, .ref (h 0)), (2, .int (nI 1)), (3, .int (nI t)), (5, .int (nI y)), (9, .int (nI n))]) [0, 1, 2, 3, 4, 5] rfl ?_
    exact K S O hG hn
  · refine J_aload_n C dL_law_349 rfl 1 rfl ?_
    refine J_callI (wr := []) C (R_P (st := []) (wc := HW Y h a S O) C hXS (kO_refused ll Y hl0 h a S O b (hG) (by omega)) (va_cwS 1 C.t gL_law_L_refused rfl rfl rfl (by decide +kernel) ⟨by decide, by decide⟩) rfl (List.range 49) (HW_all Y h a S O) rng_nd49 rfl (Nat.le_of_ble_eq_true rfl) dL_law_350 ⟨by show _ ≤ 723245; omega, by show _ ≤ 6931733; omega⟩) (List.range 49) [] (HW_all Y h a S O) rfl (by decide) (by decide) (fun r350 u350 hw350 => ?_)
    subst hw350
    refine J_eq (pc' := 353) (lv' := [(0, .ref b9), (1, .ref (h 0)), (2, .int (nI 1)), (3, .int (nI t)), (5, .int (nI y)), (9, .int (nI n))]) (st' := [.int (nI 1)]) (ws' := HW Y h a S O) rfl rfl rfl rfl ?_
    refine J_if_eqN (tgt := 360) C dL_law_353 (by decide) (by omega) (fun cq353 => ?_) (fun cq353 => ?_)
    · exact absurd cq353 (by omega)
    · refine J_wd (k' := kk + 250) (n' := nn + 1500) (by omega) (by omega) ?_
      refine J_lv (lv' := [(0, .ref b9), (1, .ref (h 0)), (2, .int (nI 1)), (3, .int (nI t)), (5, .int (nI y)), (9, .int (nI n))]) [0, 1, 2, 3, 4, 5] rfl ?_
      exact K S O hG hn
end LC
section LC
variable {pp : Program} {ll : Launch} {ee : Env} {ss : State} {mm : MethodId} {args : Array Value} {bl : List Frame} {mt : Method} {cc : Code} {QQ : State → Prop} {Y : GY} {AA : Nat → Prop}
set_option maxHeartbeats 4000000 in
set_option maxRecDepth 100000 in
theorem lc_round (C : JC pp ss mm args mt cc Y AA 10 RL cL_law wsL_law) (hXS : XS ss) (hl0 : ll.stackTraces = false) {b9 LL : Nat} {xs : Nat → Int32} (hT : va_T .int b9 LL (fun j => .int (xs j)) AA ss ss.heap) (hLL : LL ≤ 260) {t kk nn b : Nat} (h a : Nat → Nat) (ht : t < 30) (hkk : kk + 2000 ≤ 723245) (hnn : nn + 12000 ≤ 6931733) (hbd : b + 1 ≤ 900) (S : ST) (O : OT) (hG : G b S) (K : ∀ (S' : ST) (O' : OT), G (b + 1) S' → J pp ll ee room_1 ss mm args bl mt cc QQ Y AA 10 (kk + 2000) (nn + 12000) 46 [(0, .ref b9), (1, .ref (h 0)), (2, .int (nI 1)), (3, .int (nI (t + 1)))] [] (HW Y h a S' O')) : J pp ll ee room_1 ss mm args bl mt cc QQ Y AA 10 kk nn 56 [(0, .ref b9), (1, .ref (h 0)), (2, .int (nI 1)), (3, .int (nI t))] [] (HW Y h a S O) := by
  refine sg_0 C hXS hl0 hT hLL h a ht (by omega) (by omega) (by omega) S O hG hbd (fun y S1 O1 hy hG1 => ?_)
  refine sg_1 C hXS hl0 hT hLL h a ht (by omega) (by omega) hbd S1 O1 hG1 (dX (stD S1) 1) rfl (fun S2 O2 hG2 hn2 => ?_)
  generalize dX (stD S1) 1 = n at hn2 ⊢
  refine sg_2 C hXS hl0 hT hLL h a ht (by omega) (by omega) hbd S2 O2 hG2 hy hn2 (fun S3 O3 hG3 hn3 => ?_)
  refine sg_3 C hXS hl0 hT hLL h a ht (by omega) (by omega) hbd S3 O3 hG3 hy hn3 (fun S4 O4 hG4 hn4 => ?_)
  refine sg_4 C hXS hl0 hT hLL h a ht (by omega) (by omega) hbd S4 O4 hG4 hy hn4 (fun S5 O5 hG5 hn5 => ?_)
  refine sg_5 C hXS hl0 hT hLL h a ht (by omega) (by omega) hbd S5 O5 hG5 hy hn5 (fun S6 O6 hG6 hn6 => ?_)
  refine sg_6 C hXS hl0 hT hLL h a ht (by omega) (by omega) hbd S6 O6 hG6 hy hn6 (fun S7 O7 hG7 hn7 => ?_)
  refine sg_7 C hXS hl0 hT hLL h a ht (by omega) (by omega) hbd S7 O7 hG7 hy hn7 (fun S8 O8 hG8 hn8 => ?_)
  refine J_iconst C dL_law_356 (v := nI 1) (by decide) ?_
  refine J_goto (tgt := 361) C dL_law_357 (by decide) ?_
  refine J_istore_n (lv' := [(2, .int (nI 1)), (0, .ref b9), (1, .ref (h 0)), (3, .int (nI t)), (5, .int (nI y)), (9, .int (nI n))]) C dL_law_361 rfl (by decide) rfl ?_
  refine J_iinc (j := 3) (v := nI (t + 1)) (lv' := [(3, .int (nI (t + 1))), (2, .int (nI 1)), (0, .ref b9), (1, .ref (h 0)), (5, .int (nI y)), (9, .int (nI n))]) C dL_law_362 rfl (nI_1 _) (by decide) rfl ?_
  refine J_goto (tgt := 46) C dL_law_365 (by decide) ?_
  refine J_wd (k' := kk + 2000) (n' := nn + 12000) (by omega) (by omega) ?_
  refine J_lv (lv' := [(0, .ref b9), (1, .ref (h 0)), (2, .int (nI 1)), (3, .int (nI (t + 1)))]) [2, 3, 1, 0] rfl ?_
  exact K S8 O8 hG8
end LC
section LC
variable {pp : Program} {ll : Launch} {ee : Env} {ss : State} {mm : MethodId} {args : Array Value} {bl : List Frame} {mt : Method} {cc : Code} {QQ : State → Prop} {Y : GY} {AA : Nat → Prop}
set_option maxHeartbeats 4000000 in
set_option maxRecDepth 100000 in
theorem lc_pre (C : JC pp ss mm args mt cc Y AA 10 RL cL_law wsL_law) (hXS : XS ss) (hl0 : ll.stackTraces = false) {b9 LL : Nat} {xs : Nat → Int32} (hT : va_T .int b9 LL (fun j => .int (xs j)) AA ss ss.heap) (hLL : LL ≤ 260) {kk nn b : Nat} (h a : Nat → Nat) (hkk : kk + 250 ≤ 723245) (hnn : nn + 1500 ≤ 6931733) (hbd : b ≤ 900) (S : ST) (O : OT) (hG : G b S) (hsc : stSc S = 0) (K : J pp ll ee room_1 ss mm args bl mt cc QQ Y AA 10 (kk + 250) (nn + 1500) 46 [(0, .ref b9), (1, .ref (h 0)), (2, .int (nI 1)), (3, .int (nI 0))] [] (HW Y h a S O)) : J pp ll ee room_1 ss mm args bl mt cc QQ Y AA 10 kk nn 8 [(0, .ref b9), (1, .ref (h 0))] [] (HW Y h a S O) := by
  have w0 := C.t _ (List.mem_of_getElem? (i := 3) (show wsL_law[3]? = some (Cond.constant RL 20 (-5000002)) from rfl))
  refine J_aload_n C dL_law_8 rfl 1 rfl ?_
  refine J_callI (wr := []) C (R_H (st := []) (wc := HW Y h a S O) C hXS (kW_undo_x1 ll Y hl0 h a S O b (hG) (by omega) (hsc)) (vx_cwSW 1 C.t gL_law_L_undo rfl rfl rfl (by decide +kernel) ⟨by decide, by decide⟩) rfl (List.range 49) (HW_all Y h a S O) rng_nd49 rfl (Nat.le_of_ble_eq_true rfl) dL_law_9 ⟨by show _ ≤ 723245; omega, by show _ ≤ 6931733; omega⟩) (List.range 49) [] (HW_all Y h a S O) rfl (by decide) (by decide) (fun r9 u9 hw9 => ?_)
  subst hw9
  refine J_eq (pc' := 12) (lv' := [(0, .ref b9), (1, .ref (h 0))]) (st' := [.int ((-5000002))]) (ws' := HW Y h a S O) rfl rfl rfl rfl ?_
  refine J_ldc C dL_law_12 (v := (-5000002)) w0 ?_
  refine J_icmp_ne (tgt := 42) C dL_law_14 (by decide) (fun cq14 => ?_) (fun cq14 => ?_)
  · exact absurd rfl cq14
  · refine J_aload_n C dL_law_17 rfl 1 rfl ?_
    refine J_callI (wr := []) C (R_P (st := []) (wc := HW Y h a S O) C hXS (kO_refused ll Y hl0 h a S O b (hG) (by omega)) (va_cwS 1 C.t gL_law_L_refused rfl rfl rfl (by decide +kernel) ⟨by decide, by decide⟩) rfl (List.range 49) (HW_all Y h a S O) rng_nd49 rfl (Nat.le_of_ble_eq_true rfl) dL_law_18 ⟨by show _ ≤ 723245; omega, by show _ ≤ 6931733; omega⟩) (List.range 49) [] (HW_all Y h a S O) rfl (by decide) (by decide) (fun r18 u18 hw18 => ?_)
    subst hw18
    refine J_eq (pc' := 21) (lv' := [(0, .ref b9), (1, .ref (h 0))]) (st' := [.int (nI 1)]) (ws' := HW Y h a S O) rfl rfl rfl rfl ?_
    refine J_if_eqN (tgt := 42) C dL_law_21 (by decide) (by omega) (fun cq21 => ?_) (fun cq21 => ?_)
    · exact absurd cq21 (by omega)
    · refine J_aload_n C dL_law_24 rfl 1 rfl ?_
      refine J_callI (wr := []) C (R_P (st := []) (wc := HW Y h a S O) C hXS (kO_areDeals ll Y hl0 h a S O b (hG) (by omega)) (va_cwS 1 C.t gL_law_L_areDeals rfl rfl rfl (by decide +kernel) ⟨by decide, by decide⟩) rfl (List.range 49) (HW_all Y h a S O) rng_nd49 rfl (Nat.le_of_ble_eq_true rfl) dL_law_25 ⟨by show _ ≤ 723245; omega, by show _ ≤ 6931733; omega⟩) (List.range 49) [] (HW_all Y h a S O) rfl (by decide) (by decide) (fun r25 u25 hw25 => ?_)
      subst hw25
      refine J_eq (pc' := 28) (lv' := [(0, .ref b9), (1, .ref (h 0))]) (st' := [.int (nI 1)]) (ws' := HW Y h a S O) rfl rfl rfl rfl ?_
      refine J_if_eqN (tgt := 42) C dL_law_28 (by decide) (by omega) (fun cq28 => ?_) (fun cq28 => ?_)
      · exact absurd cq28 (by omega)
      · refine J_aload_n C dL_law_31 rfl 1 rfl ?_
        refine J_callI (wr := []) C (R_P (st := []) (wc := HW Y h a S O) C hXS (kO_areGuests ll Y hl0 h a S O b (hG) (by omega)) (va_cwS 1 C.t gL_law_L_areGuests rfl rfl rfl (by decide +kernel) ⟨by decide, by decide⟩) rfl (List.range 49) (HW_all Y h a S O) rng_nd49 rfl (Nat.le_of_ble_eq_true rfl) dL_law_32 ⟨by show _ ≤ 723245; omega, by show _ ≤ 6931733; omega⟩) (List.range 49) [] (HW_all Y h a S O) rfl (by decide) (by decide) (fun r32 u32 hw32 => ?_)
        subst hw32
        refine J_eq (pc' := 35) (lv' := [(0, .ref b9), (1, .ref (h 0))]) (st' := [.int (nI 1)]) (ws' := HW Y h a S O) rfl rfl rfl rfl ?_
        refine J_if_eqN (tgt := 42) C dL_law_35 (by decide) (by omega) (fun cq35 => ?_) (fun cq35 => ?_)
        · exact absurd cq35 (by omega)
        · refine J_iconst C dL_law_38 (v := nI 1) (by decide) ?_
          refine J_goto (tgt := 43) C dL_law_39 (by decide) ?_
          refine J_istore_n (lv' := [(2, .int (nI 1)), (0, .ref b9), (1, .ref (h 0))]) C dL_law_43 rfl (by decide) rfl ?_
          refine J_iconst C dL_law_44 (v := nI 0) (by decide) ?_
          refine J_istore_n (lv' := [(3, .int (nI 0)), (2, .int (nI 1)), (0, .ref b9), (1, .ref (h 0))]) C dL_law_45 rfl (by decide) rfl ?_
          refine J_wd (k' := kk + 250) (n' := nn + 1500) (by omega) (by omega) ?_
          refine J_lv (lv' := [(0, .ref b9), (1, .ref (h 0)), (2, .int (nI 1)), (3, .int (nI 0))]) [2, 3, 1, 0] rfl ?_
          exact K
end LC
section LC
variable {pp : Program} {ll : Launch} {ee : Env} {ss : State} {mm : MethodId} {args : Array Value} {bl : List Frame} {mt : Method} {cc : Code} {QQ : State → Prop} {Y : GY} {AA : Nat → Prop}
set_option maxHeartbeats 4000000 in
set_option maxRecDepth 100000 in
theorem lc_post (C : JC pp ss mm args mt cc Y AA 10 RL cL_law wsL_law) (hXS : XS ss) (hl0 : ll.stackTraces = false) {b9 LL : Nat} {xs : Nat → Int32} (hT : va_T .int b9 LL (fun j => .int (xs j)) AA ss ss.heap) (hLL : LL ≤ 260) {t kk nn b : Nat} (h a : Nat → Nat) (hkk : kk + 250 ≤ 723245) (hnn : nn + 1500 ≤ 6931733) (hbd : b ≤ 900) (S : ST) (O : OT) (hG : G b S) (E : ∀ (lv : List (Nat × Value)) (ws : va_W), J pp ll ee room_1 ss mm args bl mt cc QQ Y AA 10 723245 6931733 391 lv [.int (nI 1)] ws) : J pp ll ee room_1 ss mm args bl mt cc QQ Y AA 10 kk nn 368 [(0, .ref b9), (1, .ref (h 0)), (2, .int (nI 1)), (3, .int (nI t))] [] (HW Y h a S O) := by
  refine J_iload_n C dL_law_368 rfl 2 rfl ?_
  refine J_if_eqN (tgt := 390) C dL_law_369 (by decide) (by omega) (fun cq369 => ?_) (fun cq369 => ?_)
  · exact absurd cq369 (by omega)
  · refine J_aload_n C dL_law_372 rfl 1 rfl ?_
    refine J_callI (wr := []) C (R_P (st := []) (wc := HW Y h a S O) C hXS (kO_refused ll Y hl0 h a S O b (hG) (by omega)) (va_cwS 1 C.t gL_law_L_refused rfl rfl rfl (by decide +kernel) ⟨by decide, by decide⟩) rfl (List.range 49) (HW_all Y h a S O) rng_nd49 rfl (Nat.le_of_ble_eq_true rfl) dL_law_373 ⟨by show _ ≤ 723245; omega, by show _ ≤ 6931733; omega⟩) (List.range 49) [] (HW_all Y h a S O) rfl (by decide) (by decide) (fun r373 u373 hw373 => ?_)
    subst hw373
    refine J_eq (pc' := 376) (lv' := [(0, .ref b9), (1, .ref (h 0)), (2, .int (nI 1)), (3, .int (nI t))]) (st' := [.int (nI 1)]) (ws' := HW Y h a S O) rfl rfl rfl rfl ?_
    refine J_if_eqN (tgt := 390) C dL_law_376 (by decide) (by omega) (fun cq376 => ?_) (fun cq376 => ?_)
    · exact absurd cq376 (by omega)
    · refine J_aload_n C dL_law_379 rfl 1 rfl ?_
      refine J_callI (wr := []) C (R_P (st := []) (wc := HW Y h a S O) C hXS (kO_areGuests ll Y hl0 h a S O b (hG) (by omega)) (va_cwS 1 C.t gL_law_L_areGuests rfl rfl rfl (by decide +kernel) ⟨by decide, by decide⟩) rfl (List.range 49) (HW_all Y h a S O) rng_nd49 rfl (Nat.le_of_ble_eq_true rfl) dL_law_380 ⟨by show _ ≤ 723245; omega, by show _ ≤ 6931733; omega⟩) (List.range 49) [] (HW_all Y h a S O) rfl (by decide) (by decide) (fun r380 u380 hw380 => ?_)
      subst hw380
      refine J_eq (pc' := 383) (lv' := [(0, .ref b9), (1, .ref (h 0)), (2, .int (nI 1)), (3, .int (nI t))]) (st' := [.int (nI 1)]) (ws' := HW Y h a S O) rfl rfl rfl rfl ?_
      refine J_if_eqN (tgt := 390) C dL_law_383 (by decide) (by omega) (fun cq383 => ?_) (fun cq383 => ?_)
      · exact absurd cq383 (by omega)
      · refine J_iconst C dL_law_386 (v := nI 1) (by decide) ?_
        refine J_goto (tgt := 391) C dL_law_387 (by decide) ?_
        refine J_wd (k' := 723245) (n' := 6931733) (by omega) (by omega) ?_
        exact E _ _
end LC
section LC
variable {pp : Program} {ll : Launch} {ee : Env} {ss : State} {mm : MethodId} {args : Array Value} {bl : List Frame} {mt : Method} {cc : Code} {QQ : State → Prop} {Y : GY} {AA : Nat → Prop}
set_option maxHeartbeats 4000000 in
set_option maxRecDepth 100000 in
theorem lc_loop (C : JC pp ss mm args mt cc Y AA 10 RL cL_law wsL_law) (hXS : XS ss) (hl0 : ll.stackTraces = false) {b9 LL : Nat} {xs : Nat → Int32} (hT : va_T .int b9 LL (fun j => .int (xs j)) AA ss ss.heap) (hLL : LL ≤ 260) (h a : Nat → Nat) (E : ∀ (lv : List (Nat × Value)) (ws : va_W), J pp ll ee room_1 ss mm args bl mt cc QQ Y AA 10 723245 6931733 391 lv [.int (nI 1)] ws) : ∀ (r t : Nat), t + r = 30 → t ≤ 30 → ∀ (S : ST) (O : OT), G t S → J pp ll ee room_1 ss mm args bl mt cc QQ Y AA 10 (1000 + 2000 * t) (60000 + 12000 * t) 46 [(0, .ref b9), (1, .ref (h 0)), (2, .int (nI 1)), (3, .int (nI t))] [] (HW Y h a S O) := by
  intro r
  induction r with
  | zero =>
    intro t ht ht2 S O hG
    refine J_iload_n C dL_law_46 rfl 3 rfl ?_
    refine J_bipush C dL_law_47 (v := nI 30) (by decide) ?_
    refine J_icmp_geN (tgt := 368) C dL_law_49 (by decide) (by omega) (by decide) (fun cq49 => ?_) (fun cq49 => ?_)
    · exact lc_post C hXS hl0 hT hLL h a (by omega) (by omega) (by omega) S O hG E
    · exact absurd cq49 (by omega)
  | succ r ih =>
    intro t ht ht2 S O hG
    refine J_iload_n C dL_law_46 rfl 3 rfl ?_
    refine J_bipush C dL_law_47 (v := nI 30) (by decide) ?_
    refine J_icmp_geN (tgt := 368) C dL_law_49 (by decide) (by omega) (by decide) (fun cq49 => ?_) (fun cq49 => ?_)
    · exact absurd cq49 (by omega)
    · refine J_iload_n C dL_law_52 rfl 2 rfl ?_
      refine J_if_eqN (tgt := 368) C dL_law_53 (by decide) (by omega) (fun cq53 => ?_) (fun cq53 => ?_)
      · exact absurd cq53 (by omega)
      · refine lc_round C hXS hl0 hT hLL h a (by omega) (by omega) (by omega) (by omega) S O hG (fun S1 O1 hG1 => ?_)
        exact J_wd (by omega) (by omega) (ih (t + 1) (by omega) (by omega) S1 O1 hG1)
end LC
section LC
variable {pp : Program} {ll : Launch} {ee : Env} {ss : State} {mm : MethodId} {args : Array Value} {bl : List Frame} {mt : Method} {cc : Code} {QQ : State → Prop} {Y : GY} {AA : Nat → Prop}
set_option maxHeartbeats 4000000 in
set_option maxRecDepth 100000 in
theorem lc_start (C : JC pp ss mm args mt cc Y AA 10 RL cL_law wsL_law) {b9 : Nat} (K : ∀ (h a : Nat → Nat) (sb : Nat → Nat → Nat), J pp ll ee room_1 ss mm args bl mt cc QQ Y AA 10 51 36109 8 [(0, .ref b9), (1, .ref (h 0))] [] (HW Y h a (S00 sb) O00)) : J pp ll ee room_1 ss mm args bl mt cc QQ Y AA 10 0 0 0 [(0, .ref b9)] [] [] := by
  have i4 : ∀ w ∈ wsX40, w ∈ wsL_law := inlX4
  have w0 := C.t _ (List.mem_of_getElem? (i := 0) (show wsL_law[0]? = some (Cond.classLink RL 10 "SecretDinner") from rfl))
  have w1 := C.t _ (List.mem_of_getElem? (i := 1) (show wsL_law[1]? = some (Cond.instantiable "SecretDinner" 7) from rfl))
  have w2 := C.t _ (List.mem_of_getElem? (i := 2) (show wsL_law[2]? = some (Cond.initialized "SecretDinner") from rfl))
  have w3 := C.t _ (List.mem_of_getElem? (i := 2) (show wsL_law[2]? = some (Cond.initialized RX4) from rfl))
  have w4 := C.t _ (List.mem_of_getElem? (i := 7) (show wsL_law[7]? = some (Cond.methodLink RL 152 yX4_init) from rfl))
  have w5 := C.t _ (List.mem_of_getElem? (i := 8) (show wsL_law[8]? = some (Cond.instanceMethod yX4_init) from rfl))
  refine J_new (ci := 4) (fs := [.null, .null, .int (nI 0), .null, .null, .null, .null]) C i4 tyX4 tyX4_ok w0 w1 w2 rfl (fun j hj => by rcases (show j = 0 ∨ j = 1 ∨ j = 2 ∨ j = 3 ∨ j = 4 ∨ j = 5 ∨ j = 6 by omega) with rfl | rfl | rfl | rfl | rfl | rfl | rfl <;> rfl) (Nat.le_of_ble_eq_true rfl) (Nat.le_of_ble_eq_true rfl) dL_law_0 (fun q0 => ?_)
  refine J_eq (ws' := [oB q0 4 [.null, .null, .int (nI 0), .null, .null, .null, .null]]) rfl rfl rfl rfl ?_
  refine J_dup C dL_law_3 rfl ?_
  refine J_callV (wr := []) C (R_I (st := [.ref q0]) (wc := [oB q0 4 [.null, .null, .int (nI 0), .null, .null, .null, .null]]) C (kX4_init ll Y q0) (cwI 0 C.t gL_law_X4_init rfl rfl rfl w3 w4 w5 rfl (by decide +kernel) ⟨by decide, by decide⟩) rfl [0] rfl (by decide) rfl (Nat.le_of_ble_eq_true rfl) dL_law_4 ⟨Nat.le_of_ble_eq_true rfl, Nat.le_of_ble_eq_true rfl⟩) [0] [] rfl rfl (by decide) (by decide) (fun u4 hw4 => ?_)
  obtain hw4 := hw4
  refine J_eq (pc' := 7) (lv' := [(0, .ref b9)]) (st' := [.ref q0]) (ws' := [oB (u4.1 0) 4 [.ref (u4.2.1 0), .ref (u4.1 1), .int (nI 0), .ref (u4.1 3), .ref (u4.1 4), .ref (u4.1 5), .ref (u4.1 6)], aQ Y (u4.1 1) 4 (fun i => some ((u4.2.2 i) 0)), oB (u4.2.1 0) 1 [.int (nI (((va_up (fun _ => 0) 0 1)) 0)), .int (nI (((va_up (fun _ => 0) 0 1)) 1)), .int (nI (((va_up (fun _ => 0) 0 1)) 2)), .int (nI (((va_up (fun _ => 0) 0 1)) 3)), .int (nI (((va_up (fun _ => 0) 0 1)) 4)), .int (nI (((va_up (fun _ => 0) 0 1)) 5)), .int (nI (((va_up (fun _ => 0) 0 1)) 6)), .int (nI (((va_up (fun _ => 0) 0 1)) 7)), .int (nI (((va_up (fun _ => 0) 0 1)) 8)), .ref (u4.2.1 1), .int (nI (((va_up (fun _ => 0) 0 1)) 10)), .ref (u4.2.1 2), .int (nI (((va_up (fun _ => 0) 0 1)) 12)), .ref (u4.2.1 3), .ref (u4.2.1 4), .ref (u4.2.1 5), .ref (u4.2.1 6)], aI Y (u4.2.1 1) 4 (nF (fun _ => 0)), aI Y (u4.2.1 2) 4 (nF (fun _ => 0)), aI Y (u4.2.1 3) 20 (nF (fun _ => 0)), aI Y (u4.2.1 4) 20 (nF (fun _ => 0)), aI Y (u4.2.1 5) 20 (nF (fun _ => 0)), oB (u4.2.1 6) 0 [.ref (u4.2.1 7), .int (nI ((([] : List Nat)).length)), .long (lN (andL (([] : List Nat)))), .long (lN (orL (([] : List Nat))))], aJ Y (u4.2.1 7) 5040 ((fun _ => 0)), oB (u4.1 3) 0 [.ref (u4.1 7), .int (nI ((([] : List Nat)).length)), .long (lN (andL (([] : List Nat)))), .long (lN (orL (([] : List Nat))))], aJ Y (u4.1 7) 5040 ((fun _ => 0)), oB (u4.1 4) 0 [.ref (u4.1 8), .int (nI ((([] : List Nat)).length)), .long (lN (andL (([] : List Nat)))), .long (lN (orL (([] : List Nat))))], aJ Y (u4.1 8) 5040 ((fun _ => 0)), oB (u4.1 5) 2 [.int (nI 0), .ref (u4.1 9), .ref (u4.1 10)], aI Y (u4.1 9) 256 ((fun _ => 0)), aI Y (u4.1 10) 9 ((fun _ => 0)), oB (u4.1 6) 3 [.ref (u4.1 11), .int (nI 0), .int (nI 0), .int (nI 0), .int (nI 0), .int (nI 0), .int (nI 0)], aI Y (u4.1 11) 90 ((fun _ => 0)), oB ((u4.2.2 0) 0) 1 [.int (nI (((va_up (fun _ => 0) 0 1)) 0)), .int (nI (((va_up (fun _ => 0) 0 1)) 1)), .int (nI (((va_up (fun _ => 0) 0 1)) 2)), .int (nI (((va_up (fun _ => 0) 0 1)) 3)), .int (nI (((va_up (fun _ => 0) 0 1)) 4)), .int (nI (((va_up (fun _ => 0) 0 1)) 5)), .int (nI (((va_up (fun _ => 0) 0 1)) 6)), .int (nI (((va_up (fun _ => 0) 0 1)) 7)), .int (nI (((va_up (fun _ => 0) 0 1)) 8)), .ref ((u4.2.2 0) 1), .int (nI (((va_up (fun _ => 0) 0 1)) 10)), .ref ((u4.2.2 0) 2), .int (nI (((va_up (fun _ => 0) 0 1)) 12)), .ref ((u4.2.2 0) 3), .ref ((u4.2.2 0) 4), .ref ((u4.2.2 0) 5), .ref ((u4.2.2 0) 6)], aI Y ((u4.2.2 0) 1) 4 (nF (fun _ => 0)), aI Y ((u4.2.2 0) 2) 4 (nF (fun _ => 0)), aI Y ((u4.2.2 0) 3) 20 (nF (fun _ => 0)), aI Y ((u4.2.2 0) 4) 20 (nF (fun _ => 0)), aI Y ((u4.2.2 0) 5) 20 (nF (fun _ => 0)), oB ((u4.2.2 0) 6) 0 [.ref ((u4.2.2 0) 7), .int (nI ((([] : List Nat)).length)), .long (lN (andL (([] : List Nat)))), .long (lN (orL (([] : List Nat))))], aJ Y ((u4.2.2 0) 7) 5040 ((fun _ => 0)), oB ((u4.2.2 1) 0) 1 [.int (nI (((va_up (fun _ => 0) 0 1)) 0)), .int (nI (((va_up (fun _ => 0) 0 1)) 1)), .int (nI (((va_up (fun _ => 0) 0 1)) 2)), .int (nI (((va_up (fun _ => 0) 0 1)) 3)), .int (nI (((va_up (fun _ => 0) 0 1)) 4)), .int (nI (((va_up (fun _ => 0) 0 1)) 5)), .int (nI (((va_up (fun _ => 0) 0 1)) 6)), .int (nI (((va_up (fun _ => 0) 0 1)) 7)), .int (nI (((va_up (fun _ => 0) 0 1)) 8)), .ref ((u4.2.2 1) 1), .int (nI (((va_up (fun _ => 0) 0 1)) 10)), .ref ((u4.2.2 1) 2), .int (nI (((va_up (fun _ => 0) 0 1)) 12)), .ref ((u4.2.2 1) 3), .ref ((u4.2.2 1) 4), .ref ((u4.2.2 1) 5), .ref ((u4.2.2 1) 6)], aI Y ((u4.2.2 1) 1) 4 (nF (fun _ => 0)), aI Y ((u4.2.2 1) 2) 4 (nF (fun _ => 0)), aI Y ((u4.2.2 1) 3) 20 (nF (fun _ => 0)), aI Y ((u4.2.2 1) 4) 20 (nF (fun _ => 0)), aI Y ((u4.2.2 1) 5) 20 (nF (fun _ => 0)), oB ((u4.2.2 1) 6) 0 [.ref ((u4.2.2 1) 7), .int (nI ((([] : List Nat)).length)), .long (lN (andL (([] : List Nat)))), .long (lN (orL (([] : List Nat))))], aJ Y ((u4.2.2 1) 7) 5040 ((fun _ => 0)), oB ((u4.2.2 2) 0) 1 [.int (nI (((va_up (fun _ => 0) 0 1)) 0)), .int (nI (((va_up (fun _ => 0) 0 1)) 1)), .int (nI (((va_up (fun _ => 0) 0 1)) 2)), .int (nI (((va_up (fun _ => 0) 0 1)) 3)), .int (nI (((va_up (fun _ => 0) 0 1)) 4)), .int (nI (((va_up (fun _ => 0) 0 1)) 5)), .int (nI (((va_up (fun _ => 0) 0 1)) 6)), .int (nI (((va_up (fun _ => 0) 0 1)) 7)), .int (nI (((va_up (fun _ => 0) 0 1)) 8)), .ref ((u4.2.2 2) 1), .int (nI (((va_up (fun _ => 0) 0 1)) 10)), .ref ((u4.2.2 2) 2), .int (nI (((va_up (fun _ => 0) 0 1)) 12)), .ref ((u4.2.2 2) 3), .ref ((u4.2.2 2) 4), .ref ((u4.2.2 2) 5), .ref ((u4.2.2 2) 6)], aI Y ((u4.2.2 2) 1) 4 (nF (fun _ => 0)), aI Y ((u4.2.2 2) 2) 4 (nF (fun _ => 0)), aI Y ((u4.2.2 2) 3) 20 (nF (fun _ => 0)), aI Y ((u4.2.2 2) 4) 20 (nF (fun _ => 0)), aI Y ((u4.2.2 2) 5) 20 (nF (fun _ => 0)), oB ((u4.2.2 2) 6) 0 [.ref ((u4.2.2 2) 7), .int (nI ((([] : List Nat)).length)), .long (lN (andL (([] : List Nat)))), .long (lN (orL (([] : List Nat))))], aJ Y ((u4.2.2 2) 7) 5040 ((fun _ => 0)), oB ((u4.2.2 3) 0) 1 [.int (nI (((va_up (fun _ => 0) 0 1)) 0)), .int (nI (((va_up (fun _ => 0) 0 1)) 1)), .int (nI (((va_up (fun _ => 0) 0 1)) 2)), .int (nI (((va_up (fun _ => 0) 0 1)) 3)), .int (nI (((va_up (fun _ => 0) 0 1)) 4)), .int (nI (((va_up (fun _ => 0) 0 1)) 5)), .int (nI (((va_up (fun _ => 0) 0 1)) 6)), .int (nI (((va_up (fun _ => 0) 0 1)) 7)), .int (nI (((va_up (fun _ => 0) 0 1)) 8)), .ref ((u4.2.2 3) 1), .int (nI (((va_up (fun _ => 0) 0 1)) 10)), .ref ((u4.2.2 3) 2), .int (nI (((va_up (fun _ => 0) 0 1)) 12)), .ref ((u4.2.2 3) 3), .ref ((u4.2.2 3) 4), .ref ((u4.2.2 3) 5), .ref ((u4.2.2 3) 6)], aI Y ((u4.2.2 3) 1) 4 (nF (fun _ => 0)), aI Y ((u4.2.2 3) 2) 4 (nF (fun _ => 0)), aI Y ((u4.2.2 3) 3) 20 (nF (fun _ => 0)), aI Y ((u4.2.2 3) 4) 20 (nF (fun _ => 0)), aI Y ((u4.2.2 3) 5) 20 (nF (fun _ => 0)), oB ((u4.2.2 3) 6) 0 [.ref ((u4.2.2 3) 7), .int (nI ((([] : List Nat)).length)), .long (lN (andL (([] : List Nat)))), .long (lN (orL (([] : List Nat))))], aJ Y ((u4.2.2 3) 7) 5040 ((fun _ => 0))]) rfl rfl rfl rfl ?_
  subst hw4
  refine J_astore_n (lv' := [(1, .ref (u4.1 0)), (0, .ref b9)]) C dL_law_7 rfl (by decide) rfl ?_
  refine J_perm (ws' := [oB (u4.1 0) 4 [.ref (u4.2.1 0), .ref (u4.1 1), .int (nI 0), .ref (u4.1 3), .ref (u4.1 4), .ref (u4.1 5), .ref (u4.1 6)], aQ Y (u4.1 1) 4 (fun i => some ((u4.2.2 i) 0)), oB (u4.2.1 0) 1 [.int (nI (((va_up (fun _ => 0) 0 1)) 0)), .int (nI (((va_up (fun _ => 0) 0 1)) 1)), .int (nI (((va_up (fun _ => 0) 0 1)) 2)), .int (nI (((va_up (fun _ => 0) 0 1)) 3)), .int (nI (((va_up (fun _ => 0) 0 1)) 4)), .int (nI (((va_up (fun _ => 0) 0 1)) 5)), .int (nI (((va_up (fun _ => 0) 0 1)) 6)), .int (nI (((va_up (fun _ => 0) 0 1)) 7)), .int (nI (((va_up (fun _ => 0) 0 1)) 8)), .ref (u4.2.1 1), .int (nI (((va_up (fun _ => 0) 0 1)) 10)), .ref (u4.2.1 2), .int (nI (((va_up (fun _ => 0) 0 1)) 12)), .ref (u4.2.1 3), .ref (u4.2.1 4), .ref (u4.2.1 5), .ref (u4.2.1 6)], aI Y (u4.2.1 1) 4 (nF (fun _ => 0)), aI Y (u4.2.1 2) 4 (nF (fun _ => 0)), aI Y (u4.2.1 3) 20 (nF (fun _ => 0)), aI Y (u4.2.1 4) 20 (nF (fun _ => 0)), aI Y (u4.2.1 5) 20 (nF (fun _ => 0)), oB (u4.2.1 6) 0 [.ref (u4.2.1 7), .int (nI ((([] : List Nat)).length)), .long (lN (andL (([] : List Nat)))), .long (lN (orL (([] : List Nat))))], aJ Y (u4.2.1 7) 5040 ((fun _ => 0)), oB (u4.1 3) 0 [.ref (u4.1 7), .int (nI ((([] : List Nat)).length)), .long (lN (andL (([] : List Nat)))), .long (lN (orL (([] : List Nat))))], aJ Y (u4.1 7) 5040 ((fun _ => 0)), oB (u4.1 4) 0 [.ref (u4.1 8), .int (nI ((([] : List Nat)).length)), .long (lN (andL (([] : List Nat)))), .long (lN (orL (([] : List Nat))))], aJ Y (u4.1 8) 5040 ((fun _ => 0)), oB ((u4.2.2 0) 0) 1 [.int (nI (((va_up (fun _ => 0) 0 1)) 0)), .int (nI (((va_up (fun _ => 0) 0 1)) 1)), .int (nI (((va_up (fun _ => 0) 0 1)) 2)), .int (nI (((va_up (fun _ => 0) 0 1)) 3)), .int (nI (((va_up (fun _ => 0) 0 1)) 4)), .int (nI (((va_up (fun _ => 0) 0 1)) 5)), .int (nI (((va_up (fun _ => 0) 0 1)) 6)), .int (nI (((va_up (fun _ => 0) 0 1)) 7)), .int (nI (((va_up (fun _ => 0) 0 1)) 8)), .ref ((u4.2.2 0) 1), .int (nI (((va_up (fun _ => 0) 0 1)) 10)), .ref ((u4.2.2 0) 2), .int (nI (((va_up (fun _ => 0) 0 1)) 12)), .ref ((u4.2.2 0) 3), .ref ((u4.2.2 0) 4), .ref ((u4.2.2 0) 5), .ref ((u4.2.2 0) 6)], aI Y ((u4.2.2 0) 1) 4 (nF (fun _ => 0)), aI Y ((u4.2.2 0) 2) 4 (nF (fun _ => 0)), aI Y ((u4.2.2 0) 3) 20 (nF (fun _ => 0)), aI Y ((u4.2.2 0) 4) 20 (nF (fun _ => 0)), aI Y ((u4.2.2 0) 5) 20 (nF (fun _ => 0)), oB ((u4.2.2 0) 6) 0 [.ref ((u4.2.2 0) 7), .int (nI ((([] : List Nat)).length)), .long (lN (andL (([] : List Nat)))), .long (lN (orL (([] : List Nat))))], aJ Y ((u4.2.2 0) 7) 5040 ((fun _ => 0)), oB ((u4.2.2 1) 0) 1 [.int (nI (((va_up (fun _ => 0) 0 1)) 0)), .int (nI (((va_up (fun _ => 0) 0 1)) 1)), .int (nI (((va_up (fun _ => 0) 0 1)) 2)), .int (nI (((va_up (fun _ => 0) 0 1)) 3)), .int (nI (((va_up (fun _ => 0) 0 1)) 4)), .int (nI (((va_up (fun _ => 0) 0 1)) 5)), .int (nI (((va_up (fun _ => 0) 0 1)) 6)), .int (nI (((va_up (fun _ => 0) 0 1)) 7)), .int (nI (((va_up (fun _ => 0) 0 1)) 8)), .ref ((u4.2.2 1) 1), .int (nI (((va_up (fun _ => 0) 0 1)) 10)), .ref ((u4.2.2 1) 2), .int (nI (((va_up (fun _ => 0) 0 1)) 12)), .ref ((u4.2.2 1) 3), .ref ((u4.2.2 1) 4), .ref ((u4.2.2 1) 5), .ref ((u4.2.2 1) 6)], aI Y ((u4.2.2 1) 1) 4 (nF (fun _ => 0)), aI Y ((u4.2.2 1) 2) 4 (nF (fun _ => 0)), aI Y ((u4.2.2 1) 3) 20 (nF (fun _ => 0)), aI Y ((u4.2.2 1) 4) 20 (nF (fun _ => 0)), aI Y ((u4.2.2 1) 5) 20 (nF (fun _ => 0)), oB ((u4.2.2 1) 6) 0 [.ref ((u4.2.2 1) 7), .int (nI ((([] : List Nat)).length)), .long (lN (andL (([] : List Nat)))), .long (lN (orL (([] : List Nat))))], aJ Y ((u4.2.2 1) 7) 5040 ((fun _ => 0)), oB ((u4.2.2 2) 0) 1 [.int (nI (((va_up (fun _ => 0) 0 1)) 0)), .int (nI (((va_up (fun _ => 0) 0 1)) 1)), .int (nI (((va_up (fun _ => 0) 0 1)) 2)), .int (nI (((va_up (fun _ => 0) 0 1)) 3)), .int (nI (((va_up (fun _ => 0) 0 1)) 4)), .int (nI (((va_up (fun _ => 0) 0 1)) 5)), .int (nI (((va_up (fun _ => 0) 0 1)) 6)), .int (nI (((va_up (fun _ => 0) 0 1)) 7)), .int (nI (((va_up (fun _ => 0) 0 1)) 8)), .ref ((u4.2.2 2) 1), .int (nI (((va_up (fun _ => 0) 0 1)) 10)), .ref ((u4.2.2 2) 2), .int (nI (((va_up (fun _ => 0) 0 1)) 12)), .ref ((u4.2.2 2) 3), .ref ((u4.2.2 2) 4), .ref ((u4.2.2 2) 5), .ref ((u4.2.2 2) 6)], aI Y ((u4.2.2 2) 1) 4 (nF (fun _ => 0)), aI Y ((u4.2.2 2) 2) 4 (nF (fun _ => 0)), aI Y ((u4.2.2 2) 3) 20 (nF (fun _ => 0)), aI Y ((u4.2.2 2) 4) 20 (nF (fun _ => 0)), aI Y ((u4.2.2 2) 5) 20 (nF (fun _ => 0)), oB ((u4.2.2 2) 6) 0 [.ref ((u4.2.2 2) 7), .int (nI ((([] : List Nat)).length)), .long (lN (andL (([] : List Nat)))), .long (lN (orL (([] : List Nat))))], aJ Y ((u4.2.2 2) 7) 5040 ((fun _ => 0)), oB ((u4.2.2 3) 0) 1 [.int (nI (((va_up (fun _ => 0) 0 1)) 0)), .int (nI (((va_up (fun _ => 0) 0 1)) 1)), .int (nI (((va_up (fun _ => 0) 0 1)) 2)), .int (nI (((va_up (fun _ => 0) 0 1)) 3)), .int (nI (((va_up (fun _ => 0) 0 1)) 4)), .int (nI (((va_up (fun _ => 0) 0 1)) 5)), .int (nI (((va_up (fun _ => 0) 0 1)) 6)), .int (nI (((va_up (fun _ => 0) 0 1)) 7)), .int (nI (((va_up (fun _ => 0) 0 1)) 8)), .ref ((u4.2.2 3) 1), .int (nI (((va_up (fun _ => 0) 0 1)) 10)), .ref ((u4.2.2 3) 2), .int (nI (((va_up (fun _ => 0) 0 1)) 12)), .ref ((u4.2.2 3) 3), .ref ((u4.2.2 3) 4), .ref ((u4.2.2 3) 5), .ref ((u4.2.2 3) 6)], aI Y ((u4.2.2 3) 1) 4 (nF (fun _ => 0)), aI Y ((u4.2.2 3) 2) 4 (nF (fun _ => 0)), aI Y ((u4.2.2 3) 3) 20 (nF (fun _ => 0)), aI Y ((u4.2.2 3) 4) 20 (nF (fun _ => 0)), aI Y ((u4.2.2 3) 5) 20 (nF (fun _ => 0)), oB ((u4.2.2 3) 6) 0 [.ref ((u4.2.2 3) 7), .int (nI ((([] : List Nat)).length)), .long (lN (andL (([] : List Nat)))), .long (lN (orL (([] : List Nat))))], aJ Y ((u4.2.2 3) 7) 5040 ((fun _ => 0)), oB (u4.1 5) 2 [.int (nI 0), .ref (u4.1 9), .ref (u4.1 10)], aI Y (u4.1 9) 256 ((fun _ => 0)), aI Y (u4.1 10) 9 ((fun _ => 0))]) [0, 1, 2, 3, 4, 5, 6, 7, 8, 9, 10, 11, 12, 13, 19, 20, 21, 22, 23, 24, 25, 26, 27, 28, 29, 30, 31, 32, 33, 34, 35, 36, 37, 38, 39, 40, 41, 42, 43, 44, 45, 46, 47, 48, 49, 50, 14, 15, 16] rfl (by decide) ?_
  refine J_lv (lv' := [(0, .ref b9), (1, .ref (u4.1 0))]) [1, 0] rfl ?_
  exact K u4.1 u4.2.1 u4.2.2
end LC
