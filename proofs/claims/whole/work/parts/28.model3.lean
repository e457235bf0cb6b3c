set_option maxHeartbeats 4000000 in
set_option maxRecDepth 100000 in
theorem kX5_tellGuest (ll : Launch) (Y : GY) (m : Nat → Nat) (v : Nat → Nat) (nw : Nat → Nat) (P : List Nat) (g : Nat) (w : Nat) (hM : ∀ k, k ≠ 2 → k ≠ 6 → nw k < 2147483648) (hP : P.length ≤ 5040) (hg : g < nw 0) (hn : nw 0 ≤ 4) (hw : w ≤ 7) : CT ll yX5_tellGuest wsX5_tellGuest { frames := 0, cells := 0, slots := 0, locals := 0 } Y [.ref (m 0), .int (nI g), .int (nI w)] [oB (m 0) 5 [.ref (m 1), .ref (m 2), .int (nI (((va_up v 6 P.length)) 2)), .int (nI (((va_up v 6 P.length)) 3)), .ref (m 3), .int (nI (((va_up v 6 P.length)) 5)), .int (nI (((va_up v 6 P.length)) 6)), .ref (m 4), .ref (m 5), .ref (m 6), .ref (m 7), .ref (m 8), .ref (m 9), .ref (m 10), .ref (m 11), .int (nI (((va_up v 6 P.length)) 15)), .int (nI (((va_up v 6 P.length)) 16)), .int (nI (((va_up v 6 P.length)) 17)), .int (nI (((va_up v 6 P.length)) 18)), .long (lN (((va_up v 6 P.length)) 19))], aI Y (m 1) 101 (nF nw), aI Y (m 6) 4 (nF (sS (nw 0) P)), aI Y (m 7) 4 (nF (sM (nw 0) P)), aI Y (m 8) 4 (nF (sL (nw 0) P))] (QI Y (fun (r : Int32) (_ : Unit) => r = nI (tgN nw P g w)) (fun _ => [oB (m 0) 5 [.ref (m 1), .ref (m 2), .int (nI (((va_up v 6 P.length)) 2)), .int (nI (((va_up v 6 P.length)) 3)), .ref (m 3), .int (nI (((va_up v 6 P.length)) 5)), .int (nI (((va_up v 6 P.length)) 6)), .ref (m 4), .ref (m 5), .ref (m 6), .ref (m 7), .ref (m 8), .ref (m 9), .ref (m 10), .ref (m 11), .int (nI (((va_up v 6 P.length)) 15)), .int (nI (((va_up v 6 P.length)) 16)), .int (nI (((va_up v 6 P.length)) 17)), .int (nI (((va_up v 6 P.length)) 18)), .long (lN (((va_up v 6 P.length)) 19))], aI Y (m 1) 101 (nF nw), aI Y (m 6) 4 (nF (sS (nw 0) P)), aI Y (m 7) 4 (nF (sM (nw 0) P)), aI Y (m 8) 4 (nF (sL (nw 0) P))])) 0 0 := by
  refine CT_of (cc := cX5_tellGuest) (maxL := 3) (ret := (some .int)) (by decide) rfl (Nat.le_of_ble_eq_true rfl) ?_
  intro pp ee ss mm bl mt cc AA C hr hnm
  have w0 := C.t _ (List.mem_of_getElem? (i := 1) (show wsX5_tellGuest[1]? = some (Cond.fieldLink RX5 7 "SecretDinnerModel" "now" "[I") from rfl))
  have w1 := C.t _ (List.mem_of_getElem? (i := 2) (show wsX5_tellGuest[2]? = some (Cond.fieldLink RX5 116 "SecretDinnerModel" "all" "I") from rfl))
  have w2 := C.t _ (List.mem_of_getElem? (i := 3) (show wsX5_tellGuest[3]? = some (Cond.fieldLink RX5 25 "SecretDinnerModel" "surely" "[I") from rfl))
  have w3 := C.t _ (List.mem_of_getElem? (i := 4) (show wsX5_tellGuest[4]? = some (Cond.fieldLink RX5 28 "SecretDinnerModel" "maybe" "[I") from rfl))
  have w4 := C.t _ (List.mem_of_getElem? (i := 5) (show wsX5_tellGuest[5]? = some (Cond.fieldLink RX5 31 "SecretDinnerModel" "lied" "[I") from rfl))
  have i5 : ∀ w ∈ wsX50, w ∈ wsX5_tellGuest := inPlaces [6, 7, 8, 9, 10, 11, 12, 13, 14, 15, 16, 17, 18, 19, 20, 21, 22, 23, 24, 25] (by decide +kernel)
  refine J_eq (lv' := [(0, .ref (m 0)), (1, .int (nI g)), (2, .int (nI w))]) (ws' := [oB (m 0) 5 [.ref (m 1), .ref (m 2), .int (nI (((va_up v 6 P.length)) 2)), .int (nI (((va_up v 6 P.length)) 3)), .ref (m 3), .int (nI (((va_up v 6 P.length)) 5)), .int (nI (((va_up v 6 P.length)) 6)), .ref (m 4), .ref (m 5), .ref (m 6), .ref (m 7), .ref (m 8), .ref (m 9), .ref (m 10), .ref (m 11), .int (nI (((va_up v 6 P.length)) 15)), .int (nI (((va_up v 6 P.length)) 16)), .int (nI (((va_up v 6 P.length)) 17)), .int (nI (((va_up v 6 P.length)) 18)), .long (lN (((va_up v 6 P.length)) 19))], aI Y (m 1) 101 (nF nw), aI Y (m 6) 4 (nF (sS (nw 0) P)), aI Y (m 7) 4 (nF (sM (nw 0) P)), aI Y (m 8) 4 (nF (sL (nw 0) P))]) rfl rfl rfl rfl ?_
  refine J_iload_n C dX5_tellGuest_0 rfl 2 rfl ?_
  rcases (show w = 0 ∨ w = 1 ∨ w = 2 ∨ w = 3 ∨ w = 4 ∨ w = 5 ∨ w = 6 ∨ w = 7 by omega) with rfl | rfl | rfl | rfl | rfl | rfl | rfl | rfl
  · refine J_tabIn (off := 43) (tgt := 44) C dX5_tellGuest_1 (by decide) (by decide) (by decide) (by decide) ?_
    refine J_aload_n C dX5_tellGuest_44 rfl 0 rfl ?_
    refine J_get (ci := 5) C i5 rfl 0 (by decide) w0 rfl 0 rfl rfl dX5_tellGuest_45 ?_
    refine J_bipush C dX5_tellGuest_48 (v := nI 9) (by decide) ?_
    refine J_iload_n C dX5_tellGuest_50 rfl 1 rfl ?_
    refine J_iaddN C dX5_tellGuest_51 ?_
    refine J_ialdF C 1 rfl (by omega) (by omega) dX5_tellGuest_52 ?_
    exact J_iret C hr dX5_tellGuest_53 (()) (rfl) (rfl)
  · refine J_tabIn (off := 53) (tgt := 54) C dX5_tellGuest_1 (by decide) (by decide) (by decide) (by decide) ?_
    refine J_aload_n C dX5_tellGuest_54 rfl 0 rfl ?_
    refine J_get (ci := 5) C i5 rfl 0 (by decide) w0 rfl 0 rfl rfl dX5_tellGuest_55 ?_
    refine J_bipush C dX5_tellGuest_58 (v := nI 17) (by decide) ?_
    refine J_iload_n C dX5_tellGuest_60 rfl 1 rfl ?_
    refine J_iaddN C dX5_tellGuest_61 ?_
    refine J_ialdF C 1 rfl (by omega) (by omega) dX5_tellGuest_62 ?_
    exact J_iret C hr dX5_tellGuest_63 (()) (rfl) (rfl)
  · refine J_tabIn (off := 63) (tgt := 64) C dX5_tellGuest_1 (by decide) (by decide) (by decide) (by decide) ?_
    refine J_aload_n C dX5_tellGuest_64 rfl 0 rfl ?_
    refine J_get (ci := 5) C i5 rfl 0 (by decide) w0 rfl 0 rfl rfl dX5_tellGuest_65 ?_
    refine J_bipush C dX5_tellGuest_68 (v := nI 25) (by decide) ?_
    refine J_iload_n C dX5_tellGuest_70 rfl 1 rfl ?_
    refine J_iaddN C dX5_tellGuest_71 ?_
    refine J_ialdF C 1 rfl (by omega) (by omega) dX5_tellGuest_72 ?_
    exact J_iret C hr dX5_tellGuest_73 (()) (rfl) (rfl)
  · refine J_tabIn (off := 73) (tgt := 74) C dX5_tellGuest_1 (by decide) (by decide) (by decide) (by decide) ?_
    refine J_aload_n C dX5_tellGuest_74 rfl 0 rfl ?_
    refine J_get (ci := 5) C i5 rfl 0 (by decide) w0 rfl 0 rfl rfl dX5_tellGuest_75 ?_
    refine J_bipush C dX5_tellGuest_78 (v := nI 29) (by decide) ?_
    refine J_iload_n C dX5_tellGuest_80 rfl 1 rfl ?_
    refine J_iaddN C dX5_tellGuest_81 ?_
    refine J_ialdF C 1 rfl (by omega) (by omega) dX5_tellGuest_82 ?_
    exact J_iret C hr dX5_tellGuest_83 (()) (rfl) (rfl)
  · refine J_tabIn (off := 83) (tgt := 84) C dX5_tellGuest_1 (by decide) (by decide) (by decide) (by decide) ?_
    refine J_aload_n C dX5_tellGuest_84 rfl 0 rfl ?_
    refine J_get (ci := 5) C i5 rfl 6 (by decide) w1 rfl 0 rfl rfl dX5_tellGuest_85 ?_
    refine J_if_neN (tgt := 95) C dX5_tellGuest_88 (by decide) (by show P.length < _; omega) (fun cq88 => ?_) (fun cq88 => ?_)
    · refine J_aload_n C dX5_tellGuest_95 rfl 0 rfl ?_
      refine J_get (ci := 5) C i5 rfl 9 (by decide) w2 rfl 0 rfl rfl dX5_tellGuest_96 ?_
      refine J_iload_n C dX5_tellGuest_99 rfl 1 rfl ?_
      refine J_ialdF C 2 rfl (by omega) (by omega) dX5_tellGuest_100 ?_
      exact J_iret C hr dX5_tellGuest_101 (()) (by first | rw [show tgN nw P g 4 = 0 from if_pos cq88] | rw [show tgN nw P g 4 = sS (nw 0) P g from if_neg cq88]) (rfl)
    · refine J_iconst C dX5_tellGuest_91 (v := nI 0) (by decide) ?_
      refine J_goto (tgt := 101) C dX5_tellGuest_92 (by decide) ?_
      exact J_iret C hr dX5_tellGuest_101 (()) (by first | rw [show tgN nw P g 4 = 0 from if_pos cq88] | rw [show tgN nw P g 4 = sS (nw 0) P g from if_neg cq88]) (rfl)
  · refine J_tabIn (off := 101) (tgt := 102) C dX5_tellGuest_1 (by decide) (by decide) (by decide) (by decide) ?_
    refine J_aload_n C dX5_tellGuest_102 rfl 0 rfl ?_
    refine J_get (ci := 5) C i5 rfl 10 (by decide) w3 rfl 0 rfl rfl dX5_tellGuest_103 ?_
    refine J_iload_n C dX5_tellGuest_106 rfl 1 rfl ?_
    refine J_ialdF C 3 rfl (by omega) (by omega) dX5_tellGuest_107 ?_
    exact J_iret C hr dX5_tellGuest_108 (()) (rfl) (rfl)
  · refine J_tabIn (off := 108) (tgt := 109) C dX5_tellGuest_1 (by decide) (by decide) (by decide) (by decide) ?_
    refine J_aload_n C dX5_tellGuest_109 rfl 0 rfl ?_
    refine J_get (ci := 5) C i5 rfl 6 (by decide) w1 rfl 0 rfl rfl dX5_tellGuest_110 ?_
    refine J_if_leN (tgt := 133) C dX5_tellGuest_113 (by decide) (by show P.length < _; omega) (fun cq113 => ?_) (fun cq113 => ?_)
    · refine J_iconst C dX5_tellGuest_133 (v := nI 0) (by decide) ?_
      exact J_iret C hr dX5_tellGuest_134 (()) (by rw [show tgN nw P g 6 = 0 from if_neg (fun z => by have e0 : P.length = 0 := cq113; have e1 := z.1; omega)]) (rfl)
    · refine J_aload_n C dX5_tellGuest_116 rfl 0 rfl ?_
      refine J_get (ci := 5) C i5 rfl 11 (by decide) w4 rfl 0 rfl rfl dX5_tellGuest_117 ?_
      refine J_iload_n C dX5_tellGuest_120 rfl 1 rfl ?_
      refine J_ialdF C 4 rfl (by omega) (by omega) dX5_tellGuest_121 ?_
      refine J_aload_n C dX5_tellGuest_122 rfl 0 rfl ?_
      refine J_get (ci := 5) C i5 rfl 6 (by decide) w1 rfl 0 rfl rfl dX5_tellGuest_123 ?_
      refine J_icmp_neN (tgt := 133) C dX5_tellGuest_126 (by decide) (Nat.lt_of_le_of_lt (sX_le (nw 0) 0 P g).2.2.1 (by omega)) (by show P.length < _; omega) (fun cq126 => ?_) (fun cq126 => ?_)
      · refine J_iconst C dX5_tellGuest_133 (v := nI 0) (by decide) ?_
        exact J_iret C hr dX5_tellGuest_134 (()) (by rw [show tgN nw P g 6 = 0 from if_neg (fun z => cq126 z.2)]) (rfl)
      · refine J_iconst C dX5_tellGuest_129 (v := nI 1) (by decide) ?_
        refine J_goto (tgt := 134) C dX5_tellGuest_130 (by decide) ?_
        exact J_iret C hr dX5_tellGuest_134 (()) (by rw [show tgN nw P g 6 = 1 from if_pos ⟨cq113, cq126⟩]) (rfl)
  · refine J_tabOut (tgt := 135) C dX5_tellGuest_1 (by decide) (by decide) ?_
    refine J_aload_n C dX5_tellGuest_135 rfl 0 rfl ?_
    refine J_get (ci := 5) C i5 rfl 0 (by decide) w0 rfl 0 rfl rfl dX5_tellGuest_136 ?_
    refine J_iconst C dX5_tellGuest_139 (v := nI 1) (by decide) ?_
    refine J_ialdF C 1 rfl (by omega) (by omega) dX5_tellGuest_140 ?_
    refine J_iconst C dX5_tellGuest_141 (v := nI 1) (by decide) ?_
    refine J_icmp_neN (tgt := 149) C dX5_tellGuest_142 (by decide) (hM (1) (by omega) (by omega)) (by decide) (fun cq142 => ?_) (fun cq142 => ?_)
    · refine J_aload_n C dX5_tellGuest_149 rfl 0 rfl ?_
      refine J_get (ci := 5) C i5 rfl 0 (by decide) w0 rfl 0 rfl rfl dX5_tellGuest_150 ?_
      refine J_bipush C dX5_tellGuest_153 (v := nI 13) (by decide) ?_
      refine J_iload_n C dX5_tellGuest_155 rfl 1 rfl ?_
      refine J_iaddN C dX5_tellGuest_156 ?_
      refine J_ialdF C 1 rfl (by omega) (by omega) dX5_tellGuest_157 ?_
      exact J_iret C hr dX5_tellGuest_158 (()) (by first | rw [show tgN nw P g 7 = 4294967295 from if_pos cq142, m1_nI] | rw [show tgN nw P g 7 = nw (13 + g) from if_neg cq142]) (rfl)
    · refine J_iconst C dX5_tellGuest_145 (v := iZ ((-1))) (by decide) ?_
      refine J_goto (tgt := 158) C dX5_tellGuest_146 (by decide) ?_
      exact J_iret C hr dX5_tellGuest_158 (()) (by first | rw [show tgN nw P g 7 = 4294967295 from if_pos cq142, m1_nI] | rw [show tgN nw P g 7 = nw (13 + g) from if_neg cq142]) (rfl)

set_option maxHeartbeats 4000000 in
set_option maxRecDepth 100000 in
theorem kX5_tellValue (ll : Launch) (Y : GY) (m : Nat → Nat) (v : Nat → Nat) (nw : Nat → Nat) (w : Nat) (hM : ∀ k, k ≠ 2 → k ≠ 6 → nw k < 2147483648) (hn : nw 0 ≤ 4) (hw : w ≤ 9) : CT ll yX5_tellValue wsX5_tellValue { frames := 1, cells := 0, slots := 0, locals := 22 } Y [.ref (m 0), .int (nI w)] [oB (m 0) 5 [.ref (m 1), .ref (m 2), .int (nI (v 2)), .int (nI (v 3)), .ref (m 3), .int (nI (v 5)), .int (nI (v 6)), .ref (m 4), .ref (m 5), .ref (m 6), .ref (m 7), .ref (m 8), .ref (m 9), .ref (m 10), .ref (m 11), .int (nI (v 15)), .int (nI (v 16)), .int (nI (v 17)), .int (nI (v 18)), .long (lN (v 19))], aI Y (m 1) 101 (nF nw)] (QI Y (fun (r : Int32) (_ : Unit) => r = nI (tvN nw w)) (fun _ => [oB (m 0) 5 [.ref (m 1), .ref (m 2), .int (nI (v 2)), .int (nI (v 3)), .ref (m 3), .int (nI (v 5)), .int (nI (v 6)), .ref (m 4), .ref (m 5), .ref (m 6), .ref (m 7), .ref (m 8), .ref (m 9), .ref (m 10), .ref (m 11), .int (nI (v 15)), .int (nI (v 16)), .int (nI (v 17)), .int (nI (v 18)), .long (lN (v 19))], aI Y (m 1) 101 (nF nw)])) 0 0 := by
  refine CT_of (cc := cX5_tellValue) (maxL := 2) (ret := (some .int)) (by decide) rfl (Nat.le_of_ble_eq_true rfl) ?_
  intro pp ee ss mm bl mt cc AA C hr hnm
  have w0 := C.t _ (List.mem_of_getElem? (i := 1) (show wsX5_tellValue[1]? = some (Cond.fieldLink RX5 7 "SecretDinnerModel" "now" "[I") from rfl))
  have i5 : ∀ w ∈ wsX50, w ∈ wsX5_tellValue := inPlaces [7, 8, 9, 10, 11, 12, 13, 14, 15, 16, 17, 18, 19, 20, 21, 22, 23, 24, 25, 26] (by decide +kernel)
  refine J_eq (lv' := [(0, .ref (m 0)), (1, .int (nI w))]) (ws' := [oB (m 0) 5 [.ref (m 1), .ref (m 2), .int (nI (v 2)), .int (nI (v 3)), .ref (m 3), .int (nI (v 5)), .int (nI (v 6)), .ref (m 4), .ref (m 5), .ref (m 6), .ref (m 7), .ref (m 8), .ref (m 9), .ref (m 10), .ref (m 11), .int (nI (v 15)), .int (nI (v 16)), .int (nI (v 17)), .int (nI (v 18)), .long (lN (v 19))], aI Y (m 1) 101 (nF nw)]) rfl rfl rfl rfl ?_
  refine J_iload_n C dX5_tellValue_0 rfl 1 rfl ?_
  rcases (show w = 0 ∨ w = 1 ∨ w = 2 ∨ w = 3 ∨ w = 4 ∨ w = 5 ∨ w = 6 ∨ w = 7 ∨ w = 8 ∨ w = 9 by omega) with rfl | rfl | rfl | rfl | rfl | rfl | rfl | rfl | rfl | rfl
  · refine J_tabIn (off := 51) (tgt := 52) C dX5_tellValue_1 (by decide) (by decide) (by decide) (by decide) ?_
    refine J_aload_n C dX5_tellValue_52 rfl 0 rfl ?_
    refine J_get (ci := 5) C i5 rfl 0 (by decide) w0 rfl 0 rfl rfl dX5_tellValue_53 ?_
    refine J_iload_n C dX5_tellValue_56 rfl 1 rfl ?_
    refine J_ialdF C 1 rfl (by omega) (by omega) dX5_tellValue_57 ?_
    exact J_iret C hr dX5_tellValue_58 (()) (rfl) (rfl)
  · refine J_tabIn (off := 51) (tgt := 52) C dX5_tellValue_1 (by decide) (by decide) (by decide) (by decide) ?_
    refine J_aload_n C dX5_tellValue_52 rfl 0 rfl ?_
    refine J_get (ci := 5) C i5 rfl 0 (by decide) w0 rfl 0 rfl rfl dX5_tellValue_53 ?_
    refine J_iload_n C dX5_tellValue_56 rfl 1 rfl ?_
    refine J_ialdF C 1 rfl (by omega) (by omega) dX5_tellValue_57 ?_
    exact J_iret C hr dX5_tellValue_58 (()) (rfl) (rfl)
  · refine J_tabIn (off := 58) (tgt := 59) C dX5_tellValue_1 (by decide) (by decide) (by decide) (by decide) ?_
    refine J_aload_n C dX5_tellValue_59 rfl 0 rfl ?_
    refine J_get (ci := 5) C i5 rfl 0 (by decide) w0 rfl 0 rfl rfl dX5_tellValue_60 ?_
    refine J_bipush C dX5_tellValue_63 (v := nI 7) (by decide) ?_
    refine J_ialdF C 1 rfl (by omega) (by omega) dX5_tellValue_65 ?_
    exact J_iret C hr dX5_tellValue_66 (()) (rfl) (rfl)
  · refine J_tabIn (off := 66) (tgt := 67) C dX5_tellValue_1 (by decide) (by decide) (by decide) (by decide) ?_
    refine J_aload_n C dX5_tellValue_67 rfl 0 rfl ?_
    refine J_get (ci := 5) C i5 rfl 0 (by decide) w0 rfl 0 rfl rfl dX5_tellValue_68 ?_
    refine J_bipush C dX5_tellValue_71 (v := nI 8) (by decide) ?_
    refine J_ialdF C 1 rfl (by omega) (by omega) dX5_tellValue_73 ?_
    exact J_iret C hr dX5_tellValue_74 (()) (rfl) (rfl)
  · refine J_tabIn (off := 74) (tgt := 75) C dX5_tellValue_1 (by decide) (by decide) (by decide) (by decide) ?_
    refine J_aload_n C dX5_tellValue_75 rfl 0 rfl ?_
    refine J_get (ci := 5) C i5 rfl 0 (by decide) w0 rfl 0 rfl rfl dX5_tellValue_76 ?_
    refine J_iconst C dX5_tellValue_79 (v := nI 4) (by decide) ?_
    refine J_iload_n C dX5_tellValue_80 rfl 1 rfl ?_
    refine J_iaddN C dX5_tellValue_81 ?_
    refine J_iconst C dX5_tellValue_82 (v := nI 4) (by decide) ?_
    refine J_isubN C dX5_tellValue_83 (by omega) ?_
    refine J_ialdF C 1 rfl (by omega) (by omega) dX5_tellValue_84 ?_
    exact J_iret C hr dX5_tellValue_85 (()) (rfl) (rfl)
  · refine J_tabIn (off := 74) (tgt := 75) C dX5_tellValue_1 (by decide) (by decide) (by decide) (by decide) ?_
    refine J_aload_n C dX5_tellValue_75 rfl 0 rfl ?_
    refine J_get (ci := 5) C i5 rfl 0 (by decide) w0 rfl 0 rfl rfl dX5_tellValue_76 ?_
    refine J_iconst C dX5_tellValue_79 (v := nI 4) (by decide) ?_
    refine J_iload_n C dX5_tellValue_80 rfl 1 rfl ?_
    refine J_iaddN C dX5_tellValue_81 ?_
    refine J_iconst C dX5_tellValue_82 (v := nI 4) (by decide) ?_
    refine J_isubN C dX5_tellValue_83 (by omega) ?_
    refine J_ialdF C 1 rfl (by omega) (by omega) dX5_tellValue_84 ?_
    exact J_iret C hr dX5_tellValue_85 (()) (rfl) (rfl)
  · refine J_tabIn (off := 74) (tgt := 75) C dX5_tellValue_1 (by decide) (by decide) (by decide) (by decide) ?_
    refine J_aload_n C dX5_tellValue_75 rfl 0 rfl ?_
    refine J_get (ci := 5) C i5 rfl 0 (by decide) w0 rfl 0 rfl rfl dX5_tellValue_76 ?_
    refine J_iconst C dX5_tellValue_79 (v := nI 4) (by decide) ?_
    refine J_iload_n C dX5_tellValue_80 rfl 1 rfl ?_
    refine J_iaddN C dX5_tellValue_81 ?_
    refine J_iconst C dX5_tellValue_82 (v := nI 4) (by decide) ?_
    refine J_isubN C dX5_tellValue_83 (by omega) ?_
    refine J_ialdF C 1 rfl (by omega) (by omega) dX5_tellValue_84 ?_
    exact J_iret C hr dX5_tellValue_85 (()) (rfl) (rfl)
  · refine J_tabIn (off := 85) (tgt := 86) C dX5_tellValue_1 (by decide) (by decide) (by decide) (by decide) ?_
    refine J_aload_n C dX5_tellValue_86 rfl 0 rfl ?_
    refine J_get (ci := 5) C i5 rfl 0 (by decide) w0 rfl 0 rfl rfl dX5_tellValue_87 ?_
    refine J_iconst C dX5_tellValue_90 (v := nI 3) (by decide) ?_
    refine J_ialdF C 1 rfl (by omega) (by omega) dX5_tellValue_91 ?_
    exact J_iret C hr dX5_tellValue_92 (()) (rfl) (rfl)
  · refine J_tabIn (off := 92) (tgt := 93) C dX5_tellValue_1 (by decide) (by decide) (by decide) (by decide) ?_
    refine J_aload_n C dX5_tellValue_93 rfl 0 rfl ?_
    refine J_callI (wr := []) C (R_V (st := []) (wc := [oB (m 0) 5 [.ref (m 1), .ref (m 2), .int (nI (v 2)), .int (nI (v 3)), .ref (m 3), .int (nI (v 5)), .int (nI (v 6)), .ref (m 4), .ref (m 5), .ref (m 6), .ref (m 7), .ref (m 8), .ref (m 9), .ref (m 10), .ref (m 11), .int (nI (v 15)), .int (nI (v 16)), .int (nI (v 17)), .int (nI (v 18)), .long (lN (v 19))], aI Y (m 1) 101 (nF nw)]) C (kX5_present ll Y m v nw (by first | assumption | omega)) (cwV 0 C.t gX5_tellValue_X5_present rfl rfl rfl (by decide +kernel) ⟨by decide, by decide⟩) rfl [0, 1] rfl (by decide) ⟨0, 5, _, _, rfl, rfl, rfl⟩ rfl (Nat.le_of_ble_eq_true rfl) dX5_tellValue_94 ⟨Nat.le_of_ble_eq_true rfl, Nat.le_of_ble_eq_true rfl⟩) [0, 1] [] rfl rfl (by decide) (by decide) (fun r94 u94 hw94 => ?_)
    subst hw94
    refine J_eq (pc' := 97) (lv' := [(0, .ref (m 0)), (1, .int (nI 8))]) (st' := [.int (nI (prN nw (nw 0)))]) (ws' := [oB (m 0) 5 [.ref (m 1), .ref (m 2), .int (nI (v 2)), .int (nI (v 3)), .ref (m 3), .int (nI (v 5)), .int (nI (v 6)), .ref (m 4), .ref (m 5), .ref (m 6), .ref (m 7), .ref (m 8), .ref (m 9), .ref (m 10), .ref (m 11), .int (nI (v 15)), .int (nI (v 16)), .int (nI (v 17)), .int (nI (v 18)), .long (lN (v 19))], aI Y (m 1) 101 (nF nw)]) rfl rfl rfl rfl ?_
    exact J_iret C hr dX5_tellValue_97 (()) (rfl) (rfl)
  · refine J_tabOut (tgt := 98) C dX5_tellValue_1 (by decide) (by decide) ?_
    refine J_aload_n C dX5_tellValue_98 rfl 0 rfl ?_
    refine J_get (ci := 5) C i5 rfl 0 (by decide) w0 rfl 0 rfl rfl dX5_tellValue_99 ?_
    refine J_iconst C dX5_tellValue_102 (v := nI 1) (by decide) ?_
    refine J_ialdF C 1 rfl (by omega) (by omega) dX5_tellValue_103 ?_
    refine J_iconst C dX5_tellValue_104 (v := nI 1) (by decide) ?_
    refine J_icmp_neN (tgt := 112) C dX5_tellValue_105 (by decide) (hM (1) (by omega) (by omega)) (by decide) (fun cq105 => ?_) (fun cq105 => ?_)
    · refine J_aload_n C dX5_tellValue_112 rfl 0 rfl ?_
      refine J_get (ci := 5) C i5 rfl 0 (by decide) w0 rfl 0 rfl rfl dX5_tellValue_113 ?_
      refine J_iconst C dX5_tellValue_116 (v := nI 2) (by decide) ?_
      refine J_ialdF C 1 rfl (by omega) (by omega) dX5_tellValue_117 ?_
      exact J_iret C hr dX5_tellValue_118 (()) (by first | rw [show tvN nw 9 = 4294967295 from if_pos cq105, m1_nI] | rw [show tvN nw 9 = nw 2 from if_neg cq105]) (rfl)
    · refine J_iconst C dX5_tellValue_108 (v := iZ ((-1))) (by decide) ?_
      refine J_goto (tgt := 118) C dX5_tellValue_109 (by decide) ?_
      exact J_iret C hr dX5_tellValue_118 (()) (by first | rw [show tvN nw 9 = 4294967295 from if_pos cq105, m1_nI] | rw [show tvN nw 9 = nw 2 from if_neg cq105]) (rfl)

set_option maxHeartbeats 4000000 in
set_option maxRecDepth 100000 in
theorem kX5_leftBehind (ll : Launch) (Y : GY) (m : Nat → Nat) (v : Nat → Nat) (hh : Nat → Nat) (cards : Nat) (ans : Nat) (hcs : cards < 256) (han : ans ≤ 8) : CT ll yX5_leftBehind wsX5_leftBehind { frames := 1, cells := 0, slots := 0, locals := 22 } Y [.ref (m 0), .int (nI cards), .int (nI ans)] [oB (m 0) 5 [.ref (m 1), .ref (m 2), .int (nI (v 2)), .int (nI (v 3)), .ref (m 3), .int (nI (v 5)), .int (nI (v 6)), .ref (m 4), .ref (m 5), .ref (m 6), .ref (m 7), .ref (m 8), .ref (m 9), .ref (m 10), .ref (m 11), .int (nI (v 15)), .int (nI (v 16)), .int (nI (v 17)), .int (nI (v 18)), .long (lN (v 19))], aI Y (m 9) 512 (nF hh)] (QI Y (fun (r : Int32) (_ : Unit) => r = nI (lbM hh cards ans 256)) (fun _ => [oB (m 0) 5 [.ref (m 1), .ref (m 2), .int (nI (v 2)), .int (nI (v 3)), .ref (m 3), .int (nI (v 5)), .int (nI (v 6)), .ref (m 4), .ref (m 5), .ref (m 6), .ref (m 7), .ref (m 8), .ref (m 9), .ref (m 10), .ref (m 11), .int (nI (v 15)), .int (nI (v 16)), .int (nI (v 17)), .int (nI (v 18)), .long (lN (v 19))], aI Y (m 9) 512 (nF hh)])) 0 0 := by
  refine CT_of (cc := cX5_leftBehind) (maxL := 5) (ret := (some .int)) (by decide) rfl (Nat.le_of_ble_eq_true rfl) ?_
  intro pp ee ss mm bl mt cc AA C hr hnm
  have w0 := C.t _ (List.mem_of_getElem? (i := 1) (show wsX5_leftBehind[1]? = some (Cond.fieldLink RX5 34 "SecretDinnerModel" "hands" "[I") from rfl))
  have i5 : ∀ w ∈ wsX50, w ∈ wsX5_leftBehind := inPlaces [6, 7, 8, 9, 10, 11, 12, 13, 14, 15, 16, 17, 18, 19, 20, 21, 22, 23, 24, 25] (by decide +kernel)
  refine J_eq (lv' := [(0, .ref (m 0)), (1, .int (nI cards)), (2, .int (nI ans))]) (ws' := [oB (m 0) 5 [.ref (m 1), .ref (m 2), .int (nI (v 2)), .int (nI (v 3)), .ref (m 3), .int (nI (v 5)), .int (nI (v 6)), .ref (m 4), .ref (m 5), .ref (m 6), .ref (m 7), .ref (m 8), .ref (m 9), .ref (m 10), .ref (m 11), .int (nI (v 15)), .int (nI (v 16)), .int (nI (v 17)), .int (nI (v 18)), .long (lN (v 19))], aI Y (m 9) 512 (nF hh)]) rfl rfl rfl rfl ?_
  refine J_iconst C dX5_leftBehind_0 (v := nI 0) (by decide) ?_
  refine J_istore_n (lv' := [(3, .int (nI 0)), (0, .ref (m 0)), (1, .int (nI cards)), (2, .int (nI ans))]) C dX5_leftBehind_1 rfl (by decide) rfl ?_
  refine J_iconst C dX5_leftBehind_2 (v := nI 0) (by decide) ?_
  refine J_istore (lv' := [(4, .int (nI 0)), (3, .int (nI 0)), (0, .ref (m 0)), (1, .int (nI cards)), (2, .int (nI ans))]) C dX5_leftBehind_3 (by decide) rfl ?_
  refine J_lv (lv' := [(0, .ref (m 0)), (1, .int (nI cards)), (2, .int (nI ans)), (3, .int (nI 0)), (4, .int (nI 0))]) [2, 3, 4, 1, 0] rfl ?_
  refine J_loop (σ := Nat) (I := fun (h : Nat) => (h ≤ 256)) (μ := fun (h : Nat) => 256 - h) (lvf := fun (h : Nat) => [(0, .ref (m 0)), (1, .int (nI cards)), (2, .int (nI ans)), (3, .int (nI (lbM hh cards ans h))), (4, .int (nI h))]) (stf := fun (h : Nat) => []) (wsf := fun (h : Nat) => [oB (m 0) 5 [.ref (m 1), .ref (m 2), .int (nI (v 2)), .int (nI (v 3)), .ref (m 3), .int (nI (v 5)), .int (nI (v 6)), .ref (m 4), .ref (m 5), .ref (m 6), .ref (m 7), .ref (m 8), .ref (m 9), .ref (m 10), .ref (m 11), .int (nI (v 15)), .int (nI (v 16)), .int (nI (v 17)), .int (nI (v 18)), .long (lN (v 19))], aI Y (m 9) 512 (nF hh)]) ?_ (0) (by omega) (rfl) rfl (rfl)
  rintro h hh8 ih5
  refine J_eq (lv' := [(0, .ref (m 0)), (1, .int (nI cards)), (2, .int (nI ans)), (3, .int (nI (lbM hh cards ans h))), (4, .int (nI h))]) (st' := []) (ws' := [oB (m 0) 5 [.ref (m 1), .ref (m 2), .int (nI (v 2)), .int (nI (v 3)), .ref (m 3), .int (nI (v 5)), .int (nI (v 6)), .ref (m 4), .ref (m 5), .ref (m 6), .ref (m 7), .ref (m 8), .ref (m 9), .ref (m 10), .ref (m 11), .int (nI (v 15)), .int (nI (v 16)), .int (nI (v 17)), .int (nI (v 18)), .long (lN (v 19))], aI Y (m 9) 512 (nF hh)]) rfl rfl rfl rfl ?_
  refine J_iload C dX5_leftBehind_5 4 rfl ?_
  refine J_sipush C dX5_leftBehind_7 (v := nI 256) (by decide) ?_
  refine J_icmp_geN (tgt := 58) C dX5_leftBehind_10 (by decide) (by omega) (by omega) (fun cq10 => ?_) (fun cq10 => ?_)
  · refine J_iload_n C dX5_leftBehind_58 rfl 3 rfl ?_
    exact J_iret C hr dX5_leftBehind_59 (()) (by rw [show h = 256 from by omega]) (rfl)
  · refine J_iload_n C dX5_leftBehind_13 rfl 3 rfl ?_
    refine J_aload_n C dX5_leftBehind_14 rfl 0 rfl ?_
    refine J_get (ci := 5) C i5 rfl 12 (by decide) w0 rfl 0 rfl rfl dX5_leftBehind_15 ?_
    refine J_iconst C dX5_leftBehind_18 (v := nI 2) (by decide) ?_
    refine J_iload C dX5_leftBehind_19 4 rfl ?_
    refine J_imulN C dX5_leftBehind_21 ?_
    refine J_ialdF C 1 rfl (by omega) (by omega) dX5_leftBehind_22 ?_
    refine J_iload C dX5_leftBehind_23 4 rfl ?_
    refine J_iload_n C dX5_leftBehind_25 rfl 1 rfl ?_
    refine J_iandN C dX5_leftBehind_26 ?_
    refine J_callI (wr := [oB (m 0) 5 [.ref (m 1), .ref (m 2), .int (nI (v 2)), .int (nI (v 3)), .ref (m 3), .int (nI (v 5)), .int (nI (v 6)), .ref (m 4), .ref (m 5), .ref (m 6), .ref (m 7), .ref (m 8), .ref (m 9), .ref (m 10), .ref (m 11), .int (nI (v 15)), .int (nI (v 16)), .int (nI (v 17)), .int (nI (v 18)), .long (lN (v 19))], aI Y (m 9) 512 (nF hh)]) C (R_S (st := [.int (nI (hh (2 * h))), .int (nI (lbM hh cards ans h))]) (wc := []) C (kX5_many ll Y (h &&& cards) (Nat.lt_of_le_of_lt Nat.and_le_right hcs)) (va_cwS 1 C.t gX5_leftBehind_X5_many rfl rfl rfl (by decide +kernel) ⟨by decide, by decide⟩) rfl [] rfl (by decide) rfl (Nat.le_of_ble_eq_true rfl) dX5_leftBehind_27 ⟨Nat.le_of_ble_eq_true rfl, Nat.le_of_ble_eq_true rfl⟩) [] [0, 1] rfl rfl (by decide) (by decide) (fun r27 u27 hw27 => ?_)
    subst hw27
    refine J_eq (pc' := 30) (lv' := [(0, .ref (m 0)), (1, .int (nI cards)), (2, .int (nI ans)), (3, .int (nI (lbM hh cards ans h))), (4, .int (nI h))]) (st' := [.int (nI (pc8 (h &&& cards))), .int (nI (hh (2 * h))), .int (nI (lbM hh cards ans h))]) (ws' := [oB (m 0) 5 [.ref (m 1), .ref (m 2), .int (nI (v 2)), .int (nI (v 3)), .ref (m 3), .int (nI (v 5)), .int (nI (v 6)), .ref (m 4), .ref (m 5), .ref (m 6), .ref (m 7), .ref (m 8), .ref (m 9), .ref (m 10), .ref (m 11), .int (nI (v 15)), .int (nI (v 16)), .int (nI (v 17)), .int (nI (v 18)), .long (lN (v 19))], aI Y (m 9) 512 (nF hh)]) rfl rfl rfl rfl ?_
    refine J_iload_n C dX5_leftBehind_30 rfl 2 rfl ?_
    refine J_icmp_neN (tgt := 48) C dX5_leftBehind_31 (by decide) (Nat.lt_of_le_of_lt (pc8_le _) (by decide)) (by omega) (fun cq31 => ?_) (fun cq31 => ?_)
    · refine J_iconst C dX5_leftBehind_48 (v := nI 0) (by decide) ?_
      refine J_iaddN C dX5_leftBehind_49 ?_
      refine J_iaddN C dX5_leftBehind_50 ?_
      refine J_istore_n (lv' := [(3, .int (nI ((lbM hh cards ans h) + ((hh (2 * h)) + 0)))), (0, .ref (m 0)), (1, .int (nI cards)), (2, .int (nI ans)), (4, .int (nI h))]) C dX5_leftBehind_51 rfl (by decide) rfl ?_
      refine J_iinc (j := 4) (v := nI (h + 1)) (lv' := [(4, .int (nI (h + 1))), (3, .int (nI ((lbM hh cards ans h) + ((hh (2 * h)) + 0)))), (0, .ref (m 0)), (1, .int (nI cards)), (2, .int (nI ans))]) C dX5_leftBehind_52 rfl (nI_1 _) (by decide) rfl ?_
      refine J_goto (tgt := 5) C dX5_leftBehind_55 (by decide) ?_
      refine J_lv (lv' := [(0, .ref (m 0)), (1, .int (nI cards)), (2, .int (nI ans)), (3, .int (nI ((lbM hh cards ans h) + ((hh (2 * h)) + 0)))), (4, .int (nI (h + 1)))]) [2, 3, 4, 1, 0] rfl ?_
      rw [← lbM_f cq31]
      exact ih5 (h + 1) (by omega) (show 256 - (h + 1) < 256 - h from by omega)
    · refine J_aload_n C dX5_leftBehind_34 rfl 0 rfl ?_
      refine J_get (ci := 5) C i5 rfl 12 (by decide) w0 rfl 0 rfl rfl dX5_leftBehind_35 ?_
      refine J_iconst C dX5_leftBehind_38 (v := nI 2) (by decide) ?_
      refine J_iload C dX5_leftBehind_39 4 rfl ?_
      refine J_imulN C dX5_leftBehind_41 ?_
      refine J_iconst C dX5_leftBehind_42 (v := nI 1) (by decide) ?_
      refine J_iaddN C dX5_leftBehind_43 ?_
      refine J_ialdF C 1 rfl (by omega) (by omega) dX5_leftBehind_44 ?_
      refine J_goto (tgt := 49) C dX5_leftBehind_45 (by decide) ?_
      refine J_iaddN C dX5_leftBehind_49 ?_
      refine J_iaddN C dX5_leftBehind_50 ?_
      refine J_istore_n (lv' := [(3, .int (nI ((lbM hh cards ans h) + ((hh (2 * h)) + (hh ((2 * h) + 1)))))), (0, .ref (m 0)), (1, .int (nI cards)), (2, .int (nI ans)), (4, .int (nI h))]) C dX5_leftBehind_51 rfl (by decide) rfl ?_
      refine J_iinc (j := 4) (v := nI (h + 1)) (lv' := [(4, .int (nI (h + 1))), (3, .int (nI ((lbM hh cards ans h) + ((hh (2 * h)) + (hh ((2 * h) + 1)))))), (0, .ref (m 0)), (1, .int (nI cards)), (2, .int (nI ans))]) C dX5_leftBehind_52 rfl (nI_1 _) (by decide) rfl ?_
      refine J_goto (tgt := 5) C dX5_leftBehind_55 (by decide) ?_
      refine J_lv (lv' := [(0, .ref (m 0)), (1, .int (nI cards)), (2, .int (nI ans)), (3, .int (nI ((lbM hh cards ans h) + ((hh (2 * h)) + (hh ((2 * h) + 1)))))), (4, .int (nI (h + 1)))]) [2, 3, 4, 1, 0] rfl ?_
      rw [← lbM_t cq31]
      exact ih5 (h + 1) (by omega) (show 256 - (h + 1) < 256 - h from by omega)

set_option maxHeartbeats 4000000 in
set_option maxRecDepth 100000 in
theorem kX5_worstOf (ll : Launch) (Y : GY) (m : Nat → Nat) (v : Nat → Nat) (hh : Nat → Nat) (cards : Nat) (hcs : cards < 256) (hl : ∀ a, lbM hh cards a 256 < 2147483648) : CT ll yX5_worstOf wsX5_worstOf { frames := 2, cells := 0, slots := 0, locals := 46 } Y [.ref (m 0), .int (nI cards)] [oB (m 0) 5 [.ref (m 1), .ref (m 2), .int (nI (v 2)), .int (nI (v 3)), .ref (m 3), .int (nI (v 5)), .int (nI (v 6)), .ref (m 4), .ref (m 5), .ref (m 6), .ref (m 7), .ref (m 8), .ref (m 9), .ref (m 10), .ref (m 11), .int (nI (v 15)), .int (nI (v 16)), .int (nI (v 17)), .int (nI (v 18)), .long (lN (v 19))], aI Y (m 9) 512 (nF hh)] (QI Y (fun (r : Int32) (_ : Unit) => r = nI (woM hh cards 9)) (fun _ => [oB (m 0) 5 [.ref (m 1), .ref (m 2), .int (nI (v 2)), .int (nI (v 3)), .ref (m 3), .int (nI (v 5)), .int (nI (v 6)), .ref (m 4), .ref (m 5), .ref (m 6), .ref (m 7), .ref (m 8), .ref (m 9), .ref (m 10), .ref (m 11), .int (nI (v 15)), .int (nI (v 16)), .int (nI (v 17)), .int (nI (v 18)), .long (lN (v 19))], aI Y (m 9) 512 (nF hh)])) 0 0 := by
  refine CT_of (cc := cX5_worstOf) (maxL := 5) (ret := (some .int)) (by decide) rfl (Nat.le_of_ble_eq_true rfl) ?_
  intro pp ee ss mm bl mt cc AA C hr hnm
  refine J_eq (lv' := [(0, .ref (m 0)), (1, .int (nI cards))]) (ws' := [oB (m 0) 5 [.ref (m 1), .ref (m 2), .int (nI (v 2)), .int (nI (v 3)), .ref (m 3), .int (nI (v 5)), .int (nI (v 6)), .ref (m 4), .ref (m 5), .ref (m 6), .ref (m 7), .ref (m 8), .ref (m 9), .ref (m 10), .ref (m 11), .int (nI (v 15)), .int (nI (v 16)), .int (nI (v 17)), .int (nI (v 18)), .long (lN (v 19))], aI Y (m 9) 512 (nF hh)]) rfl rfl rfl rfl ?_
  refine J_iconst C dX5_worstOf_0 (v := nI 0) (by decide) ?_
  refine J_istore_n (lv' := [(2, .int (nI 0)), (0, .ref (m 0)), (1, .int (nI cards))]) C dX5_worstOf_1 rfl (by decide) rfl ?_
  refine J_iconst C dX5_worstOf_2 (v := nI 0) (by decide) ?_
  refine J_istore_n (lv' := [(3, .int (nI 0)), (2, .int (nI 0)), (0, .ref (m 0)), (1, .int (nI cards))]) C dX5_worstOf_3 rfl (by decide) rfl ?_
  refine J_lv (lv' := [(0, .ref (m 0)), (1, .int (nI cards)), (2, .int (nI 0)), (3, .int (nI 0))]) [2, 3, 1, 0] rfl ?_
  refine J_loop (σ := Nat) (I := fun (k : Nat) => (k ≤ 9)) (μ := fun (k : Nat) => 9 - k) (lvf := fun (k : Nat) => [(0, .ref (m 0)), (1, .int (nI cards)), (2, .int (nI (woM hh cards k))), (3, .int (nI k))]) (stf := fun (k : Nat) => []) (wsf := fun (k : Nat) => [oB (m 0) 5 [.ref (m 1), .ref (m 2), .int (nI (v 2)), .int (nI (v 3)), .ref (m 3), .int (nI (v 5)), .int (nI (v 6)), .ref (m 4), .ref (m 5), .ref (m 6), .ref (m 7), .ref (m 8), .ref (m 9), .ref (m 10), .ref (m 11), .int (nI (v 15)), .int (nI (v 16)), .int (nI (v 17)), .int (nI (v 18)), .long (lN (v 19))], aI Y (m 9) 512 (nF hh)]) ?_ (0) (by omega) (rfl) rfl (rfl)
  rintro k hk ih4
  refine J_eq (lv' := [(0, .ref (m 0)), (1, .int (nI cards)), (2, .int (nI (woM hh cards k))), (3, .int (nI k))]) (st' := []) (ws' := [oB (m 0) 5 [.ref (m 1), .ref (m 2), .int (nI (v 2)), .int (nI (v 3)), .ref (m 3), .int (nI (v 5)), .int (nI (v 6)), .ref (m 4), .ref (m 5), .ref (m 6), .ref (m 7), .ref (m 8), .ref (m 9), .ref (m 10), .ref (m 11), .int (nI (v 15)), .int (nI (v 16)), .int (nI (v 17)), .int (nI (v 18)), .long (lN (v 19))], aI Y (m 9) 512 (nF hh)]) rfl rfl rfl rfl ?_
  refine J_iload_n C dX5_worstOf_4 rfl 3 rfl ?_
  refine J_bipush C dX5_worstOf_5 (v := nI 8) (by decide) ?_
  refine J_icmp_gtN (tgt := 37) C dX5_worstOf_7 (by decide) (by omega) (by omega) (fun cq7 => ?_) (fun cq7 => ?_)
  · refine J_iload_n C dX5_worstOf_37 rfl 2 rfl ?_
    exact J_iret C hr dX5_worstOf_38 (()) (by rw [show k = 9 from by omega]) (rfl)
  · refine J_aload_n C dX5_worstOf_10 rfl 0 rfl ?_
    refine J_iload_n C dX5_worstOf_11 rfl 1 rfl ?_
    refine J_iload_n C dX5_worstOf_12 rfl 3 rfl ?_
    refine J_callI (wr := []) C (R_V (st := []) (wc := [oB (m 0) 5 [.ref (m 1), .ref (m 2), .int (nI (v 2)), .int (nI (v 3)), .ref (m 3), .int (nI (v 5)), .int (nI (v 6)), .ref (m 4), .ref (m 5), .ref (m 6), .ref (m 7), .ref (m 8), .ref (m 9), .ref (m 10), .ref (m 11), .int (nI (v 15)), .int (nI (v 16)), .int (nI (v 17)), .int (nI (v 18)), .long (lN (v 19))], aI Y (m 9) 512 (nF hh)]) C (kX5_leftBehind ll Y m v hh cards k (by first | assumption | omega) (by first | assumption | omega)) (cwV 2 C.t gX5_worstOf_X5_leftBehind rfl rfl rfl (by decide +kernel) ⟨by decide, by decide⟩) rfl [0, 1] rfl (by decide) ⟨0, 5, _, _, rfl, rfl, rfl⟩ rfl (Nat.le_of_ble_eq_true rfl) dX5_worstOf_13 ⟨Nat.le_of_ble_eq_true rfl, Nat.le_of_ble_eq_true rfl⟩) [0, 1] [] rfl rfl (by decide) (by decide) (fun r13 u13 hw13 => ?_)
    subst hw13
    refine J_eq (pc' := 16) (lv' := [(0, .ref (m 0)), (1, .int (nI cards)), (2, .int (nI (woM hh cards k))), (3, .int (nI k))]) (st' := [.int (nI (lbM hh cards k 256))]) (ws' := [oB (m 0) 5 [.ref (m 1), .ref (m 2), .int (nI (v 2)), .int (nI (v 3)), .ref (m 3), .int (nI (v 5)), .int (nI (v 6)), .ref (m 4), .ref (m 5), .ref (m 6), .ref (m 7), .ref (m 8), .ref (m 9), .ref (m 10), .ref (m 11), .int (nI (v 15)), .int (nI (v 16)), .int (nI (v 17)), .int (nI (v 18)), .long (lN (v 19))], aI Y (m 9) 512 (nF hh)]) rfl rfl rfl rfl ?_
    refine J_istore (lv' := [(4, .int (nI (lbM hh cards k 256))), (0, .ref (m 0)), (1, .int (nI cards)), (2, .int (nI (woM hh cards k))), (3, .int (nI k))]) C dX5_worstOf_16 (by decide) rfl ?_
    refine J_iload C dX5_worstOf_18 0 rfl ?_
    refine J_iload_n C dX5_worstOf_20 rfl 3 rfl ?_
    refine J_icmp_leN (tgt := 29) C dX5_worstOf_21 (by decide) (hl k) (woM_lt hl k) (fun cq21 => ?_) (fun cq21 => ?_)
    · refine J_iload_n C dX5_worstOf_29 rfl 3 rfl ?_
      refine J_istore_n (lv' := [(2, .int (nI (woM hh cards k))), (4, .int (nI (lbM hh cards k 256))), (0, .ref (m 0)), (1, .int (nI cards)), (3, .int (nI k))]) C dX5_worstOf_30 rfl (by decide) rfl ?_
      refine J_iinc (j := 4) (v := nI (k + 1)) (lv' := [(3, .int (nI (k + 1))), (2, .int (nI (woM hh cards k))), (4, .int (nI (lbM hh cards k 256))), (0, .ref (m 0)), (1, .int (nI cards))]) C dX5_worstOf_31 rfl (nI_1 _) (by decide) rfl ?_
      refine J_goto (tgt := 4) C dX5_worstOf_34 (by decide) ?_
      refine J_lv (lv' := [(0, .ref (m 0)), (1, .int (nI cards)), (2, .int (nI (woM hh cards k))), (3, .int (nI (k + 1)))]) [3, 4, 1, 0] rfl ?_
      rw [← woM_f cq21]
      exact ih4 (k + 1) (by omega) (show 9 - (k + 1) < 9 - k from by omega)
    · refine J_iload C dX5_worstOf_24 0 rfl ?_
      refine J_goto (tgt := 30) C dX5_worstOf_26 (by decide) ?_
      refine J_istore_n (lv' := [(2, .int (nI (lbM hh cards k 256))), (4, .int (nI (lbM hh cards k 256))), (0, .ref (m 0)), (1, .int (nI cards)), (3, .int (nI k))]) C dX5_worstOf_30 rfl (by decide) rfl ?_
      refine J_iinc (j := 4) (v := nI (k + 1)) (lv' := [(3, .int (nI (k + 1))), (2, .int (nI (lbM hh cards k 256))), (4, .int (nI (lbM hh cards k 256))), (0, .ref (m 0)), (1, .int (nI cards))]) C dX5_worstOf_31 rfl (nI_1 _) (by decide) rfl ?_
      refine J_goto (tgt := 4) C dX5_worstOf_34 (by decide) ?_
      refine J_lv (lv' := [(0, .ref (m 0)), (1, .int (nI cards)), (2, .int (nI (lbM hh cards k 256))), (3, .int (nI (k + 1)))]) [3, 4, 1, 0] rfl ?_
      rw [← woM_t cq21]
      exact ih4 (k + 1) (by omega) (show 9 - (k + 1) < 9 - k from by omega)

set_option maxHeartbeats 4000000 in
set_option maxRecDepth 100000 in
theorem kX5_guest_r1 (ll : Launch) (Y : GY) (m : Nat → Nat) (v : Nat → Nat) (nw : Nat → Nat) (g : Int32) (w : Int32) (hn : nw 0 ≤ 4) (hg : g.toInt < 0 ∨ (nw 0 : Int) ≤ g.toInt) : CT ll yX5_guest wsX5_guest { frames := 2, cells := 0, slots := 0, locals := 43 } Y [.ref (m 0), .int g, .int w] [oB (m 0) 5 [.ref (m 1), .ref (m 2), .int (nI (v 2)), .int (nI (v 3)), .ref (m 3), .int (nI (v 5)), .int (nI (v 6)), .ref (m 4), .ref (m 5), .ref (m 6), .ref (m 7), .ref (m 8), .ref (m 9), .ref (m 10), .ref (m 11), .int (nI (v 15)), .int (nI (v 16)), .int (nI (v 17)), .int (nI (v 18)), .long (lN (v 19))], aI Y (m 1) 101 (nF nw)] (QI Y (fun (r : Int32) (_ : Unit) => r = nI 0) (fun _ => [oB (m 0) 5 [.ref (m 1), .ref (m 2), .int (nI (((va_up v 3 1)) 2)), .int (nI (((va_up v 3 1)) 3)), .ref (m 3), .int (nI (((va_up v 3 1)) 5)), .int (nI (((va_up v 3 1)) 6)), .ref (m 4), .ref (m 5), .ref (m 6), .ref (m 7), .ref (m 8), .ref (m 9), .ref (m 10), .ref (m 11), .int (nI (((va_up v 3 1)) 15)), .int (nI (((va_up v 3 1)) 16)), .int (nI (((va_up v 3 1)) 17)), .int (nI (((va_up v 3 1)) 18)), .long (lN (((va_up v 3 1)) 19))], aI Y (m 1) 101 (nF nw)])) 0 0 := by
  refine CT_of (cc := cX5_guest) (maxL := 3) (ret := (some .int)) (by decide) rfl (Nat.le_of_ble_eq_true rfl) ?_
  intro pp ee ss mm bl mt cc AA C hr hnm
  refine J_eq (lv' := [(0, .ref (m 0)), (1, .int g), (2, .int w)]) (ws' := [oB (m 0) 5 [.ref (m 1), .ref (m 2), .int (nI (v 2)), .int (nI (v 3)), .ref (m 3), .int (nI (v 5)), .int (nI (v 6)), .ref (m 4), .ref (m 5), .ref (m 6), .ref (m 7), .ref (m 8), .ref (m 9), .ref (m 10), .ref (m 11), .int (nI (v 15)), .int (nI (v 16)), .int (nI (v 17)), .int (nI (v 18)), .long (lN (v 19))], aI Y (m 1) 101 (nF nw)]) rfl rfl rfl rfl ?_
  refine J_aload_n C dX5_guest_0 rfl 0 rfl ?_
  refine J_aload_n C dX5_guest_1 rfl 0 rfl ?_
  refine J_iload_n C dX5_guest_2 rfl 1 rfl ?_
  refine J_callI (wr := []) C (R_V (st := [.ref (m 0)]) (wc := [oB (m 0) 5 [.ref (m 1), .ref (m 2), .int (nI (v 2)), .int (nI (v 3)), .ref (m 3), .int (nI (v 5)), .int (nI (v 6)), .ref (m 4), .ref (m 5), .ref (m 6), .ref (m 7), .ref (m 8), .ref (m 9), .ref (m 10), .ref (m 11), .int (nI (v 15)), .int (nI (v 16)), .int (nI (v 17)), .int (nI (v 18)), .long (lN (v 19))], aI Y (m 1) 101 (nF nw)]) C (kX5_isGuest ll Y m v nw g (by first | assumption | omega)) (cwV 1 C.t gX5_guest_X5_isGuest rfl rfl rfl (by decide +kernel) ⟨by decide, by decide⟩) rfl [0, 1] rfl (by decide) ⟨0, 5, _, _, rfl, rfl, rfl⟩ rfl (Nat.le_of_ble_eq_true rfl) dX5_guest_3 ⟨Nat.le_of_ble_eq_true rfl, Nat.le_of_ble_eq_true rfl⟩) [0, 1] [] rfl rfl (by decide) (by decide) (fun r3 u3 hw3 => ?_)
  subst hw3
  refine J_eq (pc' := 6) (lv' := [(0, .ref (m 0)), (1, .int g), (2, .int w)]) (st' := [.int (p2i (0 ≤ g.toInt ∧ g.toInt < (nw 0 : Int))), .ref (m 0)]) (ws' := [oB (m 0) 5 [.ref (m 1), .ref (m 2), .int (nI (v 2)), .int (nI (v 3)), .ref (m 3), .int (nI (v 5)), .int (nI (v 6)), .ref (m 4), .ref (m 5), .ref (m 6), .ref (m 7), .ref (m 8), .ref (m 9), .ref (m 10), .ref (m 11), .int (nI (v 15)), .int (nI (v 16)), .int (nI (v 17)), .int (nI (v 18)), .long (lN (v 19))], aI Y (m 1) 101 (nF nw)]) rfl rfl rfl rfl ?_
  refine J_if_neP (tgt := 13) C dX5_guest_6 (by decide) (fun cq6 => ?_) (fun cq6 => ?_)
  · exact absurd cq6 (by omega)
  · refine J_iconst C dX5_guest_9 (v := nI 1) (by decide) ?_
    refine J_goto (tgt := 28) C dX5_guest_10 (by decide) ?_
    refine J_callI (wr := [aI Y (m 1) 101 (nF nw)]) C (R_V (st := []) (wc := [oB (m 0) 5 [.ref (m 1), .ref (m 2), .int (nI (v 2)), .int (nI (v 3)), .ref (m 3), .int (nI (v 5)), .int (nI (v 6)), .ref (m 4), .ref (m 5), .ref (m 6), .ref (m 7), .ref (m 8), .ref (m 9), .ref (m 10), .ref (m 11), .int (nI (v 15)), .int (nI (v 16)), .int (nI (v 17)), .int (nI (v 18)), .long (lN (v 19))]]) C (kX5_refused ll Y m v 1 (by first | assumption | omega)) (cwV 1 C.t gX5_guest_X5_refused rfl rfl rfl (by decide +kernel) ⟨by decide, by decide⟩) rfl [0] rfl (by decide) ⟨0, 5, _, _, rfl, rfl, rfl⟩ rfl (Nat.le_of_ble_eq_true rfl) dX5_guest_28 ⟨Nat.le_of_ble_eq_true rfl, Nat.le_of_ble_eq_true rfl⟩) [0] [1] rfl rfl (by decide) (by decide) (fun r28 u28 hw28 => ?_)
    subst hw28
    refine J_eq (pc' := 31) (lv' := [(0, .ref (m 0)), (1, .int g), (2, .int w)]) (st' := [.int (p2i (0 < 1))]) (ws' := [aI Y (m 1) 101 (nF nw), oB (m 0) 5 [.ref (m 1), .ref (m 2), .int (nI (((va_up v 3 1)) 2)), .int (nI (((va_up v 3 1)) 3)), .ref (m 3), .int (nI (((va_up v 3 1)) 5)), .int (nI (((va_up v 3 1)) 6)), .ref (m 4), .ref (m 5), .ref (m 6), .ref (m 7), .ref (m 8), .ref (m 9), .ref (m 10), .ref (m 11), .int (nI (((va_up v 3 1)) 15)), .int (nI (((va_up v 3 1)) 16)), .int (nI (((va_up v 3 1)) 17)), .int (nI (((va_up v 3 1)) 18)), .long (lN (((va_up v 3 1)) 19))]]) rfl rfl rfl rfl ?_
    refine J_perm (ws' := [oB (m 0) 5 [.ref (m 1), .ref (m 2), .int (nI (((va_up v 3 1)) 2)), .int (nI (((va_up v 3 1)) 3)), .ref (m 3), .int (nI (((va_up v 3 1)) 5)), .int (nI (((va_up v 3 1)) 6)), .ref (m 4), .ref (m 5), .ref (m 6), .ref (m 7), .ref (m 8), .ref (m 9), .ref (m 10), .ref (m 11), .int (nI (((va_up v 3 1)) 15)), .int (nI (((va_up v 3 1)) 16)), .int (nI (((va_up v 3 1)) 17)), .int (nI (((va_up v 3 1)) 18)), .long (lN (((va_up v 3 1)) 19))], aI Y (m 1) 101 (nF nw)]) [1, 0] rfl (by decide) ?_
    refine J_if_eqP (tgt := 36) C dX5_guest_31 (by decide) (fun cq31 => ?_) (fun cq31 => ?_)
    · exact absurd cq31 (by decide)
    · refine J_iconst C dX5_guest_34 (v := nI 0) (by decide) ?_
      exact J_iret C hr dX5_guest_35 (()) (rfl) (rfl)

set_option maxHeartbeats 4000000 in
set_option maxRecDepth 100000 in
theorem kX5_guest_r2 (ll : Launch) (Y : GY) (m : Nat → Nat) (v : Nat → Nat) (nw : Nat → Nat) (g : Nat) (w : Int32) (hn : nw 0 ≤ 4) (hg : g < nw 0) (hw : w.toInt < 0 ∨ 7 < w.toInt) : CT ll yX5_guest wsX5_guest { frames := 2, cells := 0, slots := 0, locals := 43 } Y [.ref (m 0), .int (nI g), .int w] [oB (m 0) 5 [.ref (m 1), .ref (m 2), .int (nI (v 2)), .int (nI (v 3)), .ref (m 3), .int (nI (v 5)), .int (nI (v 6)), .ref (m 4), .ref (m 5), .ref (m 6), .ref (m 7), .ref (m 8), .ref (m 9), .ref (m 10), .ref (m 11), .int (nI (v 15)), .int (nI (v 16)), .int (nI (v 17)), .int (nI (v 18)), .long (lN (v 19))], aI Y (m 1) 101 (nF nw)] (QI Y (fun (r : Int32) (_ : Unit) => r = nI 0) (fun _ => [oB (m 0) 5 [.ref (m 1), .ref (m 2), .int (nI (((va_up v 3 2)) 2)), .int (nI (((va_up v 3 2)) 3)), .ref (m 3), .int (nI (((va_up v 3 2)) 5)), .int (nI (((va_up v 3 2)) 6)), .ref (m 4), .ref (m 5), .ref (m 6), .ref (m 7), .ref (m 8), .ref (m 9), .ref (m 10), .ref (m 11), .int (nI (((va_up v 3 2)) 15)), .int (nI (((va_up v 3 2)) 16)), .int (nI (((va_up v 3 2)) 17)), .int (nI (((va_up v 3 2)) 18)), .long (lN (((va_up v 3 2)) 19))], aI Y (m 1) 101 (nF nw)])) 0 0 := by
  refine CT_of (cc := cX5_guest) (maxL := 3) (ret := (some .int)) (by decide) rfl (Nat.le_of_ble_eq_true rfl) ?_
  intro pp ee ss mm bl mt cc AA C hr hnm
  refine J_eq (lv' := [(0, .ref (m 0)), (1, .int (nI g)), (2, .int w)]) (ws' := [oB (m 0) 5 [.ref (m 1), .ref (m 2), .int (nI (v 2)), .int (nI (v 3)), .ref (m 3), .int (nI (v 5)), .int (nI (v 6)), .ref (m 4), .ref (m 5), .ref (m 6), .ref (m 7), .ref (m 8), .ref (m 9), .ref (m 10), .ref (m 11), .int (nI (v 15)), .int (nI (v 16)), .int (nI (v 17)), .int (nI (v 18)), .long (lN (v 19))], aI Y (m 1) 101 (nF nw)]) rfl rfl rfl rfl ?_
  refine J_aload_n C dX5_guest_0 rfl 0 rfl ?_
  refine J_aload_n C dX5_guest_1 rfl 0 rfl ?_
  refine J_iload_n C dX5_guest_2 rfl 1 rfl ?_
  refine J_callI (wr := []) C (R_V (st := [.ref (m 0)]) (wc := [oB (m 0) 5 [.ref (m 1), .ref (m 2), .int (nI (v 2)), .int (nI (v 3)), .ref (m 3), .int (nI (v 5)), .int (nI (v 6)), .ref (m 4), .ref (m 5), .ref (m 6), .ref (m 7), .ref (m 8), .ref (m 9), .ref (m 10), .ref (m 11), .int (nI (v 15)), .int (nI (v 16)), .int (nI (v 17)), .int (nI (v 18)), .long (lN (v 19))], aI Y (m 1) 101 (nF nw)]) C (kX5_isGuest_n ll Y m v nw g (by first | assumption | omega) (by first | assumption | omega)) (cwV 1 C.t gX5_guest_X5_isGuest rfl rfl rfl (by decide +kernel) ⟨by decide, by decide⟩) rfl [0, 1] rfl (by decide) ⟨0, 5, _, _, rfl, rfl, rfl⟩ rfl (Nat.le_of_ble_eq_true rfl) dX5_guest_3 ⟨Nat.le_of_ble_eq_true rfl, Nat.le_of_ble_eq_true rfl⟩) [0, 1] [] rfl rfl (by decide) (by decide) (fun r3 u3 hw3 => ?_)
  subst hw3
  refine J_eq (pc' := 6) (lv' := [(0, .ref (m 0)), (1, .int (nI g)), (2, .int w)]) (st' := [.int (p2i (g < nw 0)), .ref (m 0)]) (ws' := [oB (m 0) 5 [.ref (m 1), .ref (m 2), .int (nI (v 2)), .int (nI (v 3)), .ref (m 3), .int (nI (v 5)), .int (nI (v 6)), .ref (m 4), .ref (m 5), .ref (m 6), .ref (m 7), .ref (m 8), .ref (m 9), .ref (m 10), .ref (m 11), .int (nI (v 15)), .int (nI (v 16)), .int (nI (v 17)), .int (nI (v 18)), .long (lN (v 19))], aI Y (m 1) 101 (nF nw)]) rfl rfl rfl rfl ?_
  refine J_if_neP (tgt := 13) C dX5_guest_6 (by decide) (fun cq6 => ?_) (fun cq6 => ?_)
  · refine J_iload_n C dX5_guest_13 rfl 2 rfl ?_
    refine J_iconst C dX5_guest_14 (v := nI 0) (by decide) ?_
    refine J_bipush C dX5_guest_15 (v := nI 7) (by decide) ?_
    refine J_callI (wr := [oB (m 0) 5 [.ref (m 1), .ref (m 2), .int (nI (v 2)), .int (nI (v 3)), .ref (m 3), .int (nI (v 5)), .int (nI (v 6)), .ref (m 4), .ref (m 5), .ref (m 6), .ref (m 7), .ref (m 8), .ref (m 9), .ref (m 10), .ref (m 11), .int (nI (v 15)), .int (nI (v 16)), .int (nI (v 17)), .int (nI (v 18)), .long (lN (v 19))], aI Y (m 1) 101 (nF nw)]) C (R_S (st := [.ref (m 0)]) (wc := []) C (kX5_in ll Y w (nI 0) (nI 7)) (va_cwS 3 C.t gX5_guest_X5_in rfl rfl rfl (by decide +kernel) ⟨by decide, by decide⟩) rfl [] rfl (by decide) rfl (Nat.le_of_ble_eq_true rfl) dX5_guest_17 ⟨Nat.le_of_ble_eq_true rfl, Nat.le_of_ble_eq_true rfl⟩) [] [0, 1] rfl rfl (by decide) (by decide) (fun r17 u17 hw17 => ?_)
    subst hw17
    refine J_eq (pc' := 20) (lv' := [(0, .ref (m 0)), (1, .int (nI g)), (2, .int w)]) (st' := [.int (p2i ((nI 0).toInt ≤ w.toInt ∧ w.toInt ≤ (nI 7).toInt)), .ref (m 0)]) (ws' := [oB (m 0) 5 [.ref (m 1), .ref (m 2), .int (nI (v 2)), .int (nI (v 3)), .ref (m 3), .int (nI (v 5)), .int (nI (v 6)), .ref (m 4), .ref (m 5), .ref (m 6), .ref (m 7), .ref (m 8), .ref (m 9), .ref (m 10), .ref (m 11), .int (nI (v 15)), .int (nI (v 16)), .int (nI (v 17)), .int (nI (v 18)), .long (lN (v 19))], aI Y (m 1) 101 (nF nw)]) rfl rfl rfl rfl ?_
    refine J_top (y := .int (p2i (0 ≤ w.toInt ∧ w.toInt ≤ 7))) (congrArg Value.int (p2i_if (in_I (by decide) (by decide)))) ?_
    refine J_if_eqP (tgt := 27) C dX5_guest_20 (by decide) (fun cq20 => ?_) (fun cq20 => ?_)
    · refine J_iconst C dX5_guest_27 (v := nI 2) (by decide) ?_
      refine J_callI (wr := [aI Y (m 1) 101 (nF nw)]) C (R_V (st := []) (wc := [oB (m 0) 5 [.ref (m 1), .ref (m 2), .int (nI (v 2)), .int (nI (v 3)), .ref (m 3), .int (nI (v 5)), .int (nI (v 6)), .ref (m 4), .ref (m 5), .ref (m 6), .ref (m 7), .ref (m 8), .ref (m 9), .ref (m 10), .ref (m 11), .int (nI (v 15)), .int (nI (v 16)), .int (nI (v 17)), .int (nI (v 18)), .long (lN (v 19))]]) C (kX5_refused ll Y m v 2 (by first | assumption | omega)) (cwV 1 C.t gX5_guest_X5_refused rfl rfl rfl (by decide +kernel) ⟨by decide, by decide⟩) rfl [0] rfl (by decide) ⟨0, 5, _, _, rfl, rfl, rfl⟩ rfl (Nat.le_of_ble_eq_true rfl) dX5_guest_28 ⟨Nat.le_of_ble_eq_true rfl, Nat.le_of_ble_eq_true rfl⟩) [0] [1] rfl rfl (by decide) (by decide) (fun r28 u28 hw28 => ?_)
      subst hw28
      refine J_eq (pc' := 31) (lv' := [(0, .ref (m 0)), (1, .int (nI g)), (2, .int w)]) (st' := [.int (p2i (0 < 2))]) (ws' := [aI Y (m 1) 101 (nF nw), oB (m 0) 5 [.ref (m 1), .ref (m 2), .int (nI (((va_up v 3 2)) 2)), .int (nI (((va_up v 3 2)) 3)), .ref (m 3), .int (nI (((va_up v 3 2)) 5)), .int (nI (((va_up v 3 2)) 6)), .ref (m 4), .ref (m 5), .ref (m 6), .ref (m 7), .ref (m 8), .ref (m 9), .ref (m 10), .ref (m 11), .int (nI (((va_up v 3 2)) 15)), .int (nI (((va_up v 3 2)) 16)), .int (nI (((va_up v 3 2)) 17)), .int (nI (((va_up v 3 2)) 18)), .long (lN (((va_up v 3 2)) 19))]]) rfl rfl rfl rfl ?_
      refine J_perm (ws' := [oB (m 0) 5 [.ref (m 1), .ref (m 2), .int (nI (((va_up v 3 2)) 2)), .int (nI (((va_up v 3 2)) 3)), .ref (m 3), .int (nI (((va_up v 3 2)) 5)), .int (nI (((va_up v 3 2)) 6)), .ref (m 4), .ref (m 5), .ref (m 6), .ref (m 7), .ref (m 8), .ref (m 9), .ref (m 10), .ref (m 11), .int (nI (((va_up v 3 2)) 15)), .int (nI (((va_up v 3 2)) 16)), .int (nI (((va_up v 3 2)) 17)), .int (nI (((va_up v 3 2)) 18)), .long (lN (((va_up v 3 2)) 19))], aI Y (m 1) 101 (nF nw)]) [1, 0] rfl (by decide) ?_
      refine J_if_eqP (tgt := 36) C dX5_guest_31 (by decide) (fun cq31 => ?_) (fun cq31 => ?_)
      · exact absurd cq31 (by decide)
      · refine J_iconst C dX5_guest_34 (v := nI 0) (by decide) ?_
        exact J_iret C hr dX5_guest_35 (()) (rfl) (rfl)
    · exact absurd cq20 (by omega)
  · exact absurd cq6 (by omega)

