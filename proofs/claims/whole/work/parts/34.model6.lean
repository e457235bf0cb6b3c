set_option maxHeartbeats 4000000 in
set_option maxRecDepth 100000 in
theorem kX5_plays (ll : Launch) (Y : GY) (m : Nat → Nat) (v : Nat → Nat) (nw : Nat → Nat) (hM : ∀ k, k = 1 ∨ k = 7 ∨ 17 ≤ k ∧ k ≤ 24 → nw k < 2147483648) (hn : nw 0 ≤ 4) (h16 : v 16 < 128) (h17 : v 17 ≤ 3) (h18 : ¬ v 16 = 103 → v 18 < 256) (h9 : ∀ g, g < 4 → nw (9 + g) ≤ 3) (h13 : ∀ g, g < 4 → nw (13 + g) < 256) (hcd : v 16 = 112 → ∃ c, c ≤ 7 ∧ v 18 = 1 * 2 ^ c) : CT ll yX5_plays wsX5_plays { frames := 2, cells := 0, slots := 0, locals := 47 } Y [.ref (m 0)] [oB (m 0) 5 [.ref (m 1), .ref (m 2), .int (nI (v 2)), .int (nI (v 3)), .ref (m 3), .int (nI (v 5)), .int (nI (v 6)), .ref (m 4), .ref (m 5), .ref (m 6), .ref (m 7), .ref (m 8), .ref (m 9), .ref (m 10), .ref (m 11), .int (nI (v 15)), .int (nI (v 16)), .int (nI (v 17)), .int (nI (v 18)), .long (lN (v 19))], aI Y (m 1) 101 (nF nw)] (QI Y (fun (r : Int32) (_ : Unit) => r = p2i (plC nw (v 16) (v 17))) (fun _ => [oB (m 0) 5 [.ref (m 1), .ref (m 2), .int (nI (v 2)), .int (nI (v 3)), .ref (m 3), .int (nI (v 5)), .int (nI (v 6)), .ref (m 4), .ref (m 5), .ref (m 6), .ref (m 7), .ref (m 8), .ref (m 9), .ref (m 10), .ref (m 11), .int (nI (v 15)), .int (nI (v 16)), .int (nI (v 17)), .int (nI (v 18)), .long (lN (v 19))], aI Y (m 1) 101 (nF ((plN nw (v 16) (v 17) (v 18))))])) 0 0 := by
  refine CT_of (cc := cX5_plays) (maxL := 3) (ret := (some .boolean)) (by decide) rfl (Nat.le_of_ble_eq_true rfl) ?_
  intro pp ee ss mm bl mt cc AA C hr hnm
  have w0 := C.t _ (List.mem_of_getElem? (i := 1) (show wsX5_plays[1]? = some (Cond.fieldLink RX5 157 "SecretDinnerModel" "who" "I") from rfl))
  have w1 := C.t _ (List.mem_of_getElem? (i := 2) (show wsX5_plays[2]? = some (Cond.fieldLink RX5 151 "SecretDinnerModel" "letter" "I") from rfl))
  have w2 := C.t _ (List.mem_of_getElem? (i := 4) (show wsX5_plays[4]? = some (Cond.fieldLink RX5 160 "SecretDinnerModel" "cards" "I") from rfl))
  have w3 := C.t _ (List.mem_of_getElem? (i := 3) (show wsX5_plays[3]? = some (Cond.fieldLink RX5 7 "SecretDinnerModel" "now" "[I") from rfl))
  have i5 : ∀ w ∈ wsX50, w ∈ wsX5_plays := inPlaces [35, 36, 37, 38, 39, 40, 41, 42, 43, 44, 45, 46, 47, 48, 49, 50, 51, 52, 53, 54] (by decide +kernel)
  refine J_eq (lv' := [(0, .ref (m 0))]) (ws' := [oB (m 0) 5 [.ref (m 1), .ref (m 2), .int (nI (v 2)), .int (nI (v 3)), .ref (m 3), .int (nI (v 5)), .int (nI (v 6)), .ref (m 4), .ref (m 5), .ref (m 6), .ref (m 7), .ref (m 8), .ref (m 9), .ref (m 10), .ref (m 11), .int (nI (v 15)), .int (nI (v 16)), .int (nI (v 17)), .int (nI (v 18)), .long (lN (v 19))], aI Y (m 1) 101 (nF nw)]) rfl rfl rfl rfl ?_
  refine J_aload_n C dX5_plays_0 rfl 0 rfl ?_
  refine J_aload_n C dX5_plays_1 rfl 0 rfl ?_
  refine J_get (ci := 5) C i5 rfl 17 (by decide) w0 rfl 0 rfl rfl dX5_plays_2 ?_
  refine J_callI (wr := []) C (R_V (st := []) (wc := [oB (m 0) 5 [.ref (m 1), .ref (m 2), .int (nI (v 2)), .int (nI (v 3)), .ref (m 3), .int (nI (v 5)), .int (nI (v 6)), .ref (m 4), .ref (m 5), .ref (m 6), .ref (m 7), .ref (m 8), .ref (m 9), .ref (m 10), .ref (m 11), .int (nI (v 15)), .int (nI (v 16)), .int (nI (v 17)), .int (nI (v 18)), .long (lN (v 19))], aI Y (m 1) 101 (nF nw)]) C (kX5_isGuest_n ll Y m v nw (v 17) (by first | assumption | omega) (by first | assumption | omega)) (cwV 1 C.t gX5_plays_X5_isGuest rfl rfl rfl (by decide +kernel) ⟨by decide, by decide⟩) rfl [0, 1] rfl (by decide) ⟨0, 5, _, _, rfl, rfl, rfl⟩ rfl (Nat.le_of_ble_eq_true rfl) dX5_plays_5 ⟨Nat.le_of_ble_eq_true rfl, Nat.le_of_ble_eq_true rfl⟩) [0, 1] [] rfl rfl (by decide) (by decide) (fun r5 u5 hw5 => ?_)
  subst hw5
  refine J_eq (pc' := 8) (lv' := [(0, .ref (m 0))]) (st' := [.int (p2i ((v 17) < nw 0))]) (ws' := [oB (m 0) 5 [.ref (m 1), .ref (m 2), .int (nI (v 2)), .int (nI (v 3)), .ref (m 3), .int (nI (v 5)), .int (nI (v 6)), .ref (m 4), .ref (m 5), .ref (m 6), .ref (m 7), .ref (m 8), .ref (m 9), .ref (m 10), .ref (m 11), .int (nI (v 15)), .int (nI (v 16)), .int (nI (v 17)), .int (nI (v 18)), .long (lN (v 19))], aI Y (m 1) 101 (nF nw)]) rfl rfl rfl rfl ?_
  refine J_if_neP (tgt := 13) C dX5_plays_8 (by decide) (fun cq8 => ?_) (fun cq8 => ?_)
  · refine J_aload_n C dX5_plays_13 rfl 0 rfl ?_
    refine J_get (ci := 5) C i5 rfl 16 (by decide) w1 rfl 0 rfl rfl dX5_plays_14 ?_
    refine J_bipush C dX5_plays_17 (v := nI 103) (by decide) ?_
    refine J_icmp_eqN (tgt := 31) C dX5_plays_19 (by decide) (by omega) (by omega) (fun cq19 => ?_) (fun cq19 => ?_)
    · refine J_aload_n C dX5_plays_31 rfl 0 rfl ?_
      refine J_aload_n C dX5_plays_32 rfl 0 rfl ?_
      refine J_get (ci := 5) C i5 rfl 17 (by decide) w0 rfl 0 rfl rfl dX5_plays_33 ?_
      refine J_callI (wr := []) C (R_V (st := []) (wc := [oB (m 0) 5 [.ref (m 1), .ref (m 2), .int (nI (v 2)), .int (nI (v 3)), .ref (m 3), .int (nI (v 5)), .int (nI (v 6)), .ref (m 4), .ref (m 5), .ref (m 6), .ref (m 7), .ref (m 8), .ref (m 9), .ref (m 10), .ref (m 11), .int (nI (v 15)), .int (nI (v 16)), .int (nI (v 17)), .int (nI (v 18)), .long (lN (v 19))], aI Y (m 1) 101 (nF nw)]) C (kX5_isHere ll Y m v nw (v 17) (by first | assumption | omega) (h17)) (cwV 1 C.t gX5_plays_X5_isHere rfl rfl rfl (by decide +kernel) ⟨by decide, by decide⟩) rfl [0, 1] rfl (by decide) ⟨0, 5, _, _, rfl, rfl, rfl⟩ rfl (Nat.le_of_ble_eq_true rfl) dX5_plays_36 ⟨Nat.le_of_ble_eq_true rfl, Nat.le_of_ble_eq_true rfl⟩) [0, 1] [] rfl rfl (by decide) (by decide) (fun r36 u36 hw36 => ?_)
      subst hw36
      refine J_eq (pc' := 39) (lv' := [(0, .ref (m 0))]) (st' := [.int (p2i (nw 1 = 1 ∧ nw (17 + (v 17)) = 1))]) (ws' := [oB (m 0) 5 [.ref (m 1), .ref (m 2), .int (nI (v 2)), .int (nI (v 3)), .ref (m 3), .int (nI (v 5)), .int (nI (v 6)), .ref (m 4), .ref (m 5), .ref (m 6), .ref (m 7), .ref (m 8), .ref (m 9), .ref (m 10), .ref (m 11), .int (nI (v 15)), .int (nI (v 16)), .int (nI (v 17)), .int (nI (v 18)), .long (lN (v 19))], aI Y (m 1) 101 (nF nw)]) rfl rfl rfl rfl ?_
      refine J_istore_n (lv' := [(1, .int (p2i (nw 1 = 1 ∧ nw (17 + (v 17)) = 1))), (0, .ref (m 0))]) C dX5_plays_39 rfl (by decide) rfl ?_
      refine J_iload_n C dX5_plays_40 rfl 0 rfl ?_
      refine J_if_eqP (tgt := 69) C dX5_plays_41 (by decide) (fun cq41 => ?_) (fun cq41 => ?_)
      · refine J_iload_n C dX5_plays_69 rfl 0 rfl ?_
        refine J_if_eqP (tgt := 89) C dX5_plays_70 (by decide) (fun cq70 => ?_) (fun cq70 => ?_)
        · refine J_iload_n C dX5_plays_89 rfl 0 rfl ?_
          exact J_zret C hr p2i_nar dX5_plays_90 (()) (p2i_if (by unfold plC; omega)) (by rw [plN_0 (by unfold plC; omega)])
        · obtain ⟨c, hc7, hc9⟩ := hcd (by omega)
          refine J_aload_n C dX5_plays_73 rfl 1 rfl ?_
          refine J_aload_n C dX5_plays_74 rfl 1 rfl ?_
          refine J_get (ci := 5) C i5 rfl 17 (by decide) w0 rfl 0 rfl rfl dX5_plays_75 ?_
          refine J_aload_n C dX5_plays_78 rfl 1 rfl ?_
          refine J_get (ci := 5) C i5 rfl 18 (by decide) w2 rfl 0 rfl rfl dX5_plays_79 ?_
          refine J_top (y := .int (nI (1 * 2 ^ c))) (by rw [hc9]) ?_
          refine J_callI (wr := [oB (m 0) 5 [.ref (m 1), .ref (m 2), .int (nI (v 2)), .int (nI (v 3)), .ref (m 3), .int (nI (v 5)), .int (nI (v 6)), .ref (m 4), .ref (m 5), .ref (m 6), .ref (m 7), .ref (m 8), .ref (m 9), .ref (m 10), .ref (m 11), .int (nI (v 15)), .int (nI (v 16)), .int (nI (v 17)), .int (nI (v 18)), .long (lN (v 19))], aI Y (m 1) 101 (nF nw)]) C (R_S (st := [.int (nI (v 17)), .ref (m 0)]) (wc := []) C (kX5_cardOf ll Y c (hc7)) (va_cwS 1 C.t gX5_plays_X5_cardOf rfl rfl rfl (by decide +kernel) ⟨by decide, by decide⟩) rfl [] rfl (by decide) rfl (Nat.le_of_ble_eq_true rfl) dX5_plays_82 ⟨Nat.le_of_ble_eq_true rfl, Nat.le_of_ble_eq_true rfl⟩) [] [0, 1] rfl rfl (by decide) (by decide) (fun r82 u82 hw82 => ?_)
          subst hw82
          refine J_eq (pc' := 85) (lv' := [(1, .int (p2i (nw 1 = 1 ∧ nw (17 + (v 17)) = 1))), (0, .ref (m 0))]) (st' := [.int (nI c), .int (nI (v 17)), .ref (m 0)]) (ws' := [oB (m 0) 5 [.ref (m 1), .ref (m 2), .int (nI (v 2)), .int (nI (v 3)), .ref (m 3), .int (nI (v 5)), .int (nI (v 6)), .ref (m 4), .ref (m 5), .ref (m 6), .ref (m 7), .ref (m 8), .ref (m 9), .ref (m 10), .ref (m 11), .int (nI (v 15)), .int (nI (v 16)), .int (nI (v 17)), .int (nI (v 18)), .long (lN (v 19))], aI Y (m 1) 101 (nF nw)]) rfl rfl rfl rfl ?_
          refine J_callI (wr := []) C (R_V (st := []) (wc := [oB (m 0) 5 [.ref (m 1), .ref (m 2), .int (nI (v 2)), .int (nI (v 3)), .ref (m 3), .int (nI (v 5)), .int (nI (v 6)), .ref (m 4), .ref (m 5), .ref (m 6), .ref (m 7), .ref (m 8), .ref (m 9), .ref (m 10), .ref (m 11), .int (nI (v 15)), .int (nI (v 16)), .int (nI (v 17)), .int (nI (v 18)), .long (lN (v 19))], aI Y (m 1) 101 (nF nw)]) C (kX5_proves ll Y m v nw (v 17) c (h17) (hc7) (h13 _ (by omega))) (cwV 2 C.t gX5_plays_X5_proves rfl rfl rfl (by decide +kernel) ⟨by decide, by decide⟩) rfl [0, 1] rfl (by decide) ⟨0, 5, _, _, rfl, rfl, rfl⟩ rfl (Nat.le_of_ble_eq_true rfl) dX5_plays_85 ⟨Nat.le_of_ble_eq_true rfl, Nat.le_of_ble_eq_true rfl⟩) [0, 1] [] rfl rfl (by decide) (by decide) (fun r85 u85 hw85 => ?_)
          subst hw85
          refine J_eq (pc' := 88) (lv' := [(1, .int (p2i (nw 1 = 1 ∧ nw (17 + (v 17)) = 1))), (0, .ref (m 0))]) (st' := [.int (p2i (nw (13 + (v 17)) / 2 ^ c &&& 1 = 1))]) (ws' := [oB (m 0) 5 [.ref (m 1), .ref (m 2), .int (nI (v 2)), .int (nI (v 3)), .ref (m 3), .int (nI (v 5)), .int (nI (v 6)), .ref (m 4), .ref (m 5), .ref (m 6), .ref (m 7), .ref (m 8), .ref (m 9), .ref (m 10), .ref (m 11), .int (nI (v 15)), .int (nI (v 16)), .int (nI (v 17)), .int (nI (v 18)), .long (lN (v 19))], aI Y (m 1) 101 (nF (prvN nw (v 17) c))]) rfl rfl rfl rfl ?_
          refine J_istore_n (lv' := [(2, .int (p2i (nw (13 + (v 17)) / 2 ^ c &&& 1 = 1))), (1, .int (p2i (nw 1 = 1 ∧ nw (17 + (v 17)) = 1))), (0, .ref (m 0))]) C dX5_plays_88 rfl (by decide) rfl ?_
          refine J_iload_n C dX5_plays_89 rfl 1 rfl ?_
          exact J_zret C hr p2i_nar dX5_plays_90 (()) (p2i_if (by unfold plC; omega)) (by rw [plN_p (by unfold plC; omega) (by omega) hc9 hc7])
      · refine J_aload_n C dX5_plays_44 rfl 1 rfl ?_
        refine J_get (ci := 5) C i5 rfl 16 (by decide) w1 rfl 0 rfl rfl dX5_plays_45 ?_
        refine J_bipush C dX5_plays_48 (v := nI 103) (by decide) ?_
        refine J_icmp_neN (tgt := 69) C dX5_plays_50 (by decide) (by omega) (by omega) (fun cq50 => ?_) (fun cq50 => ?_)
        · refine J_iload_n C dX5_plays_69 rfl 0 rfl ?_
          refine J_if_eqP (tgt := 89) C dX5_plays_70 (by decide) (fun cq70 => ?_) (fun cq70 => ?_)
          · refine J_iload_n C dX5_plays_89 rfl 0 rfl ?_
            exact J_zret C hr p2i_nar dX5_plays_90 (()) (p2i_if (by unfold plC; omega)) (by rw [plN_0 (by unfold plC; omega)])
          · obtain ⟨c, hc7, hc9⟩ := hcd (by omega)
            refine J_aload_n C dX5_plays_73 rfl 1 rfl ?_
            refine J_aload_n C dX5_plays_74 rfl 1 rfl ?_
            refine J_get (ci := 5) C i5 rfl 17 (by decide) w0 rfl 0 rfl rfl dX5_plays_75 ?_
            refine J_aload_n C dX5_plays_78 rfl 1 rfl ?_
            refine J_get (ci := 5) C i5 rfl 18 (by decide) w2 rfl 0 rfl rfl dX5_plays_79 ?_
            refine J_top (y := .int (nI (1 * 2 ^ c))) (by rw [hc9]) ?_
            refine J_callI (wr := [oB (m 0) 5 [.ref (m 1), .ref (m 2), .int (nI (v 2)), .int (nI (v 3)), .ref (m 3), .int (nI (v 5)), .int (nI (v 6)), .ref (m 4), .ref (m 5), .ref (m 6), .ref (m 7), .ref (m 8), .ref (m 9), .ref (m 10), .ref (m 11), .int (nI (v 15)), .int (nI (v 16)), .int (nI (v 17)), .int (nI (v 18)), .long (lN (v 19))], aI Y (m 1) 101 (nF nw)]) C (R_S (st := [.int (nI (v 17)), .ref (m 0)]) (wc := []) C (kX5_cardOf ll Y c (hc7)) (va_cwS 1 C.t gX5_plays_X5_cardOf rfl rfl rfl (by decide +kernel) ⟨by decide, by decide⟩) rfl [] rfl (by decide) rfl (Nat.le_of_ble_eq_true rfl) dX5_plays_82 ⟨Nat.le_of_ble_eq_true rfl, Nat.le_of_ble_eq_true rfl⟩) [] [0, 1] rfl rfl (by decide) (by decide) (fun r82 u82 hw82 => ?_)
            subst hw82
            refine J_eq (pc' := 85) (lv' := [(1, .int (p2i (nw 1 = 1 ∧ nw (17 + (v 17)) = 1))), (0, .ref (m 0))]) (st' := [.int (nI c), .int (nI (v 17)), .ref (m 0)]) (ws' := [oB (m 0) 5 [.ref (m 1), .ref (m 2), .int (nI (v 2)), .int (nI (v 3)), .ref (m 3), .int (nI (v 5)), .int (nI (v 6)), .ref (m 4), .ref (m 5), .ref (m 6), .ref (m 7), .ref (m 8), .ref (m 9), .ref (m 10), .ref (m 11), .int (nI (v 15)), .int (nI (v 16)), .int (nI (v 17)), .int (nI (v 18)), .long (lN (v 19))], aI Y (m 1) 101 (nF nw)]) rfl rfl rfl rfl ?_
            refine J_callI (wr := []) C (R_V (st := []) (wc := [oB (m 0) 5 [.ref (m 1), .ref (m 2), .int (nI (v 2)), .int (nI (v 3)), .ref (m 3), .int (nI (v 5)), .int (nI (v 6)), .ref (m 4), .ref (m 5), .ref (m 6), .ref (m 7), .ref (m 8), .ref (m 9), .ref (m 10), .ref (m 11), .int (nI (v 15)), .int (nI (v 16)), .int (nI (v 17)), .int (nI (v 18)), .long (lN (v 19))], aI Y (m 1) 101 (nF nw)]) C (kX5_proves ll Y m v nw (v 17) c (h17) (hc7) (h13 _ (by omega))) (cwV 2 C.t gX5_plays_X5_proves rfl rfl rfl (by decide +kernel) ⟨by decide, by decide⟩) rfl [0, 1] rfl (by decide) ⟨0, 5, _, _, rfl, rfl, rfl⟩ rfl (Nat.le_of_ble_eq_true rfl) dX5_plays_85 ⟨Nat.le_of_ble_eq_true rfl, Nat.le_of_ble_eq_true rfl⟩) [0, 1] [] rfl rfl (by decide) (by decide) (fun r85 u85 hw85 => ?_)
            subst hw85
            refine J_eq (pc' := 88) (lv' := [(1, .int (p2i (nw 1 = 1 ∧ nw (17 + (v 17)) = 1))), (0, .ref (m 0))]) (st' := [.int (p2i (nw (13 + (v 17)) / 2 ^ c &&& 1 = 1))]) (ws' := [oB (m 0) 5 [.ref (m 1), .ref (m 2), .int (nI (v 2)), .int (nI (v 3)), .ref (m 3), .int (nI (v 5)), .int (nI (v 6)), .ref (m 4), .ref (m 5), .ref (m 6), .ref (m 7), .ref (m 8), .ref (m 9), .ref (m 10), .ref (m 11), .int (nI (v 15)), .int (nI (v 16)), .int (nI (v 17)), .int (nI (v 18)), .long (lN (v 19))], aI Y (m 1) 101 (nF (prvN nw (v 17) c))]) rfl rfl rfl rfl ?_
            refine J_istore_n (lv' := [(2, .int (p2i (nw (13 + (v 17)) / 2 ^ c &&& 1 = 1))), (1, .int (p2i (nw 1 = 1 ∧ nw (17 + (v 17)) = 1))), (0, .ref (m 0))]) C dX5_plays_88 rfl (by decide) rfl ?_
            refine J_iload_n C dX5_plays_89 rfl 1 rfl ?_
            exact J_zret C hr p2i_nar dX5_plays_90 (()) (p2i_if (by unfold plC; omega)) (by rw [plN_p (by unfold plC; omega) (by omega) hc9 hc7])
        · refine J_aload_n C dX5_plays_53 rfl 1 rfl ?_
          refine J_get (ci := 5) C i5 rfl 0 (by decide) w3 rfl 0 rfl rfl dX5_plays_54 ?_
          refine J_bipush C dX5_plays_57 (v := nI 17) (by decide) ?_
          refine J_aload_n C dX5_plays_59 rfl 1 rfl ?_
          refine J_get (ci := 5) C i5 rfl 17 (by decide) w0 rfl 0 rfl rfl dX5_plays_60 ?_
          refine J_iaddN C dX5_plays_63 ?_
          refine J_iconst C dX5_plays_64 (v := nI 0) (by decide) ?_
          refine J_iastF (ws' := [oB (m 0) 5 [.ref (m 1), .ref (m 2), .int (nI (v 2)), .int (nI (v 3)), .ref (m 3), .int (nI (v 5)), .int (nI (v 6)), .ref (m 4), .ref (m 5), .ref (m 6), .ref (m 7), .ref (m 8), .ref (m 9), .ref (m 10), .ref (m 11), .int (nI (v 15)), .int (nI (v 16)), .int (nI (v 17)), .int (nI (v 18)), .long (lN (v 19))], aI Y (m 1) 101 (nF (va_up nw (17 + (v 17)) 0))]) C 1 rfl (by omega) (by omega) dX5_plays_65 rfl ?_
          refine J_goto (tgt := 89) C dX5_plays_66 (by decide) ?_
          refine J_iload_n C dX5_plays_89 rfl 0 rfl ?_
          exact J_zret C hr p2i_nar dX5_plays_90 (()) (p2i_if (by unfold plC; omega)) (by rw [plN_g (by unfold plC; omega) (by omega)])
    · refine J_aload_n C dX5_plays_22 rfl 0 rfl ?_
      refine J_get (ci := 5) C i5 rfl 16 (by decide) w1 rfl 0 rfl rfl dX5_plays_23 ?_
      refine J_bipush C dX5_plays_26 (v := nI 112) (by decide) ?_
      refine J_icmp_neN (tgt := 91) C dX5_plays_28 (by decide) (by omega) (by omega) (fun cq28 => ?_) (fun cq28 => ?_)
      · refine J_aload_n C dX5_plays_91 rfl 0 rfl ?_
        refine J_aload_n C dX5_plays_92 rfl 0 rfl ?_
        refine J_get (ci := 5) C i5 rfl 17 (by decide) w0 rfl 0 rfl rfl dX5_plays_93 ?_
        refine J_aload_n C dX5_plays_96 rfl 0 rfl ?_
        refine J_get (ci := 5) C i5 rfl 16 (by decide) w1 rfl 0 rfl rfl dX5_plays_97 ?_
        refine J_bipush C dX5_plays_100 (v := nI 108) (by decide) ?_
        refine J_icmp_neN (tgt := 109) C dX5_plays_102 (by decide) (by omega) (by omega) (fun cq102 => ?_) (fun cq102 => ?_)
        · refine J_iconst C dX5_plays_109 (v := nI 0) (by decide) ?_
          refine J_top (y := .int (p2i (v 16 = 108))) (by rw [p2i_f cq102]) ?_
          refine J_callI (wr := []) C (R_V (st := []) (wc := [oB (m 0) 5 [.ref (m 1), .ref (m 2), .int (nI (v 2)), .int (nI (v 3)), .ref (m 3), .int (nI (v 5)), .int (nI (v 6)), .ref (m 4), .ref (m 5), .ref (m 6), .ref (m 7), .ref (m 8), .ref (m 9), .ref (m 10), .ref (m 11), .int (nI (v 15)), .int (nI (v 16)), .int (nI (v 17)), .int (nI (v 18)), .long (lN (v 19))], aI Y (m 1) 101 (nF nw)]) C (kX5_canAsk ll Y m v nw (v 17) (v 16 = 108) (by first | assumption | omega) (h17)) (cwV 2 C.t gX5_plays_X5_canAsk rfl rfl rfl (by decide +kernel) ⟨by decide, by decide⟩) rfl [0, 1] rfl (by decide) ⟨0, 5, _, _, rfl, rfl, rfl⟩ rfl (Nat.le_of_ble_eq_true rfl) dX5_plays_110 ⟨Nat.le_of_ble_eq_true rfl, Nat.le_of_ble_eq_true rfl⟩) [0, 1] [] rfl rfl (by decide) (by decide) (fun r110 u110 hw110 => ?_)
          subst hw110
          refine J_eq (pc' := 113) (lv' := [(0, .ref (m 0))]) (st' := [.int (p2i (nw 1 = 1 ∧ nw (17 + (v 17)) = 1 ∧ nw 7 < 20 ∧ ¬ ((v 16 = 108) ∧ nw (21 + (v 17)) = 1)))]) (ws' := [oB (m 0) 5 [.ref (m 1), .ref (m 2), .int (nI (v 2)), .int (nI (v 3)), .ref (m 3), .int (nI (v 5)), .int (nI (v 6)), .ref (m 4), .ref (m 5), .ref (m 6), .ref (m 7), .ref (m 8), .ref (m 9), .ref (m 10), .ref (m 11), .int (nI (v 15)), .int (nI (v 16)), .int (nI (v 17)), .int (nI (v 18)), .long (lN (v 19))], aI Y (m 1) 101 (nF nw)]) rfl rfl rfl rfl ?_
          refine J_istore_n (lv' := [(1, .int (p2i (nw 1 = 1 ∧ nw (17 + (v 17)) = 1 ∧ nw 7 < 20 ∧ ¬ ((v 16 = 108) ∧ nw (21 + (v 17)) = 1)))), (0, .ref (m 0))]) C dX5_plays_113 rfl (by decide) rfl ?_
          refine J_iload_n C dX5_plays_114 rfl 0 rfl ?_
          refine J_if_eqP (tgt := 145) C dX5_plays_115 (by decide) (fun cq115 => ?_) (fun cq115 => ?_)
          · refine J_iload_n C dX5_plays_145 rfl 0 rfl ?_
            exact J_zret C hr p2i_nar dX5_plays_146 (()) (p2i_if (by unfold plC; omega)) (by rw [plN_0 (by unfold plC; omega)])
          · refine J_aload_n C dX5_plays_118 rfl 1 rfl ?_
            refine J_aload_n C dX5_plays_119 rfl 1 rfl ?_
            refine J_get (ci := 5) C i5 rfl 17 (by decide) w0 rfl 0 rfl rfl dX5_plays_120 ?_
            refine J_aload_n C dX5_plays_123 rfl 1 rfl ?_
            refine J_get (ci := 5) C i5 rfl 18 (by decide) w2 rfl 0 rfl rfl dX5_plays_124 ?_
            refine J_aload_n C dX5_plays_127 rfl 1 rfl ?_
            refine J_get (ci := 5) C i5 rfl 16 (by decide) w1 rfl 0 rfl rfl dX5_plays_128 ?_
            refine J_bipush C dX5_plays_131 (v := nI 108) (by decide) ?_
            refine J_icmp_neN (tgt := 140) C dX5_plays_133 (by decide) (by omega) (by omega) (fun cq133 => ?_) (fun cq133 => ?_)
            · refine J_iconst C dX5_plays_140 (v := nI 0) (by decide) ?_
              refine J_top (y := .int (p2i (v 16 = 108))) (by rw [p2i_f cq133]) ?_
              refine J_callI (wr := []) C (R_V (st := []) (wc := [oB (m 0) 5 [.ref (m 1), .ref (m 2), .int (nI (v 2)), .int (nI (v 3)), .ref (m 3), .int (nI (v 5)), .int (nI (v 6)), .ref (m 4), .ref (m 5), .ref (m 6), .ref (m 7), .ref (m 8), .ref (m 9), .ref (m 10), .ref (m 11), .int (nI (v 15)), .int (nI (v 16)), .int (nI (v 17)), .int (nI (v 18)), .long (lN (v 19))], aI Y (m 1) 101 (nF nw)]) C (kX5_asks ll Y m v nw (v 17) (v 18) (v 16 = 108) (h17) (h18 (by omega)) (cq115.2.2.1) (h9 _ (by omega))) (cwV 3 C.t gX5_plays_X5_asks rfl rfl rfl (by decide +kernel) ⟨by decide, by decide⟩) rfl [0, 1] rfl (by decide) ⟨0, 5, _, _, rfl, rfl, rfl⟩ rfl (Nat.le_of_ble_eq_true rfl) dX5_plays_141 ⟨Nat.le_of_ble_eq_true rfl, Nat.le_of_ble_eq_true rfl⟩) [0, 1] [] rfl rfl (by decide) (by decide) (fun r141 u141 hw141 => ?_)
              subst hw141
              refine J_eq (pc' := 144) (lv' := [(1, .int (p2i (nw 1 = 1 ∧ nw (17 + (v 17)) = 1 ∧ nw 7 < 20 ∧ ¬ ((v 16 = 108) ∧ nw (21 + (v 17)) = 1)))), (0, .ref (m 0))]) (st' := [.int (nI (ansN (nw (13 + (v 17))) (nw (9 + (v 17))) (v 18) (v 16 = 108)))]) (ws' := [oB (m 0) 5 [.ref (m 1), .ref (m 2), .int (nI (v 2)), .int (nI (v 3)), .ref (m 3), .int (nI (v 5)), .int (nI (v 6)), .ref (m 4), .ref (m 5), .ref (m 6), .ref (m 7), .ref (m 8), .ref (m 9), .ref (m 10), .ref (m 11), .int (nI (v 15)), .int (nI (v 16)), .int (nI (v 17)), .int (nI (v 18)), .long (lN (v 19))], aI Y (m 1) 101 (nF (askN nw (v 17) (v 18) (ansN (nw (13 + (v 17))) (nw (9 + (v 17))) (v 18) (v 16 = 108)) (v 16 = 108)))]) rfl rfl rfl rfl ?_
              refine J_istore_n (lv' := [(2, .int (nI (ansN (nw (13 + (v 17))) (nw (9 + (v 17))) (v 18) (v 16 = 108)))), (1, .int (p2i (nw 1 = 1 ∧ nw (17 + (v 17)) = 1 ∧ nw 7 < 20 ∧ ¬ ((v 16 = 108) ∧ nw (21 + (v 17)) = 1)))), (0, .ref (m 0))]) C dX5_plays_144 rfl (by decide) rfl ?_
              refine J_iload_n C dX5_plays_145 rfl 1 rfl ?_
              exact J_zret C hr p2i_nar dX5_plays_146 (()) (p2i_if (by unfold plC; omega)) (by rw [plN_a (by unfold plC; omega) (by omega) (by omega)])
            · refine J_iconst C dX5_plays_136 (v := nI 1) (by decide) ?_
              refine J_goto (tgt := 141) C dX5_plays_137 (by decide) ?_
              refine J_top (y := .int (p2i (v 16 = 108))) (by rw [p2i_t cq133]) ?_
              refine J_callI (wr := []) C (R_V (st := []) (wc := [oB (m 0) 5 [.ref (m 1), .ref (m 2), .int (nI (v 2)), .int (nI (v 3)), .ref (m 3), .int (nI (v 5)), .int (nI (v 6)), .ref (m 4), .ref (m 5), .ref (m 6), .ref (m 7), .ref (m 8), .ref (m 9), .ref (m 10), .ref (m 11), .int (nI (v 15)), .int (nI (v 16)), .int (nI (v 17)), .int (nI (v 18)), .long (lN (v 19))], aI Y (m 1) 101 (nF nw)]) C (kX5_asks ll Y m v nw (v 17) (v 18) (v 16 = 108) (h17) (h18 (by omega)) (cq115.2.2.1) (h9 _ (by omega))) (cwV 3 C.t gX5_plays_X5_asks rfl rfl rfl (by decide +kernel) ⟨by decide, by decide⟩) rfl [0, 1] rfl (by decide) ⟨0, 5, _, _, rfl, rfl, rfl⟩ rfl (Nat.le_of_ble_eq_true rfl) dX5_plays_141 ⟨Nat.le_of_ble_eq_true rfl, Nat.le_of_ble_eq_true rfl⟩) [0, 1] [] rfl rfl (by decide) (by decide) (fun r141 u141 hw141 => ?_)
              subst hw141
              refine J_eq (pc' := 144) (lv' := [(1, .int (p2i (nw 1 = 1 ∧ nw (17 + (v 17)) = 1 ∧ nw 7 < 20 ∧ ¬ ((v 16 = 108) ∧ nw (21 + (v 17)) = 1)))), (0, .ref (m 0))]) (st' := [.int (nI (ansN (nw (13 + (v 17))) (nw (9 + (v 17))) (v 18) (v 16 = 108)))]) (ws' := [oB (m 0) 5 [.ref (m 1), .ref (m 2), .int (nI (v 2)), .int (nI (v 3)), .ref (m 3), .int (nI (v 5)), .int (nI (v 6)), .ref (m 4), .ref (m 5), .ref (m 6), .ref (m 7), .ref (m 8), .ref (m 9), .ref (m 10), .ref (m 11), .int (nI (v 15)), .int (nI (v 16)), .int (nI (v 17)), .int (nI (v 18)), .long (lN (v 19))], aI Y (m 1) 101 (nF (askN nw (v 17) (v 18) (ansN (nw (13 + (v 17))) (nw (9 + (v 17))) (v 18) (v 16 = 108)) (v 16 = 108)))]) rfl rfl rfl rfl ?_
              refine J_istore_n (lv' := [(2, .int (nI (ansN (nw (13 + (v 17))) (nw (9 + (v 17))) (v 18) (v 16 = 108)))), (1, .int (p2i (nw 1 = 1 ∧ nw (17 + (v 17)) = 1 ∧ nw 7 < 20 ∧ ¬ ((v 16 = 108) ∧ nw (21 + (v 17)) = 1)))), (0, .ref (m 0))]) C dX5_plays_144 rfl (by decide) rfl ?_
              refine J_iload_n C dX5_plays_145 rfl 1 rfl ?_
              exact J_zret C hr p2i_nar dX5_plays_146 (()) (p2i_if (by unfold plC; omega)) (by rw [plN_a (by unfold plC; omega) (by omega) (by omega)])
        · refine J_iconst C dX5_plays_105 (v := nI 1) (by decide) ?_
          refine J_goto (tgt := 110) C dX5_plays_106 (by decide) ?_
          refine J_top (y := .int (p2i (v 16 = 108))) (by rw [p2i_t cq102]) ?_
          refine J_callI (wr := []) C (R_V (st := []) (wc := [oB (m 0) 5 [.ref (m 1), .ref (m 2), .int (nI (v 2)), .int (nI (v 3)), .ref (m 3), .int (nI (v 5)), .int (nI (v 6)), .ref (m 4), .ref (m 5), .ref (m 6), .ref (m 7), .ref (m 8), .ref (m 9), .ref (m 10), .ref (m 11), .int (nI (v 15)), .int (nI (v 16)), .int (nI (v 17)), .int (nI (v 18)), .long (lN (v 19))], aI Y (m 1) 101 (nF nw)]) C (kX5_canAsk ll Y m v nw (v 17) (v 16 = 108) (by first | assumption | omega) (h17)) (cwV 2 C.t gX5_plays_X5_canAsk rfl rfl rfl (by decide +kernel) ⟨by decide, by decide⟩) rfl [0, 1] rfl (by decide) ⟨0, 5, _, _, rfl, rfl, rfl⟩ rfl (Nat.le_of_ble_eq_true rfl) dX5_plays_110 ⟨Nat.le_of_ble_eq_true rfl, Nat.le_of_ble_eq_true rfl⟩) [0, 1] [] rfl rfl (by decide) (by decide) (fun r110 u110 hw110 => ?_)
          subst hw110
          refine J_eq (pc' := 113) (lv' := [(0, .ref (m 0))]) (st' := [.int (p2i (nw 1 = 1 ∧ nw (17 + (v 17)) = 1 ∧ nw 7 < 20 ∧ ¬ ((v 16 = 108) ∧ nw (21 + (v 17)) = 1)))]) (ws' := [oB (m 0) 5 [.ref (m 1), .ref (m 2), .int (nI (v 2)), .int (nI (v 3)), .ref (m 3), .int (nI (v 5)), .int (nI (v 6)), .ref (m 4), .ref (m 5), .ref (m 6), .ref (m 7), .ref (m 8), .ref (m 9), .ref (m 10), .ref (m 11), .int (nI (v 15)), .int (nI (v 16)), .int (nI (v 17)), .int (nI (v 18)), .long (lN (v 19))], aI Y (m 1) 101 (nF nw)]) rfl rfl rfl rfl ?_
          refine J_istore_n (lv' := [(1, .int (p2i (nw 1 = 1 ∧ nw (17 + (v 17)) = 1 ∧ nw 7 < 20 ∧ ¬ ((v 16 = 108) ∧ nw (21 + (v 17)) = 1)))), (0, .ref (m 0))]) C dX5_plays_113 rfl (by decide) rfl ?_
          refine J_iload_n C dX5_plays_114 rfl 0 rfl ?_
          refine J_if_eqP (tgt := 145) C dX5_plays_115 (by decide) (fun cq115 => ?_) (fun cq115 => ?_)
          · refine J_iload_n C dX5_plays_145 rfl 0 rfl ?_
            exact J_zret C hr p2i_nar dX5_plays_146 (()) (p2i_if (by unfold plC; omega)) (by rw [plN_0 (by unfold plC; omega)])
          · refine J_aload_n C dX5_plays_118 rfl 1 rfl ?_
            refine J_aload_n C dX5_plays_119 rfl 1 rfl ?_
            refine J_get (ci := 5) C i5 rfl 17 (by decide) w0 rfl 0 rfl rfl dX5_plays_120 ?_
            refine J_aload_n C dX5_plays_123 rfl 1 rfl ?_
            refine J_get (ci := 5) C i5 rfl 18 (by decide) w2 rfl 0 rfl rfl dX5_plays_124 ?_
            refine J_aload_n C dX5_plays_127 rfl 1 rfl ?_
            refine J_get (ci := 5) C i5 rfl 16 (by decide) w1 rfl 0 rfl rfl dX5_plays_128 ?_
            refine J_bipush C dX5_plays_131 (v := nI 108) (by decide) ?_
            refine J_icmp_neN (tgt := 140) C dX5_plays_133 (by decide) (by omega) (by omega) (fun cq133 => ?_) (fun cq133 => ?_)
            · refine J_iconst C dX5_plays_140 (v := nI 0) (by decide) ?_
              refine J_top (y := .int (p2i (v 16 = 108))) (by rw [p2i_f cq133]) ?_
              refine J_callI (wr := []) C (R_V (st := []) (wc := [oB (m 0) 5 [.ref (m 1), .ref (m 2), .int (nI (v 2)), .int (nI (v 3)), .ref (m 3), .int (nI (v 5)), .int (nI (v 6)), .ref (m 4), .ref (m 5), .ref (m 6), .ref (m 7), .ref (m 8), .ref (m 9), .ref (m 10), .ref (m 11), .int (nI (v 15)), .int (nI (v 16)), .int (nI (v 17)), .int (nI (v 18)), .long (lN (v 19))], aI Y (m 1) 101 (nF nw)]) C (kX5_asks ll Y m v nw (v 17) (v 18) (v 16 = 108) (h17) (h18 (by omega)) (cq115.2.2.1) (h9 _ (by omega))) (cwV 3 C.t gX5_plays_X5_asks rfl rfl rfl (by decide +kernel) ⟨by decide, by decide⟩) rfl [0, 1] rfl (by decide) ⟨0, 5, _, _, rfl, rfl, rfl⟩ rfl (Nat.le_of_ble_eq_true rfl) dX5_plays_141 ⟨Nat.le_of_ble_eq_true rfl, Nat.le_of_ble_eq_true rfl⟩) [0, 1] [] rfl rfl (by decide) (by decide) (fun r141 u141 hw141 => ?_)
              subst hw141
              refine J_eq (pc' := 144) (lv' := [(1, .int (p2i (nw 1 = 1 ∧ nw (17 + (v 17)) = 1 ∧ nw 7 < 20 ∧ ¬ ((v 16 = 108) ∧ nw (21 + (v 17)) = 1)))), (0, .ref (m 0))]) (st' := [.int (nI (ansN (nw (13 + (v 17))) (nw (9 + (v 17))) (v 18) (v 16 = 108)))]) (ws' := [oB (m 0) 5 [.ref (m 1), .ref (m 2), .int (nI (v 2)), .int (nI (v 3)), .ref (m 3), .int (nI (v 5)), .int (nI (v 6)), .ref (m 4), .ref (m 5), .ref (m 6), .ref (m 7), .ref (m 8), .ref (m 9), .ref (m 10), .ref (m 11), .int (nI (v 15)), .int (nI (v 16)), .int (nI (v 17)), .int (nI (v 18)), .long (lN (v 19))], aI Y (m 1) 101 (nF (askN nw (v 17) (v 18) (ansN (nw (13 + (v 17))) (nw (9 + (v 17))) (v 18) (v 16 = 108)) (v 16 = 108)))]) rfl rfl rfl rfl ?_
              refine J_istore_n (lv' := [(2, .int (nI (ansN (nw (13 + (v 17))) (nw (9 + (v 17))) (v 18) (v 16 = 108)))), (1, .int (p2i (nw 1 = 1 ∧ nw (17 + (v 17)) = 1 ∧ nw 7 < 20 ∧ ¬ ((v 16 = 108) ∧ nw (21 + (v 17)) = 1)))), (0, .ref (m 0))]) C dX5_plays_144 rfl (by decide) rfl ?_
              refine J_iload_n C dX5_plays_145 rfl 1 rfl ?_
              exact J_zret C hr p2i_nar dX5_plays_146 (()) (p2i_if (by unfold plC; omega)) (by rw [plN_a (by unfold plC; omega) (by omega) (by omega)])
            · refine J_iconst C dX5_plays_136 (v := nI 1) (by decide) ?_
              refine J_goto (tgt := 141) C dX5_plays_137 (by decide) ?_
              refine J_top (y := .int (p2i (v 16 = 108))) (by rw [p2i_t cq133]) ?_
              refine J_callI (wr := []) C (R_V (st := []) (wc := [oB (m 0) 5 [.ref (m 1), .ref (m 2), .int (nI (v 2)), .int (nI (v 3)), .ref (m 3), .int (nI (v 5)), .int (nI (v 6)), .ref (m 4), .ref (m 5), .ref (m 6), .ref (m 7), .ref (m 8), .ref (m 9), .ref (m 10), .ref (m 11), .int (nI (v 15)), .int (nI (v 16)), .int (nI (v 17)), .int (nI (v 18)), .long (lN (v 19))], aI Y (m 1) 101 (nF nw)]) C (kX5_asks ll Y m v nw (v 17) (v 18) (v 16 = 108) (h17) (h18 (by omega)) (cq115.2.2.1) (h9 _ (by omega))) (cwV 3 C.t gX5_plays_X5_asks rfl rfl rfl (by decide +kernel) ⟨by decide, by decide⟩) rfl [0, 1] rfl (by decide) ⟨0, 5, _, _, rfl, rfl, rfl⟩ rfl (Nat.le_of_ble_eq_true rfl) dX5_plays_141 ⟨Nat.le_of_ble_eq_true rfl, Nat.le_of_ble_eq_true rfl⟩) [0, 1] [] rfl rfl (by decide) (by decide) (fun r141 u141 hw141 => ?_)
              subst hw141
              refine J_eq (pc' := 144) (lv' := [(1, .int (p2i (nw 1 = 1 ∧ nw (17 + (v 17)) = 1 ∧ nw 7 < 20 ∧ ¬ ((v 16 = 108) ∧ nw (21 + (v 17)) = 1)))), (0, .ref (m 0))]) (st' := [.int (nI (ansN (nw (13 + (v 17))) (nw (9 + (v 17))) (v 18) (v 16 = 108)))]) (ws' := [oB (m 0) 5 [.ref (m 1), .ref (m 2), .int (nI (v 2)), .int (nI (v 3)), .ref (m 3), .int (nI (v 5)), .int (nI (v 6)), .ref (m 4), .ref (m 5), .ref (m 6), .ref (m 7), .ref (m 8), .ref (m 9), .ref (m 10), .ref (m 11), .int (nI (v 15)), .int (nI (v 16)), .int (nI (v 17)), .int (nI (v 18)), .long (lN (v 19))], aI Y (m 1) 101 (nF (askN nw (v 17) (v 18) (ansN (nw (13 + (v 17))) (nw (9 + (v 17))) (v 18) (v 16 = 108)) (v 16 = 108)))]) rfl rfl rfl rfl ?_
              refine J_istore_n (lv' := [(2, .int (nI (ansN (nw (13 + (v 17))) (nw (9 + (v 17))) (v 18) (v 16 = 108)))), (1, .int (p2i (nw 1 = 1 ∧ nw (17 + (v 17)) = 1 ∧ nw 7 < 20 ∧ ¬ ((v 16 = 108) ∧ nw (21 + (v 17)) = 1)))), (0, .ref (m 0))]) C dX5_plays_144 rfl (by decide) rfl ?_
              refine J_iload_n C dX5_plays_145 rfl 1 rfl ?_
              exact J_zret C hr p2i_nar dX5_plays_146 (()) (p2i_if (by unfold plC; omega)) (by rw [plN_a (by unfold plC; omega) (by omega) (by omega)])
      · refine J_aload_n C dX5_plays_31 rfl 0 rfl ?_
        refine J_aload_n C dX5_plays_32 rfl 0 rfl ?_
        refine J_get (ci := 5) C i5 rfl 17 (by decide) w0 rfl 0 rfl rfl dX5_plays_33 ?_
        refine J_callI (wr := []) C (R_V (st := []) (wc := [oB (m 0) 5 [.ref (m 1), .ref (m 2), .int (nI (v 2)), .int (nI (v 3)), .ref (m 3), .int (nI (v 5)), .int (nI (v 6)), .ref (m 4), .ref (m 5), .ref (m 6), .ref (m 7), .ref (m 8), .ref (m 9), .ref (m 10), .ref (m 11), .int (nI (v 15)), .int (nI (v 16)), .int (nI (v 17)), .int (nI (v 18)), .long (lN (v 19))], aI Y (m 1) 101 (nF nw)]) C (kX5_isHere ll Y m v nw (v 17) (by first | assumption | omega) (h17)) (cwV 1 C.t gX5_plays_X5_isHere rfl rfl rfl (by decide +kernel) ⟨by decide, by decide⟩) rfl [0, 1] rfl (by decide) ⟨0, 5, _, _, rfl, rfl, rfl⟩ rfl (Nat.le_of_ble_eq_true rfl) dX5_plays_36 ⟨Nat.le_of_ble_eq_true rfl, Nat.le_of_ble_eq_true rfl⟩) [0, 1] [] rfl rfl (by decide) (by decide) (fun r36 u36 hw36 => ?_)
        subst hw36
        refine J_eq (pc' := 39) (lv' := [(0, .ref (m 0))]) (st' := [.int (p2i (nw 1 = 1 ∧ nw (17 + (v 17)) = 1))]) (ws' := [oB (m 0) 5 [.ref (m 1), .ref (m 2), .int (nI (v 2)), .int (nI (v 3)), .ref (m 3), .int (nI (v 5)), .int (nI (v 6)), .ref (m 4), .ref (m 5), .ref (m 6), .ref (m 7), .ref (m 8), .ref (m 9), .ref (m 10), .ref (m 11), .int (nI (v 15)), .int (nI (v 16)), .int (nI (v 17)), .int (nI (v 18)), .long (lN (v 19))], aI Y (m 1) 101 (nF nw)]) rfl rfl rfl rfl ?_
        refine J_istore_n (lv' := [(1, .int (p2i (nw 1 = 1 ∧ nw (17 + (v 17)) = 1))), (0, .ref (m 0))]) C dX5_plays_39 rfl (by decide) rfl ?_
        refine J_iload_n C dX5_plays_40 rfl 0 rfl ?_
        refine J_if_eqP (tgt := 69) C dX5_plays_41 (by decide) (fun cq41 => ?_) (fun cq41 => ?_)
        · refine J_iload_n C dX5_plays_69 rfl 0 rfl ?_
          refine J_if_eqP (tgt := 89) C dX5_plays_70 (by decide) (fun cq70 => ?_) (fun cq70 => ?_)
          · refine J_iload_n C dX5_plays_89 rfl 0 rfl ?_
            exact J_zret C hr p2i_nar dX5_plays_90 (()) (p2i_if (by unfold plC; omega)) (by rw [plN_0 (by unfold plC; omega)])
          · obtain ⟨c, hc7, hc9⟩ := hcd (by omega)
            refine J_aload_n C dX5_plays_73 rfl 1 rfl ?_
            refine J_aload_n C dX5_plays_74 rfl 1 rfl ?_
            refine J_get (ci := 5) C i5 rfl 17 (by decide) w0 rfl 0 rfl rfl dX5_plays_75 ?_
            refine J_aload_n C dX5_plays_78 rfl 1 rfl ?_
            refine J_get (ci := 5) C i5 rfl 18 (by decide) w2 rfl 0 rfl rfl dX5_plays_79 ?_
            refine J_top (y := .int (nI (1 * 2 ^ c))) (by rw [hc9]) ?_
            refine J_callI (wr := [oB (m 0) 5 [.ref (m 1), .ref (m 2), .int (nI (v 2)), .int (nI (v 3)), .ref (m 3), .int (nI (v 5)), .int (nI (v 6)), .ref (m 4), .ref (m 5), .ref (m 6), .ref (m 7), .ref (m 8), .ref (m 9), .ref (m 10), .ref (m 11), .int (nI (v 15)), .int (nI (v 16)), .int (nI (v 17)), .int (nI (v 18)), .long (lN (v 19))], aI Y (m 1) 101 (nF nw)]) C (R_S (st := [.int (nI (v 17)), .ref (m 0)]) (wc := []) C (kX5_cardOf ll Y c (hc7)) (va_cwS 1 C.t gX5_plays_X5_cardOf rfl rfl rfl (by decide +kernel) ⟨by decide, by decide⟩) rfl [] rfl (by decide) rfl (Nat.le_of_ble_eq_true rfl) dX5_plays_82 ⟨Nat.le_of_ble_eq_true rfl, Nat.le_of_ble_eq_true rfl⟩) [] [0, 1] rfl rfl (by decide) (by decide) (fun r82 u82 hw82 => ?_)
            subst hw82
            refine J_eq (pc' := 85) (lv' := [(1, .int (p2i (nw 1 = 1 ∧ nw (17 + (v 17)) = 1))), (0, .ref (m 0))]) (st' := [.int (nI c), .int (nI (v 17)), .ref (m 0)]) (ws' := [oB (m 0) 5 [.ref (m 1), .ref (m 2), .int (nI (v 2)), .int (nI (v 3)), .ref (m 3), .int (nI (v 5)), .int (nI (v 6)), .ref (m 4), .ref (m 5), .ref (m 6), .ref (m 7), .ref (m 8), .ref (m 9), .ref (m 10), .ref (m 11), .int (nI (v 15)), .int (nI (v 16)), .int (nI (v 17)), .int (nI (v 18)), .long (lN (v 19))], aI Y (m 1) 101 (nF nw)]) rfl rfl rfl rfl ?_
            refine J_callI (wr := []) C (R_V (st := []) (wc := [oB (m 0) 5 [.ref (m 1), .ref (m 2), .int (nI (v 2)), .int (nI (v 3)), .ref (m 3), .int (nI (v 5)), .int (nI (v 6)), .ref (m 4), .ref (m 5), .ref (m 6), .ref (m 7), .ref (m 8), .ref (m 9), .ref (m 10), .ref (m 11), .int (nI (v 15)), .int (nI (v 16)), .int (nI (v 17)), .int (nI (v 18)), .long (lN (v 19))], aI Y (m 1) 101 (nF nw)]) C (kX5_proves ll Y m v nw (v 17) c (h17) (hc7) (h13 _ (by omega))) (cwV 2 C.t gX5_plays_X5_proves rfl rfl rfl (by decide +kernel) ⟨by decide, by decide⟩) rfl [0, 1] rfl (by decide) ⟨0, 5, _, _, rfl, rfl, rfl⟩ rfl (Nat.le_of_ble_eq_true rfl) dX5_plays_85 ⟨Nat.le_of_ble_eq_true rfl, Nat.le_of_ble_eq_true rfl⟩) [0, 1] [] rfl rfl (by decide) (by decide) (fun r85 u85 hw85 => ?_)
            subst hw85
            refine J_eq (pc' := 88) (lv' := [(1, .int (p2i (nw 1 = 1 ∧ nw (17 + (v 17)) = 1))), (0, .ref (m 0))]) (st' := [.int (p2i (nw (13 + (v 17)) / 2 ^ c &&& 1 = 1))]) (ws' := [oB (m 0) 5 [.ref (m 1), .ref (m 2), .int (nI (v 2)), .int (nI (v 3)), .ref (m 3), .int (nI (v 5)), .int (nI (v 6)), .ref (m 4), .ref (m 5), .ref (m 6), .ref (m 7), .ref (m 8), .ref (m 9), .ref (m 10), .ref (m 11), .int (nI (v 15)), .int (nI (v 16)), .int (nI (v 17)), .int (nI (v 18)), .long (lN (v 19))], aI Y (m 1) 101 (nF (prvN nw (v 17) c))]) rfl rfl rfl rfl ?_
            refine J_istore_n (lv' := [(2, .int (p2i (nw (13 + (v 17)) / 2 ^ c &&& 1 = 1))), (1, .int (p2i (nw 1 = 1 ∧ nw (17 + (v 17)) = 1))), (0, .ref (m 0))]) C dX5_plays_88 rfl (by decide) rfl ?_
            refine J_iload_n C dX5_plays_89 rfl 1 rfl ?_
            exact J_zret C hr p2i_nar dX5_plays_90 (()) (p2i_if (by unfold plC; omega)) (by rw [plN_p (by unfold plC; omega) (by omega) hc9 hc7])
        · refine J_aload_n C dX5_plays_44 rfl 1 rfl ?_
          refine J_get (ci := 5) C i5 rfl 16 (by decide) w1 rfl 0 rfl rfl dX5_plays_45 ?_
          refine J_bipush C dX5_plays_48 (v := nI 103) (by decide) ?_
          refine J_icmp_neN (tgt := 69) C dX5_plays_50 (by decide) (by omega) (by omega) (fun cq50 => ?_) (fun cq50 => ?_)
          · refine J_iload_n C dX5_plays_69 rfl 0 rfl ?_
            refine J_if_eqP (tgt := 89) C dX5_plays_70 (by decide) (fun cq70 => ?_) (fun cq70 => ?_)
            · refine J_iload_n C dX5_plays_89 rfl 0 rfl ?_
              exact J_zret C hr p2i_nar dX5_plays_90 (()) (p2i_if (by unfold plC; omega)) (by rw [plN_0 (by unfold plC; omega)])
            · obtain ⟨c, hc7, hc9⟩ := hcd (by omega)
              refine J_aload_n C dX5_plays_73 rfl 1 rfl ?_
              refine J_aload_n C dX5_plays_74 rfl 1 rfl ?_
              refine J_get (ci := 5) C i5 rfl 17 (by decide) w0 rfl 0 rfl rfl dX5_plays_75 ?_
              refine J_aload_n C dX5_plays_78 rfl 1 rfl ?_
              refine J_get (ci := 5) C i5 rfl 18 (by decide) w2 rfl 0 rfl rfl dX5_plays_79 ?_
              refine J_top (y := .int (nI (1 * 2 ^ c))) (by rw [hc9]) ?_
              refine J_callI (wr := [oB (m 0) 5 [.ref (m 1), .ref (m 2), .int (nI (v 2)), .int (nI (v 3)), .ref (m 3), .int (nI (v 5)), .int (nI (v 6)), .ref (m 4), .ref (m 5), .ref (m 6), .ref (m 7), .ref (m 8), .ref (m 9), .ref (m 10), .ref (m 11), .int (nI (v 15)), .int (nI (v 16)), .int (nI (v 17)), .int (nI (v 18)), .long (lN (v 19))], aI Y (m 1) 101 (nF nw)]) C (R_S (st := [.int (nI (v 17)), .ref (m 0)]) (wc := []) C (kX5_cardOf ll Y c (hc7)) (va_cwS 1 C.t gX5_plays_X5_cardOf rfl rfl rfl (by decide +kernel) ⟨by decide, by decide⟩) rfl [] rfl (by decide) rfl (Nat.le_of_ble_eq_true rfl) dX5_plays_82 ⟨Nat.le_of_ble_eq_true rfl, Nat.le_of_ble_eq_true rfl⟩) [] [0, 1] rfl rfl (by decide) (by decide) (fun r82 u82 hw82 => ?_)
              subst hw82
              refine J_eq (pc' := 85) (lv' := [(1, .int (p2i (nw 1 = 1 ∧ nw (17 + (v 17)) = 1))), (0, .ref (m 0))]) (st' := [.int (nI c), .int (nI (v 17)), .ref (m 0)]) (ws' := [oB (m 0) 5 [.ref (m 1), .ref (m 2), .int (nI (v 2)), .int (nI (v 3)), .ref (m 3), .int (nI (v 5)), .int (nI (v 6)), .ref (m 4), .ref (m 5), .ref (m 6), .ref (m 7), .ref (m 8), .ref (m 9), .ref (m 10), .ref (m 11), .int (nI (v 15)), .int (nI (v 16)), .int (nI (v 17)), .int (nI (v 18)), .long (lN (v 19))], aI Y (m 1) 101 (nF nw)]) rfl rfl rfl rfl ?_
              refine J_callI (wr := []) C (R_V (st := []) (wc := [oB (m 0) 5 [.ref (m 1), .ref (m 2), .int (nI (v 2)), .int (nI (v 3)), .ref (m 3), .int (nI (v 5)), .int (nI (v 6)), .ref (m 4), .ref (m 5), .ref (m 6), .ref (m 7), .ref (m 8), .ref (m 9), .ref (m 10), .ref (m 11), .int (nI (v 15)), .int (nI (v 16)), .int (nI (v 17)), .int (nI (v 18)), .long (lN (v 19))], aI Y (m 1) 101 (nF nw)]) C (kX5_proves ll Y m v nw (v 17) c (h17) (hc7) (h13 _ (by omega))) (cwV 2 C.t gX5_plays_X5_proves rfl rfl rfl (by decide +kernel) ⟨by decide, by decide⟩) rfl [0, 1] rfl (by decide) ⟨0, 5, _, _, rfl, rfl, rfl⟩ rfl (Nat.le_of_ble_eq_true rfl) dX5_plays_85 ⟨Nat.le_of_ble_eq_true rfl, Nat.le_of_ble_eq_true rfl⟩) [0, 1] [] rfl rfl (by decide) (by decide) (fun r85 u85 hw85 => ?_)
              subst hw85
              refine J_eq (pc' := 88) (lv' := [(1, .int (p2i (nw 1 = 1 ∧ nw (17 + (v 17)) = 1))), (0, .ref (m 0))]) (st' := [.int (p2i (nw (13 + (v 17)) / 2 ^ c &&& 1 = 1))]) (ws' := [oB (m 0) 5 [.ref (m 1), .ref (m 2), .int (nI (v 2)), .int (nI (v 3)), .ref (m 3), .int (nI (v 5)), .int (nI (v 6)), .ref (m 4), .ref (m 5), .ref (m 6), .ref (m 7), .ref (m 8), .ref (m 9), .ref (m 10), .ref (m 11), .int (nI (v 15)), .int (nI (v 16)), .int (nI (v 17)), .int (nI (v 18)), .long (lN (v 19))], aI Y (m 1) 101 (nF (prvN nw (v 17) c))]) rfl rfl rfl rfl ?_
              refine J_istore_n (lv' := [(2, .int (p2i (nw (13 + (v 17)) / 2 ^ c &&& 1 = 1))), (1, .int (p2i (nw 1 = 1 ∧ nw (17 + (v 17)) = 1))), (0, .ref (m 0))]) C dX5_plays_88 rfl (by decide) rfl ?_
              refine J_iload_n C dX5_plays_89 rfl 1 rfl ?_
              exact J_zret C hr p2i_nar dX5_plays_90 (()) (p2i_if (by unfold plC; omega)) (by rw [plN_p (by unfold plC; omega) (by omega) hc9 hc7])
          · refine J_aload_n C dX5_plays_53 rfl 1 rfl ?_
            refine J_get (ci := 5) C i5 rfl 0 (by decide) w3 rfl 0 rfl rfl dX5_plays_54 ?_
            refine J_bipush C dX5_plays_57 (v := nI 17) (by decide) ?_
            refine J_aload_n C dX5_plays_59 rfl 1 rfl ?_
            refine J_get (ci := 5) C i5 rfl 17 (by decide) w0 rfl 0 rfl rfl dX5_plays_60 ?_
            refine J_iaddN C dX5_plays_63 ?_
            refine J_iconst C dX5_plays_64 (v := nI 0) (by decide) ?_
            refine J_iastF (ws' := [oB (m 0) 5 [.ref (m 1), .ref (m 2), .int (nI (v 2)), .int (nI (v 3)), .ref (m 3), .int (nI (v 5)), .int (nI (v 6)), .ref (m 4), .ref (m 5), .ref (m 6), .ref (m 7), .ref (m 8), .ref (m 9), .ref (m 10), .ref (m 11), .int (nI (v 15)), .int (nI (v 16)), .int (nI (v 17)), .int (nI (v 18)), .long (lN (v 19))], aI Y (m 1) 101 (nF (va_up nw (17 + (v 17)) 0))]) C 1 rfl (by omega) (by omega) dX5_plays_65 rfl ?_
            refine J_goto (tgt := 89) C dX5_plays_66 (by decide) ?_
            refine J_iload_n C dX5_plays_89 rfl 0 rfl ?_
            exact J_zret C hr p2i_nar dX5_plays_90 (()) (p2i_if (by unfold plC; omega)) (by rw [plN_g (by unfold plC; omega) (by omega)])
  · refine J_iconst C dX5_plays_11 (v := nI 0) (by decide) ?_
    exact J_zret C hr (by decide) dX5_plays_12 (()) (by rw [p2i_f (by unfold plC; omega)]) (by rw [plN_0 (by unfold plC; omega)])

