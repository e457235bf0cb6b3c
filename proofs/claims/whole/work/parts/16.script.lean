set_option maxHeartbeats 4000000 in
set_option maxRecDepth 100000 in
theorem kX3_look (ll : Launch) (Y : GY) (o : Nat) (sb : Nat) (n : Nat) (ub : Nat → Int32) (t : Nat → Nat) (kd : Int32) (gu : Int32) (cs : Int32) (cd : Int32) (a : Nat) (hn : n ≤ 90) (hu : ∀ i, i < n → ub i = nI (t i)) (ht : ∀ i, t i < 128) (ha : a ≤ 200) : CT ll yX3_look wsX3_look { frames := 0, cells := 0, slots := 0, locals := 0 } Y [.ref o] [oB o 3 [.ref sb, .int (nI n), .int (nI a), .int kd, .int gu, .int cs, .int cd], aI Y sb 90 ub] (QI Y (fun (r : Int32) (_ : Unit) => r = iZ (tk t n a)) (fun _ => [oB o 3 [.ref sb, .int (nI n), .int (nI a), .int kd, .int gu, .int cs, .int cd], aI Y sb 90 ub])) 0 0 := by
  refine CT_of (cc := cX3_look) (maxL := 1) (ret := (some .int)) (by decide) rfl (Nat.le_of_ble_eq_true rfl) ?_
  intro pp ee ss mm bl mt cc AA C hr hnm
  have w0 := C.t _ (List.mem_of_getElem? (i := 1) (show wsX3_look[1]? = some (Cond.fieldLink RX3 19 "SecretDinner$Script" "at" "I") from rfl))
  have w1 := C.t _ (List.mem_of_getElem? (i := 2) (show wsX3_look[2]? = some (Cond.fieldLink RX3 15 "SecretDinner$Script" "length" "I") from rfl))
  have w2 := C.t _ (List.mem_of_getElem? (i := 3) (show wsX3_look[3]? = some (Cond.fieldLink RX3 9 "SecretDinner$Script" "bytes" "[I") from rfl))
  have i3 : ∀ w ∈ wsX30, w ∈ wsX3_look := inPlaces [4, 5, 6, 7, 8, 9, 10] (by decide +kernel)
  refine J_eq (lv' := [(0, .ref o)]) (ws' := [oB o 3 [.ref sb, .int (nI n), .int (nI a), .int kd, .int gu, .int cs, .int cd], aI Y sb 90 ub]) rfl rfl rfl rfl ?_
  refine J_aload_n C dX3_look_0 rfl 0 rfl ?_
  refine J_get (ci := 3) C i3 rfl 2 (by decide) w0 rfl 0 rfl rfl dX3_look_1 ?_
  refine J_if_ltN (tgt := 39) C dX3_look_4 (by decide) (by omega) ?_
  refine J_aload_n C dX3_look_7 rfl 0 rfl ?_
  refine J_get (ci := 3) C i3 rfl 2 (by decide) w0 rfl 0 rfl rfl dX3_look_8 ?_
  refine J_aload_n C dX3_look_11 rfl 0 rfl ?_
  refine J_get (ci := 3) C i3 rfl 1 (by decide) w1 rfl 0 rfl rfl dX3_look_12 ?_
  refine J_icmp_geN (tgt := 39) C dX3_look_15 (by decide) (by omega) (by omega) (fun cq15 => ?_) (fun cq15 => ?_)
  · refine J_iconst C dX3_look_39 (v := iZ ((-1))) (by decide) ?_
    exact J_iret C hr dX3_look_40 (()) (by rw [tk_out (by omega)]) (rfl)
  · refine J_aload_n C dX3_look_18 rfl 0 rfl ?_
    refine J_get (ci := 3) C i3 rfl 2 (by decide) w0 rfl 0 rfl rfl dX3_look_19 ?_
    refine J_bipush C dX3_look_22 (v := nI 90) (by decide) ?_
    refine J_icmp_geN (tgt := 39) C dX3_look_24 (by decide) (by omega) (by omega) (fun cq24 => ?_) (fun cq24 => ?_)
    · refine J_iconst C dX3_look_39 (v := iZ ((-1))) (by decide) ?_
      exact J_iret C hr dX3_look_40 (()) (by rw [tk_out (by omega)]) (rfl)
    · refine J_aload_n C dX3_look_27 rfl 0 rfl ?_
      refine J_get (ci := 3) C i3 rfl 0 (by decide) w2 rfl 0 rfl rfl dX3_look_28 ?_
      refine J_aload_n C dX3_look_31 rfl 0 rfl ?_
      refine J_get (ci := 3) C i3 rfl 2 (by decide) w0 rfl 0 rfl rfl dX3_look_32 ?_
      refine J_ialdN C 1 rfl (by omega) (by omega) dX3_look_35 ?_
      refine J_goto (tgt := 40) C dX3_look_36 (by decide) ?_
      exact J_iret C hr dX3_look_40 (()) (by rw [hu a cq15, tk_in cq15, iZ_nat]) (rfl)

set_option maxHeartbeats 4000000 in
set_option maxRecDepth 100000 in
theorem kX3_skip (ll : Launch) (Y : GY) (o : Nat) (sb : Nat) (n : Nat) (ub : Nat → Int32) (t : Nat → Nat) (kd : Int32) (gu : Int32) (cs : Int32) (cd : Int32) (a : Nat) (sg : Nat) (hn : n ≤ 90) (hu : ∀ i, i < n → ub i = nI (t i)) (ht : ∀ i, t i < 128) (ha : a ≤ 200) (hsg : sg < 128) : CT ll yX3_skip wsX3_skip { frames := 1, cells := 0, slots := 0, locals := 20 } Y [.ref o, .int (nI sg)] [oB o 3 [.ref sb, .int (nI n), .int (nI a), .int kd, .int gu, .int cs, .int cd], aI Y sb 90 ub] (QI Y (fun (r : Int32) (_ : Unit) => r = p2i (tk t n a = (sg : Int))) (fun _ => [oB o 3 [.ref sb, .int (nI n), .int (nI (if tk t n a = (sg : Int) then a + 1 else a)), .int kd, .int gu, .int cs, .int cd], aI Y sb 90 ub])) 0 0 := by
  refine CT_of (cc := cX3_skip) (maxL := 2) (ret := (some .boolean)) (by decide) rfl (Nat.le_of_ble_eq_true rfl) ?_
  intro pp ee ss mm bl mt cc AA C hr hnm
  have w0 := C.t _ (List.mem_of_getElem? (i := 1) (show wsX3_skip[1]? = some (Cond.fieldLink RX3 19 "SecretDinner$Script" "at" "I") from rfl))
  have i3 : ∀ w ∈ wsX30, w ∈ wsX3_skip := inPlaces [9, 10, 11, 12, 13, 14, 15] (by decide +kernel)
  refine J_eq (lv' := [(0, .ref o), (1, .int (nI sg))]) (ws' := [oB o 3 [.ref sb, .int (nI n), .int (nI a), .int kd, .int gu, .int cs, .int cd], aI Y sb 90 ub]) rfl rfl rfl rfl ?_
  refine J_aload_n C dX3_skip_0 rfl 0 rfl ?_
  refine J_callI (wr := []) C (R_V (st := []) (wc := [oB o 3 [.ref sb, .int (nI n), .int (nI a), .int kd, .int gu, .int cs, .int cd], aI Y sb 90 ub]) C (kX3_look ll Y o sb n ub t kd gu cs cd a (by first | assumption | omega) (by first | assumption | omega) (by first | assumption | omega) (by first | assumption | omega)) (cwV 0 C.t gX3_skip_X3_look rfl rfl rfl (by decide +kernel) ⟨by decide, by decide⟩) rfl [0, 1] rfl (by decide) ⟨0, 3, _, _, rfl, rfl, rfl⟩ rfl (Nat.le_of_ble_eq_true rfl) dX3_skip_1 ⟨Nat.le_of_ble_eq_true rfl, Nat.le_of_ble_eq_true rfl⟩) [0, 1] [] rfl rfl (by decide) (by decide) (fun r1 u1 hw1 => ?_)
  subst hw1
  refine J_eq (pc' := 4) (lv' := [(0, .ref o), (1, .int (nI sg))]) (st' := [.int (iZ (tk t n a))]) (ws' := [oB o 3 [.ref sb, .int (nI n), .int (nI a), .int kd, .int gu, .int cs, .int cd], aI Y sb 90 ub]) rfl rfl rfl rfl ?_
  refine J_iload_n C dX3_skip_4 rfl 1 rfl ?_
  refine J_icmp_eqZN (tgt := 10) C dX3_skip_5 (by decide) (by have h90 := tk_bd ht n a; omega) (by omega) (fun cq5 => ?_) (fun cq5 => ?_)
  · refine J_aload_n C dX3_skip_10 rfl 0 rfl ?_
    refine J_dup C dX3_skip_11 rfl ?_
    refine J_get (ci := 3) C i3 rfl 2 (by decide) w0 rfl 0 rfl rfl dX3_skip_12 ?_
    refine J_iconst C dX3_skip_15 (v := nI 1) (by decide) ?_
    refine J_iaddN C dX3_skip_16 ?_
    refine J_put (ci := 3) (ty := .int) (ws' := [oB o 3 [.ref sb, .int (nI n), .int (nI (a + 1)), .int kd, .int gu, .int cs, .int cd], aI Y sb 90 ub]) C i3 tyX3 tyX3_ok nmX3 rfl 2 (by decide) w0 rfl rfl (by decide +kernel) (rfl) (rfl) 0 rfl (Nat.le_of_ble_eq_true rfl) dX3_skip_17 rfl ?_
    refine J_iconst C dX3_skip_20 (v := nI 1) (by decide) ?_
    exact J_zret C hr (by decide) dX3_skip_21 (()) (by rw [p2i_t cq5]) (by rw [if_pos cq5])
  · refine J_iconst C dX3_skip_8 (v := nI 0) (by decide) ?_
    exact J_zret C hr (by decide) dX3_skip_9 (()) (by rw [p2i_f cq5]) (by rw [if_neg cq5])

set_option maxHeartbeats 4000000 in
set_option maxRecDepth 100000 in
theorem kX3_add (ll : Launch) (Y : GY) (o : Nat) (sb : Nat) (n : Nat) (ub : Nat → Int32) (t : Nat → Nat) (kd : Int32) (gu : Int32) (cs : Int32) (cd : Int32) (at0 : Int32) (v : Nat) (hn : n < 90) : CT ll yX3_add wsX3_add { frames := 0, cells := 0, slots := 0, locals := 0 } Y [.ref o, .int (nI v)] [oB o 3 [.ref sb, .int (nI n), .int at0, .int kd, .int gu, .int cs, .int cd], aI Y sb 90 ub] (QI Y (fun (r : Int32) (_ : Unit) => r = nI (n + 1)) (fun _ => [oB o 3 [.ref sb, .int (nI (n + 1)), .int at0, .int kd, .int gu, .int cs, .int cd], aI Y sb 90 (upd ub n (nI v))])) 0 0 := by
  refine CT_of (cc := cX3_add) (maxL := 2) (ret := (some .int)) (by decide) rfl (Nat.le_of_ble_eq_true rfl) ?_
  intro pp ee ss mm bl mt cc AA C hr hnm
  have w0 := C.t _ (List.mem_of_getElem? (i := 1) (show wsX3_add[1]? = some (Cond.fieldLink RX3 15 "SecretDinner$Script" "length" "I") from rfl))
  have w1 := C.t _ (List.mem_of_getElem? (i := 2) (show wsX3_add[2]? = some (Cond.fieldLink RX3 9 "SecretDinner$Script" "bytes" "[I") from rfl))
  have i3 : ∀ w ∈ wsX30, w ∈ wsX3_add := inPlaces [3, 4, 5, 6, 7, 8, 9] (by decide +kernel)
  refine J_eq (lv' := [(0, .ref o), (1, .int (nI v))]) (ws' := [oB o 3 [.ref sb, .int (nI n), .int at0, .int kd, .int gu, .int cs, .int cd], aI Y sb 90 ub]) rfl rfl rfl rfl ?_
  refine J_aload_n C dX3_add_0 rfl 0 rfl ?_
  refine J_get (ci := 3) C i3 rfl 1 (by decide) w0 rfl 0 rfl rfl dX3_add_1 ?_
  refine J_if_ltN (tgt := 36) C dX3_add_4 (by decide) (by omega) ?_
  refine J_aload_n C dX3_add_7 rfl 0 rfl ?_
  refine J_get (ci := 3) C i3 rfl 1 (by decide) w0 rfl 0 rfl rfl dX3_add_8 ?_
  refine J_bipush C dX3_add_11 (v := nI 90) (by decide) ?_
  refine J_icmp_geN (tgt := 36) C dX3_add_13 (by decide) (by omega) (by omega) (fun cq13 => ?_) (fun cq13 => ?_)
  · exact absurd cq13 (by omega)
  · refine J_aload_n C dX3_add_16 rfl 0 rfl ?_
    refine J_get (ci := 3) C i3 rfl 0 (by decide) w1 rfl 0 rfl rfl dX3_add_17 ?_
    refine J_aload_n C dX3_add_20 rfl 0 rfl ?_
    refine J_get (ci := 3) C i3 rfl 1 (by decide) w0 rfl 0 rfl rfl dX3_add_21 ?_
    refine J_iload_n C dX3_add_24 rfl 1 rfl ?_
    refine J_iastN (ws' := [oB o 3 [.ref sb, .int (nI n), .int at0, .int kd, .int gu, .int cs, .int cd], aI Y sb 90 (upd ub n (nI v))]) C 1 rfl (by omega) (by omega) dX3_add_25 rfl ?_
    refine J_aload_n C dX3_add_26 rfl 0 rfl ?_
    refine J_dup C dX3_add_27 rfl ?_
    refine J_get (ci := 3) C i3 rfl 1 (by decide) w0 rfl 0 rfl rfl dX3_add_28 ?_
    refine J_iconst C dX3_add_31 (v := nI 1) (by decide) ?_
    refine J_iaddN C dX3_add_32 ?_
    refine J_put (ci := 3) (ty := .int) (ws' := [oB o 3 [.ref sb, .int (nI (n + 1)), .int at0, .int kd, .int gu, .int cs, .int cd], aI Y sb 90 (upd ub n (nI v))]) C i3 tyX3 tyX3_ok nmX3 rfl 1 (by decide) w0 rfl rfl (by decide +kernel) (rfl) (rfl) 0 rfl (Nat.le_of_ble_eq_true rfl) dX3_add_33 rfl ?_
    refine J_aload_n C dX3_add_36 rfl 0 rfl ?_
    refine J_get (ci := 3) C i3 rfl 1 (by decide) w0 rfl 0 rfl rfl dX3_add_37 ?_
    exact J_iret C hr dX3_add_40 (()) (rfl) (rfl)

set_option maxHeartbeats 4000000 in
set_option maxRecDepth 100000 in
theorem kX3_readCards (ll : Launch) (Y : GY) (o : Nat) (sb : Nat) (n : Nat) (ub : Nat → Int32) (t : Nat → Nat) (kd : Int32) (gu : Int32) (cs : Int32) (cd : Int32) (a : Nat) (most : Nat) (hn : n ≤ 90) (hu : ∀ i, i < n → ub i = nI (t i)) (ht : ∀ i, t i < 128) (ha : a ≤ 100) (hm : 1 ≤ most ∧ most ≤ 8) : CT ll yX3_readCards wsX3_readCards { frames := 1, cells := 0, slots := 0, locals := 20 } Y [.ref o, .int (nI most)] [oB o 3 [.ref sb, .int (nI n), .int (nI a), .int kd, .int gu, .int cs, .int cd], aI Y sb 90 ub] (QI Y (fun (r : Int32) (_ : Unit) => r = p2i (a < (dgs (tk t n) most a (-1) 0).1)) (fun _ => [oB o 3 [.ref sb, .int (nI n), .int (nI ((dgs (tk t n) most a (-1) 0).1)), .int kd, .int gu, .int (nI ((dgs (tk t n) most a (-1) 0).2.2)), .int (iZ ((dgs (tk t n) most a (-1) 0).2.1))], aI Y sb 90 ub])) 0 0 := by
  refine CT_of (cc := cX3_readCards) (maxL := 4) (ret := (some .boolean)) (by decide) rfl (Nat.le_of_ble_eq_true rfl) ?_
  intro pp ee ss mm bl mt cc AA C hr hnm
  have w0 := C.t _ (List.mem_of_getElem? (i := 1) (show wsX3_readCards[1]? = some (Cond.fieldLink RX3 42 "SecretDinner$Script" "cards" "I") from rfl))
  have w1 := C.t _ (List.mem_of_getElem? (i := 2) (show wsX3_readCards[2]? = some (Cond.fieldLink RX3 45 "SecretDinner$Script" "card" "I") from rfl))
  have w2 := C.t _ (List.mem_of_getElem? (i := 3) (show wsX3_readCards[3]? = some (Cond.fieldLink RX3 19 "SecretDinner$Script" "at" "I") from rfl))
  have i3 : ∀ w ∈ wsX30, w ∈ wsX3_readCards := inPlaces [11, 12, 13, 14, 15, 16, 17] (by decide +kernel)
  refine J_eq (lv' := [(0, .ref o), (1, .int (nI most))]) (ws' := [oB o 3 [.ref sb, .int (nI n), .int (nI a), .int kd, .int gu, .int cs, .int cd], aI Y sb 90 ub]) rfl rfl rfl rfl ?_
  refine J_aload_n C dX3_readCards_0 rfl 0 rfl ?_
  refine J_iconst C dX3_readCards_1 (v := nI 0) (by decide) ?_
  refine J_put (ci := 3) (ty := .int) (ws' := [oB o 3 [.ref sb, .int (nI n), .int (nI a), .int kd, .int gu, .int (nI 0), .int cd], aI Y sb 90 ub]) C i3 tyX3 tyX3_ok nmX3 rfl 5 (by decide) w0 rfl rfl (by decide +kernel) (rfl) (rfl) 0 rfl (Nat.le_of_ble_eq_true rfl) dX3_readCards_2 rfl ?_
  refine J_aload_n C dX3_readCards_5 rfl 0 rfl ?_
  refine J_iconst C dX3_readCards_6 (v := iZ ((-1))) (by decide) ?_
  refine J_put (ci := 3) (ty := .int) (ws' := [oB o 3 [.ref sb, .int (nI n), .int (nI a), .int kd, .int gu, .int (nI 0), .int (iZ ((-1)))], aI Y sb 90 ub]) C i3 tyX3 tyX3_ok nmX3 rfl 6 (by decide) w1 rfl rfl (by decide +kernel) (rfl) (rfl) 0 rfl (Nat.le_of_ble_eq_true rfl) dX3_readCards_7 rfl ?_
  refine J_iconst C dX3_readCards_10 (v := nI 0) (by decide) ?_
  refine J_istore_n (lv' := [(2, .int (nI 0)), (0, .ref o), (1, .int (nI most))]) C dX3_readCards_11 rfl (by decide) rfl ?_
  refine J_lv (lv' := [(0, .ref o), (1, .int (nI most)), (2, .int (nI 0))]) [1, 2, 0] rfl ?_
  refine J_loop (σ := Nat × Int × Nat) (I := fun (j, la, cj) => (j ≤ most) ∧ (-1 ≤ la ∧ la ≤ 7) ∧ (dgs (tk t n) most a (-1) 0 = dgs (tk t n) (most - j) (a + j) la cj)) (μ := fun (j, la, cj) => most - j) (lvf := fun (j, la, cj) => [(0, .ref o), (1, .int (nI most)), (2, .int (nI j))]) (stf := fun (j, la, cj) => []) (wsf := fun (j, la, cj) => [oB o 3 [.ref sb, .int (nI n), .int (nI (a + j)), .int kd, .int gu, .int (nI cj), .int (iZ la)], aI Y sb 90 ub]) ?_ (0, -1, 0) ⟨(by omega), (by omega), (by rw [Nat.sub_zero, Nat.add_zero])⟩ (rfl) rfl (rfl)
  rintro ⟨j, la, cj⟩ ⟨hj, hla, hd⟩ ih12
  refine J_eq (lv' := [(0, .ref o), (1, .int (nI most)), (2, .int (nI j))]) (st' := []) (ws' := [oB o 3 [.ref sb, .int (nI n), .int (nI (a + j)), .int kd, .int gu, .int (nI cj), .int (iZ la)], aI Y sb 90 ub]) rfl rfl rfl rfl ?_
  refine J_iload_n C dX3_readCards_12 rfl 2 rfl ?_
  refine J_iload_n C dX3_readCards_13 rfl 1 rfl ?_
  refine J_icmp_geN (tgt := 85) C dX3_readCards_14 (by decide) (by omega) (by omega) (fun cq14 => ?_) (fun cq14 => ?_)
  · refine J_iconst C dX3_readCards_85 (v := nI 1) (by decide) ?_
    exact J_zret C hr (by decide) dX3_readCards_86 (()) (by rw [hd.trans (dgs_0 (by omega)), p2i_t (show a < a + j from by omega)]) (by rw [hd.trans (dgs_0 (by omega))])
  · refine J_aload_n C dX3_readCards_17 rfl 0 rfl ?_
    refine J_callI (wr := []) C (R_V (st := []) (wc := [oB o 3 [.ref sb, .int (nI n), .int (nI ((a + j))), .int kd, .int gu, .int (nI cj), .int (iZ la)], aI Y sb 90 ub]) C (kX3_look ll Y o sb n ub t kd gu (nI cj) (iZ la) (a + j) (by first | assumption | omega) (by first | assumption | omega) (by first | assumption | omega) (by first | assumption | omega)) (cwV 0 C.t gX3_readCards_X3_look rfl rfl rfl (by decide +kernel) ⟨by decide, by decide⟩) rfl [0, 1] rfl (by decide) ⟨0, 3, _, _, rfl, rfl, rfl⟩ rfl (Nat.le_of_ble_eq_true rfl) dX3_readCards_18 ⟨Nat.le_of_ble_eq_true rfl, Nat.le_of_ble_eq_true rfl⟩) [0, 1] [] rfl rfl (by decide) (by decide) (fun r18 u18 hw18 => ?_)
    subst hw18
    refine J_eq (pc' := 21) (lv' := [(0, .ref o), (1, .int (nI most)), (2, .int (nI j))]) (st' := [.int (iZ (tk t n (a + j)))]) (ws' := [oB o 3 [.ref sb, .int (nI n), .int (nI ((a + j))), .int kd, .int gu, .int (nI cj), .int (iZ la)], aI Y sb 90 ub]) rfl rfl rfl rfl ?_
    refine J_bipush C dX3_readCards_21 (v := nI 48) (by decide) ?_
    refine J_isubZN C dX3_readCards_23 ?_
    refine J_istore_n (lv' := [(3, .int (iZ ((tk t n (a + j)) - 48))), (0, .ref o), (1, .int (nI most)), (2, .int (nI j))]) C dX3_readCards_24 rfl (by decide) rfl ?_
    refine J_iload_n C dX3_readCards_25 rfl 0 rfl ?_
    refine J_aload_n C dX3_readCards_26 rfl 1 rfl ?_
    refine J_get (ci := 3) C i3 rfl 6 (by decide) w1 rfl 0 rfl rfl dX3_readCards_27 ?_
    refine J_icmp_leZZ (tgt := 39) C dX3_readCards_30 (by decide) (by have h9 := tk_bd ht n (a + j); omega) (by omega) (fun cq30 => ?_) (fun cq30 => ?_)
    · refine J_iload_n C dX3_readCards_39 rfl 3 rfl ?_
      refine J_if_leN (tgt := 47) C dX3_readCards_40 (by decide) (by omega) (fun cq40 => ?_) (fun cq40 => ?_)
      · refine J_iconst C dX3_readCards_47 (v := nI 0) (by decide) ?_
        exact J_zret C hr (by decide) dX3_readCards_48 (()) (by rw [hd.trans (dgs_e (by omega) (by first | exact Or.inl cq30 | exact Or.inr cq36))]; first | rw [p2i_t (show a < a + j from by omega)] | rw [p2i_f (show ¬ a < a + j from by omega)]) (by rw [hd.trans (dgs_e (by omega) (by first | exact Or.inl cq30 | exact Or.inr cq36))])
      · refine J_iconst C dX3_readCards_43 (v := nI 1) (by decide) ?_
        refine J_goto (tgt := 48) C dX3_readCards_44 (by decide) ?_
        exact J_zret C hr (by decide) dX3_readCards_48 (()) (by rw [hd.trans (dgs_e (by omega) (by first | exact Or.inl cq30 | exact Or.inr cq36))]; first | rw [p2i_t (show a < a + j from by omega)] | rw [p2i_f (show ¬ a < a + j from by omega)]) (by rw [hd.trans (dgs_e (by omega) (by first | exact Or.inl cq30 | exact Or.inr cq36))])
    · refine J_iload_n C dX3_readCards_33 rfl 0 rfl ?_
      refine J_bipush C dX3_readCards_34 (v := nI 8) (by decide) ?_
      refine J_icmp_ltZN (tgt := 49) C dX3_readCards_36 (by decide) (by have h9 := tk_bd ht n (a + j); omega) (by omega) (fun cq36 => ?_) (fun cq36 => ?_)
      · refine J_aload_n C dX3_readCards_49 rfl 1 rfl ?_
        refine J_iload_n C dX3_readCards_50 rfl 0 rfl ?_
        refine J_put (ci := 3) (ty := .int) (ws' := [oB o 3 [.ref sb, .int (nI n), .int (nI ((a + j))), .int kd, .int gu, .int (nI cj), .int (iZ ((tk t n (a + j)) - 48))], aI Y sb 90 ub]) C i3 tyX3 tyX3_ok nmX3 rfl 6 (by decide) w1 rfl rfl (by decide +kernel) (rfl) (rfl) 0 rfl (Nat.le_of_ble_eq_true rfl) dX3_readCards_51 rfl ?_
        refine J_aload_n C dX3_readCards_54 rfl 1 rfl ?_
        refine J_dup C dX3_readCards_55 rfl ?_
        refine J_get (ci := 3) C i3 rfl 5 (by decide) w0 rfl 0 rfl rfl dX3_readCards_56 ?_
        refine J_iconst C dX3_readCards_59 (v := nI 1) (by decide) ?_
        refine J_aload_n C dX3_readCards_60 rfl 1 rfl ?_
        refine J_get (ci := 3) C i3 rfl 6 (by decide) w1 rfl 0 rfl rfl dX3_readCards_61 ?_
        refine J_top (y := .int (nI (((tk t n (a + j)) - 48).toNat))) (congrArg Value.int (iZ_toNat (by omega))) ?_
        refine J_ishlN C dX3_readCards_64 (by omega) (one_shl (by omega)) ?_
        refine J_iorN C dX3_readCards_65 ?_
        refine J_put (ci := 3) (ty := .int) (ws' := [oB o 3 [.ref sb, .int (nI n), .int (nI ((a + j))), .int kd, .int gu, .int (nI (cj ||| (1 * 2 ^ (((tk t n (a + j)) - 48).toNat)))), .int (iZ ((tk t n (a + j)) - 48))], aI Y sb 90 ub]) C i3 tyX3 tyX3_ok nmX3 rfl 5 (by decide) w0 rfl rfl (by decide +kernel) (rfl) (rfl) 0 rfl (Nat.le_of_ble_eq_true rfl) dX3_readCards_66 rfl ?_
        refine J_aload_n C dX3_readCards_69 rfl 1 rfl ?_
        refine J_dup C dX3_readCards_70 rfl ?_
        refine J_get (ci := 3) C i3 rfl 2 (by decide) w2 rfl 0 rfl rfl dX3_readCards_71 ?_
        refine J_iconst C dX3_readCards_74 (v := nI 1) (by decide) ?_
        refine J_iaddN C dX3_readCards_75 ?_
        refine J_put (ci := 3) (ty := .int) (ws' := [oB o 3 [.ref sb, .int (nI n), .int (nI (((a + j)) + 1)), .int kd, .int gu, .int (nI (cj ||| (1 * 2 ^ (((tk t n (a + j)) - 48).toNat)))), .int (iZ ((tk t n (a + j)) - 48))], aI Y sb 90 ub]) C i3 tyX3 tyX3_ok nmX3 rfl 2 (by decide) w2 rfl rfl (by decide +kernel) (rfl) (rfl) 0 rfl (Nat.le_of_ble_eq_true rfl) dX3_readCards_76 rfl ?_
        refine J_iinc (j := 3) (v := nI (j + 1)) (lv' := [(2, .int (nI (j + 1))), (3, .int (iZ ((tk t n (a + j)) - 48))), (0, .ref o), (1, .int (nI most))]) C dX3_readCards_79 rfl (nI_1 _) (by decide) rfl ?_
        refine J_goto (tgt := 12) C dX3_readCards_82 (by decide) ?_
        refine J_lv (lv' := [(0, .ref o), (1, .int (nI most)), (2, .int (nI (j + 1)))]) [2, 3, 0] rfl ?_
        have e0 := dgs_s (c := tk t n) (m := most - j) (i := a + j) (cs := cj) (by omega) cq30 cq36
        rw [Nat.sub_sub] at e0
        exact ih12 (j + 1, tk t n (a + j) - 48, cj ||| (1 * 2 ^ (((tk t n (a + j)) - 48).toNat))) ⟨(by omega), (by have h9 := tk_bd ht n (a + j); omega), (hd.trans e0)⟩ (show most - (j + 1) < most - j from by omega)
      · refine J_iload_n C dX3_readCards_39 rfl 3 rfl ?_
        refine J_if_leN (tgt := 47) C dX3_readCards_40 (by decide) (by omega) (fun cq40 => ?_) (fun cq40 => ?_)
        · refine J_iconst C dX3_readCards_47 (v := nI 0) (by decide) ?_
          exact J_zret C hr (by decide) dX3_readCards_48 (()) (by rw [hd.trans (dgs_e (by omega) (by first | exact Or.inl cq30 | exact Or.inr cq36))]; first | rw [p2i_t (show a < a + j from by omega)] | rw [p2i_f (show ¬ a < a + j from by omega)]) (by rw [hd.trans (dgs_e (by omega) (by first | exact Or.inl cq30 | exact Or.inr cq36))])
        · refine J_iconst C dX3_readCards_43 (v := nI 1) (by decide) ?_
          refine J_goto (tgt := 48) C dX3_readCards_44 (by decide) ?_
          exact J_zret C hr (by decide) dX3_readCards_48 (()) (by rw [hd.trans (dgs_e (by omega) (by first | exact Or.inl cq30 | exact Or.inr cq36))]; first | rw [p2i_t (show a < a + j from by omega)] | rw [p2i_f (show ¬ a < a + j from by omega)]) (by rw [hd.trans (dgs_e (by omega) (by first | exact Or.inl cq30 | exact Or.inr cq36))])

set_option maxHeartbeats 4000000 in
set_option maxRecDepth 100000 in
theorem kX3_readItem (ll : Launch) (Y : GY) (o : Nat) (sb : Nat) (n : Nat) (ub : Nat → Int32) (t : Nat → Nat) (at0 : Int32) (kd : Int32) (gu : Int32) (cs : Int32) (cd : Int32) (a : Nat) (hn : n ≤ 90) (hu : ∀ i, i < n → ub i = nI (t i)) (ht : ∀ i, t i < 128) (ha : a ≤ 90) : CT ll yX3_readItem wsX3_readItem { frames := 2, cells := 0, slots := 0, locals := 43 } Y [.ref o, .int (nI a)] [oB o 3 [.ref sb, .int (nI n), .int at0, .int kd, .int gu, .int cs, .int cd], aI Y sb 90 ub] (QI (S := Int32 × Int32 × Int32) Y (fun r x => r = p2i (itO (tk t n) a = true) ∧ (itO (tk t n) a = true → x.1 = iZ (tk t n (a + 1) - 48) ∧ (¬ tk t n a = 103 → x.2.1 = nI (itD (tk t n) a).2.2 ∧ x.2.2 = iZ (itD (tk t n) a).2.1))) (fun x => [oB o 3 [.ref sb, .int (nI n), .int (nI (itP (tk t n) a)), .int (iZ (tk t n a)), .int x.1, .int x.2.1, .int x.2.2], aI Y sb 90 ub])) 0 0 := by
  refine CT_of (cc := cX3_readItem) (maxL := 2) (ret := (some .boolean)) (by decide) rfl (Nat.le_of_ble_eq_true rfl) ?_
  intro pp ee ss mm bl mt cc AA C hr hnm
  have w0 := C.t _ (List.mem_of_getElem? (i := 1) (show wsX3_readItem[1]? = some (Cond.fieldLink RX3 19 "SecretDinner$Script" "at" "I") from rfl))
  have w1 := C.t _ (List.mem_of_getElem? (i := 2) (show wsX3_readItem[2]? = some (Cond.fieldLink RX3 30 "SecretDinner$Script" "kind" "I") from rfl))
  have w2 := C.t _ (List.mem_of_getElem? (i := 3) (show wsX3_readItem[3]? = some (Cond.fieldLink RX3 33 "SecretDinner$Script" "guest" "I") from rfl))
  have i3 : ∀ w ∈ wsX30, w ∈ wsX3_readItem := inPlaces [21, 22, 23, 24, 25, 26, 27] (by decide +kernel)
  refine J_eq (lv' := [(0, .ref o), (1, .int (nI a))]) (ws' := [oB o 3 [.ref sb, .int (nI n), .int at0, .int kd, .int gu, .int cs, .int cd], aI Y sb 90 ub]) rfl rfl rfl rfl ?_
  refine J_aload_n C dX3_readItem_0 rfl 0 rfl ?_
  refine J_iload_n C dX3_readItem_1 rfl 1 rfl ?_
  refine J_put (ci := 3) (ty := .int) (ws' := [oB o 3 [.ref sb, .int (nI n), .int (nI a), .int kd, .int gu, .int cs, .int cd], aI Y sb 90 ub]) C i3 tyX3 tyX3_ok nmX3 rfl 2 (by decide) w0 rfl rfl (by decide +kernel) (rfl) (rfl) 0 rfl (Nat.le_of_ble_eq_true rfl) dX3_readItem_2 rfl ?_
  refine J_aload_n C dX3_readItem_5 rfl 0 rfl ?_
  refine J_aload_n C dX3_readItem_6 rfl 0 rfl ?_
  refine J_callI (wr := []) C (R_V (st := [.ref o]) (wc := [oB o 3 [.ref sb, .int (nI n), .int (nI a), .int kd, .int gu, .int cs, .int cd], aI Y sb 90 ub]) C (kX3_look ll Y o sb n ub t kd gu cs cd a (by first | assumption | omega) (by first | assumption | omega) (by first | assumption | omega) (by first | assumption | omega)) (cwV 0 C.t gX3_readItem_X3_look rfl rfl rfl (by decide +kernel) ⟨by decide, by decide⟩) rfl [0, 1] rfl (by decide) ⟨0, 3, _, _, rfl, rfl, rfl⟩ rfl (Nat.le_of_ble_eq_true rfl) dX3_readItem_7 ⟨Nat.le_of_ble_eq_true rfl, Nat.le_of_ble_eq_true rfl⟩) [0, 1] [] rfl rfl (by decide) (by decide) (fun r7 u7 hw7 => ?_)
  subst hw7
  refine J_eq (pc' := 10) (lv' := [(0, .ref o), (1, .int (nI a))]) (st' := [.int (iZ (tk t n a)), .ref o]) (ws' := [oB o 3 [.ref sb, .int (nI n), .int (nI a), .int kd, .int gu, .int cs, .int cd], aI Y sb 90 ub]) rfl rfl rfl rfl ?_
  refine J_put (ci := 3) (ty := .int) (ws' := [oB o 3 [.ref sb, .int (nI n), .int (nI a), .int (iZ (tk t n a)), .int gu, .int cs, .int cd], aI Y sb 90 ub]) C i3 tyX3 tyX3_ok nmX3 rfl 3 (by decide) w1 rfl rfl (by decide +kernel) (rfl) (rfl) 0 rfl (Nat.le_of_ble_eq_true rfl) dX3_readItem_10 rfl ?_
  refine J_cut (pc' := 51) (lv' := [(0, .ref o), (1, .int (nI a))]) (st' := []) (ws' := [oB o 3 [.ref sb, .int (nI n), .int (nI a), .int (iZ (tk t n a)), .int gu, .int cs, .int cd], aI Y sb 90 ub]) (lett (tk t n a)) (fun hl => ?_) (fun jn51 => ?_)
  · refine J_aload_n C dX3_readItem_51 rfl 0 rfl ?_
    refine J_dup C dX3_readItem_52 rfl ?_
    refine J_get (ci := 3) C i3 rfl 2 (by decide) w0 rfl 0 rfl rfl dX3_readItem_53 ?_
    refine J_iconst C dX3_readItem_56 (v := nI 1) (by decide) ?_
    refine J_iaddN C dX3_readItem_57 ?_
    refine J_put (ci := 3) (ty := .int) (ws' := [oB o 3 [.ref sb, .int (nI n), .int (nI (a + 1)), .int (iZ (tk t n a)), .int gu, .int cs, .int cd], aI Y sb 90 ub]) C i3 tyX3 tyX3_ok nmX3 rfl 2 (by decide) w0 rfl rfl (by decide +kernel) (rfl) (rfl) 0 rfl (Nat.le_of_ble_eq_true rfl) dX3_readItem_58 rfl ?_
    refine J_aload_n C dX3_readItem_61 rfl 0 rfl ?_
    refine J_aload_n C dX3_readItem_62 rfl 0 rfl ?_
    refine J_callI (wr := []) C (R_V (st := [.ref o]) (wc := [oB o 3 [.ref sb, .int (nI n), .int (nI ((a + 1))), .int (iZ (tk t n a)), .int gu, .int cs, .int cd], aI Y sb 90 ub]) C (kX3_look ll Y o sb n ub t (iZ (tk t n a)) gu cs cd (a + 1) (by first | assumption | omega) (by first | assumption | omega) (by first | assumption | omega) (by first | assumption | omega)) (cwV 0 C.t gX3_readItem_X3_look rfl rfl rfl (by decide +kernel) ⟨by decide, by decide⟩) rfl [0, 1] rfl (by decide) ⟨0, 3, _, _, rfl, rfl, rfl⟩ rfl (Nat.le_of_ble_eq_true rfl) dX3_readItem_63 ⟨Nat.le_of_ble_eq_true rfl, Nat.le_of_ble_eq_true rfl⟩) [0, 1] [] rfl rfl (by decide) (by decide) (fun r63 u63 hw63 => ?_)
    subst hw63
    refine J_eq (pc' := 66) (lv' := [(0, .ref o), (1, .int (nI a))]) (st' := [.int (iZ (tk t n (a + 1))), .ref o]) (ws' := [oB o 3 [.ref sb, .int (nI n), .int (nI ((a + 1))), .int (iZ (tk t n a)), .int gu, .int cs, .int cd], aI Y sb 90 ub]) rfl rfl rfl rfl ?_
    refine J_bipush C dX3_readItem_66 (v := nI 48) (by decide) ?_
    refine J_isubZN C dX3_readItem_68 ?_
    refine J_put (ci := 3) (ty := .int) (ws' := [oB o 3 [.ref sb, .int (nI n), .int (nI ((a + 1))), .int (iZ (tk t n a)), .int (iZ ((tk t n (a + 1)) - 48)), .int cs, .int cd], aI Y sb 90 ub]) C i3 tyX3 tyX3_ok nmX3 rfl 4 (by decide) w2 rfl rfl (by decide +kernel) (rfl) (rfl) 0 rfl (Nat.le_of_ble_eq_true rfl) dX3_readItem_69 rfl ?_
    refine J_cut (pc' := 89) (lv' := [(0, .ref o), (1, .int (nI a))]) (st' := []) (ws' := [oB o 3 [.ref sb, .int (nI n), .int (nI ((a + 1))), .int (iZ (tk t n a)), .int (iZ ((tk t n (a + 1)) - 48)), .int cs, .int cd], aI Y sb 90 ub]) (gst (tk t n (a + 1))) (fun hg => ?_) (fun jn89 => ?_)
    · refine J_aload_n C dX3_readItem_89 rfl 0 rfl ?_
      refine J_dup C dX3_readItem_90 rfl ?_
      refine J_get (ci := 3) C i3 rfl 2 (by decide) w0 rfl 0 rfl rfl dX3_readItem_91 ?_
      refine J_iconst C dX3_readItem_94 (v := nI 1) (by decide) ?_
      refine J_iaddN C dX3_readItem_95 ?_
      refine J_top (y := .int (nI (a + 2))) (rfl) ?_
      refine J_put (ci := 3) (ty := .int) (ws' := [oB o 3 [.ref sb, .int (nI n), .int (nI (a + 2)), .int (iZ (tk t n a)), .int (iZ ((tk t n (a + 1)) - 48)), .int cs, .int cd], aI Y sb 90 ub]) C i3 tyX3 tyX3_ok nmX3 rfl 2 (by decide) w0 rfl rfl (by decide +kernel) (rfl) (rfl) 0 rfl (Nat.le_of_ble_eq_true rfl) dX3_readItem_96 rfl ?_
      refine J_aload_n C dX3_readItem_99 rfl 0 rfl ?_
      refine J_get (ci := 3) C i3 rfl 3 (by decide) w1 rfl 0 rfl rfl dX3_readItem_100 ?_
      refine J_bipush C dX3_readItem_103 (v := nI 103) (by decide) ?_
      refine J_icmp_eqZN (tgt := 141) C dX3_readItem_105 (by decide) (by have h90 := tk_bd ht n a; omega) (by omega) (fun cq105 => ?_) (fun cq105 => ?_)
      · refine J_aload_n C dX3_readItem_141 rfl 0 rfl ?_
        refine J_bipush C dX3_readItem_142 (v := nI 59) (by decide) ?_
        refine J_callI (wr := []) C (R_V (st := []) (wc := [oB o 3 [.ref sb, .int (nI n), .int (nI ((a + 2))), .int (iZ (tk t n a)), .int (iZ ((tk t n (a + 1)) - 48)), .int cs, .int cd], aI Y sb 90 ub]) C (kX3_skip ll Y o sb n ub t (iZ (tk t n a)) (iZ ((tk t n (a + 1)) - 48)) cs cd (a + 2) 59 (by first | assumption | omega) (by first | assumption | omega) (by first | assumption | omega) (by first | omega | exact Nat.le_trans (dgs_ge _ _ _ _ _).2 (by omega)) (by first | assumption | omega)) (cwV 1 C.t gX3_readItem_X3_skip rfl rfl rfl (by decide +kernel) ⟨by decide, by decide⟩) rfl [0, 1] rfl (by decide) ⟨0, 3, _, _, rfl, rfl, rfl⟩ rfl (Nat.le_of_ble_eq_true rfl) dX3_readItem_144 ⟨Nat.le_of_ble_eq_true rfl, Nat.le_of_ble_eq_true rfl⟩) [0, 1] [] rfl rfl (by decide) (by decide) (fun r144 u144 hw144 => ?_)
        subst hw144
        refine J_eq (pc' := 147) (lv' := [(0, .ref o), (1, .int (nI a))]) (st' := [.int (p2i (tk t n (a + 2) = (59 : Int)))]) (ws' := [oB o 3 [.ref sb, .int (nI n), .int (nI (if tk t n (a + 2) = (59 : Int) then (a + 2) + 1 else (a + 2))), .int (iZ (tk t n a)), .int (iZ ((tk t n (a + 1)) - 48)), .int cs, .int cd], aI Y sb 90 ub]) rfl rfl rfl rfl ?_
        exact J_zret C hr p2i_nar dX3_readItem_147 ((iZ ((tk t n (a + 1)) - 48), cs, cd)) (⟨by rw [itO_g hl hg (by omega)]; exact p2i_if (by simp), fun _ => ⟨rfl, fun z => absurd (show tk t n a = 103 by omega) z⟩⟩) (by rw [itP_g hl hg (by omega)])
      · refine J_aload_n C dX3_readItem_108 rfl 0 rfl ?_
        refine J_bipush C dX3_readItem_109 (v := nI 58) (by decide) ?_
        refine J_callI (wr := []) C (R_V (st := []) (wc := [oB o 3 [.ref sb, .int (nI n), .int (nI ((a + 2))), .int (iZ (tk t n a)), .int (iZ ((tk t n (a + 1)) - 48)), .int cs, .int cd], aI Y sb 90 ub]) C (kX3_skip ll Y o sb n ub t (iZ (tk t n a)) (iZ ((tk t n (a + 1)) - 48)) cs cd (a + 2) 58 (by first | assumption | omega) (by first | assumption | omega) (by first | assumption | omega) (by first | assumption | omega) (by first | assumption | omega)) (cwV 1 C.t gX3_readItem_X3_skip rfl rfl rfl (by decide +kernel) ⟨by decide, by decide⟩) rfl [0, 1] rfl (by decide) ⟨0, 3, _, _, rfl, rfl, rfl⟩ rfl (Nat.le_of_ble_eq_true rfl) dX3_readItem_111 ⟨Nat.le_of_ble_eq_true rfl, Nat.le_of_ble_eq_true rfl⟩) [0, 1] [] rfl rfl (by decide) (by decide) (fun r111 u111 hw111 => ?_)
        subst hw111
        refine J_eq (pc' := 114) (lv' := [(0, .ref o), (1, .int (nI a))]) (st' := [.int (p2i (tk t n (a + 2) = (58 : Int)))]) (ws' := [oB o 3 [.ref sb, .int (nI n), .int (nI (if tk t n (a + 2) = (58 : Int) then (a + 2) + 1 else (a + 2))), .int (iZ (tk t n a)), .int (iZ ((tk t n (a + 1)) - 48)), .int cs, .int cd], aI Y sb 90 ub]) rfl rfl rfl rfl ?_
        refine J_if_eqP (tgt := 139) C dX3_readItem_114 (by decide) (fun cq114 => ?_) (fun cq114 => ?_)
        · refine J_eq (ws' := [oB o 3 [.ref sb, .int (nI n), .int (nI (a + 2)), .int (iZ (tk t n a)), .int (iZ ((tk t n (a + 1)) - 48)), .int cs, .int cd], aI Y sb 90 ub]) rfl rfl rfl (by rw [if_neg cq114]) ?_
          refine J_iconst C dX3_readItem_139 (v := nI 0) (by decide) ?_
          exact J_zret C hr (by decide) dX3_readItem_140 ((iZ ((tk t n (a + 1)) - 48), cs, cd)) (⟨by rw [p2i_f (itO_58 (by omega) (by omega))], fun h => absurd h (itO_58 (by omega) (by omega))⟩) (by rw [itP_58 hl hg (by omega) (by omega)])
        · refine J_eq (ws' := [oB o 3 [.ref sb, .int (nI n), .int (nI (a + 2 + 1)), .int (iZ (tk t n a)), .int (iZ ((tk t n (a + 1)) - 48)), .int cs, .int cd], aI Y sb 90 ub]) rfl rfl rfl (by rw [if_pos cq114]) ?_
          refine J_aload_n C dX3_readItem_117 rfl 0 rfl ?_
          refine J_aload_n C dX3_readItem_118 rfl 0 rfl ?_
          refine J_get (ci := 3) C i3 rfl 3 (by decide) w1 rfl 0 rfl rfl dX3_readItem_119 ?_
          refine J_bipush C dX3_readItem_122 (v := nI 112) (by decide) ?_
          refine J_icmp_neZN (tgt := 131) C dX3_readItem_124 (by decide) (by have h90 := tk_bd ht n a; omega) (by omega) (fun cq124 => ?_) (fun cq124 => ?_)
          · refine J_bipush C dX3_readItem_131 (v := nI 8) (by decide) ?_
            refine J_callI (wr := []) C (R_V (st := []) (wc := [oB o 3 [.ref sb, .int (nI n), .int (nI ((a + 2 + 1))), .int (iZ (tk t n a)), .int (iZ ((tk t n (a + 1)) - 48)), .int cs, .int cd], aI Y sb 90 ub]) C (kX3_readCards ll Y o sb n ub t (iZ (tk t n a)) (iZ ((tk t n (a + 1)) - 48)) cs cd (a + 2 + 1) 8 (by first | assumption | omega) (by first | assumption | omega) (by first | assumption | omega) (by omega) (by omega)) (cwV 1 C.t gX3_readItem_X3_readCards rfl rfl rfl (by decide +kernel) ⟨by decide, by decide⟩) rfl [0, 1] rfl (by decide) ⟨0, 3, _, _, rfl, rfl, rfl⟩ rfl (Nat.le_of_ble_eq_true rfl) dX3_readItem_133 ⟨Nat.le_of_ble_eq_true rfl, Nat.le_of_ble_eq_true rfl⟩) [0, 1] [] rfl rfl (by decide) (by decide) (fun r133 u133 hw133 => ?_)
            subst hw133
            refine J_eq (pc' := 136) (lv' := [(0, .ref o), (1, .int (nI a))]) (st' := [.int (p2i ((a + 2 + 1) < (dgs (tk t n) 8 (a + 2 + 1) (-1) 0).1))]) (ws' := [oB o 3 [.ref sb, .int (nI n), .int (nI ((dgs (tk t n) 8 (a + 2 + 1) (-1) 0).1)), .int (iZ (tk t n a)), .int (iZ ((tk t n (a + 1)) - 48)), .int (nI ((dgs (tk t n) 8 (a + 2 + 1) (-1) 0).2.2)), .int (iZ ((dgs (tk t n) 8 (a + 2 + 1) (-1) 0).2.1))], aI Y sb 90 ub]) rfl rfl rfl rfl ?_
            refine J_if_neP (tgt := 141) C dX3_readItem_136 (by decide) (fun cq136 => ?_) (fun cq136 => ?_)
            · refine J_aload_n C dX3_readItem_141 rfl 0 rfl ?_
              refine J_bipush C dX3_readItem_142 (v := nI 59) (by decide) ?_
              refine J_callI (wr := []) C (R_V (st := []) (wc := [oB o 3 [.ref sb, .int (nI n), .int (nI (((dgs (tk t n) 8 (a + 2 + 1) (-1) 0).1))), .int (iZ (tk t n a)), .int (iZ ((tk t n (a + 1)) - 48)), .int (nI ((dgs (tk t n) 8 (a + 2 + 1) (-1) 0).2.2)), .int (iZ ((dgs (tk t n) 8 (a + 2 + 1) (-1) 0).2.1))], aI Y sb 90 ub]) C (kX3_skip ll Y o sb n ub t (iZ (tk t n a)) (iZ ((tk t n (a + 1)) - 48)) (nI ((dgs (tk t n) 8 (a + 2 + 1) (-1) 0).2.2)) (iZ ((dgs (tk t n) 8 (a + 2 + 1) (-1) 0).2.1)) ((dgs (tk t n) 8 (a + 2 + 1) (-1) 0).1) 59 (by first | assumption | omega) (by first | assumption | omega) (by first | assumption | omega) (by first | omega | exact Nat.le_trans (dgs_ge _ _ _ _ _).2 (by omega)) (by first | assumption | omega)) (cwV 1 C.t gX3_readItem_X3_skip rfl rfl rfl (by decide +kernel) ⟨by decide, by decide⟩) rfl [0, 1] rfl (by decide) ⟨0, 3, _, _, rfl, rfl, rfl⟩ rfl (Nat.le_of_ble_eq_true rfl) dX3_readItem_144 ⟨Nat.le_of_ble_eq_true rfl, Nat.le_of_ble_eq_true rfl⟩) [0, 1] [] rfl rfl (by decide) (by decide) (fun r144 u144 hw144 => ?_)
              subst hw144
              refine J_eq (pc' := 147) (lv' := [(0, .ref o), (1, .int (nI a))]) (st' := [.int (p2i (tk t n ((dgs (tk t n) 8 (a + 2 + 1) (-1) 0).1) = (59 : Int)))]) (ws' := [oB o 3 [.ref sb, .int (nI n), .int (nI (if tk t n ((dgs (tk t n) 8 (a + 2 + 1) (-1) 0).1) = (59 : Int) then ((dgs (tk t n) 8 (a + 2 + 1) (-1) 0).1) + 1 else ((dgs (tk t n) 8 (a + 2 + 1) (-1) 0).1))), .int (iZ (tk t n a)), .int (iZ ((tk t n (a + 1)) - 48)), .int (nI ((dgs (tk t n) 8 (a + 2 + 1) (-1) 0).2.2)), .int (iZ ((dgs (tk t n) 8 (a + 2 + 1) (-1) 0).2.1))], aI Y sb 90 ub]) rfl rfl rfl rfl ?_
              exact J_zret C hr p2i_nar dX3_readItem_147 ((iZ ((tk t n (a + 1)) - 48), nI ((dgs (tk t n) 8 (a + 2 + 1) (-1) 0).2.2), iZ ((dgs (tk t n) 8 (a + 2 + 1) (-1) 0).2.1))) (⟨by rw [itO_d hl hg (by omega) (by omega) (by rw [(itD_n (by omega))]; omega), (itD_n (by omega))]; exact p2i_if (by simp), fun _ => ⟨rfl, fun _ => ⟨by rw [(itD_n (by omega))], by rw [(itD_n (by omega))]⟩⟩⟩) (by rw [itP_d hl hg (by omega) (by omega) (by rw [(itD_n (by omega))]; omega), (itD_n (by omega))])
            · refine J_iconst C dX3_readItem_139 (v := nI 0) (by decide) ?_
              exact J_zret C hr (by decide) dX3_readItem_140 ((iZ ((tk t n (a + 1)) - 48), nI ((dgs (tk t n) 8 (a + 2 + 1) (-1) 0).2.2), iZ ((dgs (tk t n) 8 (a + 2 + 1) (-1) 0).2.1))) (⟨by rw [p2i_f (itO_nd (by omega) (by rw [(itD_n (by omega))]; omega))], fun h => absurd h (itO_nd (by omega) (by rw [(itD_n (by omega))]; omega))⟩) (by rw [itP_nd hl hg (by omega) (by omega) (by rw [(itD_n (by omega))]; omega), (itD_n (by omega))])
          · refine J_iconst C dX3_readItem_127 (v := nI 1) (by decide) ?_
            refine J_goto (tgt := 133) C dX3_readItem_128 (by decide) ?_
            refine J_callI (wr := []) C (R_V (st := []) (wc := [oB o 3 [.ref sb, .int (nI n), .int (nI ((a + 2 + 1))), .int (iZ (tk t n a)), .int (iZ ((tk t n (a + 1)) - 48)), .int cs, .int cd], aI Y sb 90 ub]) C (kX3_readCards ll Y o sb n ub t (iZ (tk t n a)) (iZ ((tk t n (a + 1)) - 48)) cs cd (a + 2 + 1) 1 (by first | assumption | omega) (by first | assumption | omega) (by first | assumption | omega) (by omega) (by omega)) (cwV 1 C.t gX3_readItem_X3_readCards rfl rfl rfl (by decide +kernel) ⟨by decide, by decide⟩) rfl [0, 1] rfl (by decide) ⟨0, 3, _, _, rfl, rfl, rfl⟩ rfl (Nat.le_of_ble_eq_true rfl) dX3_readItem_133 ⟨Nat.le_of_ble_eq_true rfl, Nat.le_of_ble_eq_true rfl⟩) [0, 1] [] rfl rfl (by decide) (by decide) (fun r133 u133 hw133 => ?_)
            subst hw133
            refine J_eq (pc' := 136) (lv' := [(0, .ref o), (1, .int (nI a))]) (st' := [.int (p2i ((a + 2 + 1) < (dgs (tk t n) 1 (a + 2 + 1) (-1) 0).1))]) (ws' := [oB o 3 [.ref sb, .int (nI n), .int (nI ((dgs (tk t n) 1 (a + 2 + 1) (-1) 0).1)), .int (iZ (tk t n a)), .int (iZ ((tk t n (a + 1)) - 48)), .int (nI ((dgs (tk t n) 1 (a + 2 + 1) (-1) 0).2.2)), .int (iZ ((dgs (tk t n) 1 (a + 2 + 1) (-1) 0).2.1))], aI Y sb 90 ub]) rfl rfl rfl rfl ?_
            refine J_if_neP (tgt := 141) C dX3_readItem_136 (by decide) (fun cq136 => ?_) (fun cq136 => ?_)
            · refine J_aload_n C dX3_readItem_141 rfl 0 rfl ?_
              refine J_bipush C dX3_readItem_142 (v := nI 59) (by decide) ?_
              refine J_callI (wr := []) C (R_V (st := []) (wc := [oB o 3 [.ref sb, .int (nI n), .int (nI (((dgs (tk t n) 1 (a + 2 + 1) (-1) 0).1))), .int (iZ (tk t n a)), .int (iZ ((tk t n (a + 1)) - 48)), .int (nI ((dgs (tk t n) 1 (a + 2 + 1) (-1) 0).2.2)), .int (iZ ((dgs (tk t n) 1 (a + 2 + 1) (-1) 0).2.1))], aI Y sb 90 ub]) C (kX3_skip ll Y o sb n ub t (iZ (tk t n a)) (iZ ((tk t n (a + 1)) - 48)) (nI ((dgs (tk t n) 1 (a + 2 + 1) (-1) 0).2.2)) (iZ ((dgs (tk t n) 1 (a + 2 + 1) (-1) 0).2.1)) ((dgs (tk t n) 1 (a + 2 + 1) (-1) 0).1) 59 (by first | assumption | omega) (by first | assumption | omega) (by first | assumption | omega) (by first | omega | exact Nat.le_trans (dgs_ge _ _ _ _ _).2 (by omega)) (by first | assumption | omega)) (cwV 1 C.t gX3_readItem_X3_skip rfl rfl rfl (by decide +kernel) ⟨by decide, by decide⟩) rfl [0, 1] rfl (by decide) ⟨0, 3, _, _, rfl, rfl, rfl⟩ rfl (Nat.le_of_ble_eq_true rfl) dX3_readItem_144 ⟨Nat.le_of_ble_eq_true rfl, Nat.le_of_ble_eq_true rfl⟩) [0, 1] [] rfl rfl (by decide) (by decide) (fun r144 u144 hw144 => ?_)
              subst hw144
              refine J_eq (pc' := 147) (lv' := [(0, .ref o), (1, .int (nI a))]) (st' := [.int (p2i (tk t n ((dgs (tk t n) 1 (a + 2 + 1) (-1) 0).1) = (59 : Int)))]) (ws' := [oB o 3 [.ref sb, .int (nI n), .int (nI (if tk t n ((dgs (tk t n) 1 (a + 2 + 1) (-1) 0).1) = (59 : Int) then ((dgs (tk t n) 1 (a + 2 + 1) (-1) 0).1) + 1 else ((dgs (tk t n) 1 (a + 2 + 1) (-1) 0).1))), .int (iZ (tk t n a)), .int (iZ ((tk t n (a + 1)) - 48)), .int (nI ((dgs (tk t n) 1 (a + 2 + 1) (-1) 0).2.2)), .int (iZ ((dgs (tk t n) 1 (a + 2 + 1) (-1) 0).2.1))], aI Y sb 90 ub]) rfl rfl rfl rfl ?_
              exact J_zret C hr p2i_nar dX3_readItem_147 ((iZ ((tk t n (a + 1)) - 48), nI ((dgs (tk t n) 1 (a + 2 + 1) (-1) 0).2.2), iZ ((dgs (tk t n) 1 (a + 2 + 1) (-1) 0).2.1))) (⟨by rw [itO_d hl hg (by omega) (by omega) (by rw [(itD_p (by omega))]; omega), (itD_p (by omega))]; exact p2i_if (by simp), fun _ => ⟨rfl, fun _ => ⟨by rw [(itD_p (by omega))], by rw [(itD_p (by omega))]⟩⟩⟩) (by rw [itP_d hl hg (by omega) (by omega) (by rw [(itD_p (by omega))]; omega), (itD_p (by omega))])
            · refine J_iconst C dX3_readItem_139 (v := nI 0) (by decide) ?_
              exact J_zret C hr (by decide) dX3_readItem_140 ((iZ ((tk t n (a + 1)) - 48), nI ((dgs (tk t n) 1 (a + 2 + 1) (-1) 0).2.2), iZ ((dgs (tk t n) 1 (a + 2 + 1) (-1) 0).2.1))) (⟨by rw [p2i_f (itO_nd (by omega) (by rw [(itD_p (by omega))]; omega))], fun h => absurd h (itO_nd (by omega) (by rw [(itD_p (by omega))]; omega))⟩) (by rw [itP_nd hl hg (by omega) (by omega) (by rw [(itD_p (by omega))]; omega), (itD_p (by omega))])
    · refine J_aload_n C dX3_readItem_72 rfl 0 rfl ?_
      refine J_get (ci := 3) C i3 rfl 4 (by decide) w2 rfl 0 rfl rfl dX3_readItem_73 ?_
      refine J_if_ltZ (tgt := 87) C dX3_readItem_76 (by decide) (by have h90 := tk_bd ht n (a + 1); omega) (fun cq76 => ?_) (fun cq76 => ?_)
      · refine J_iconst C dX3_readItem_87 (v := nI 0) (by decide) ?_
        exact J_zret C hr (by decide) dX3_readItem_88 ((iZ ((tk t n (a + 1)) - 48), cs, cd)) (⟨by rw [p2i_f (itO_ng (show ¬ gst (tk t n (a + 1)) by unfold gst; omega))], fun h => absurd h (itO_ng (show ¬ gst (tk t n (a + 1)) by unfold gst; omega))⟩) (by rw [itP_ng hl (show ¬ gst (tk t n (a + 1)) by unfold gst; omega)])
      · refine J_aload_n C dX3_readItem_79 rfl 0 rfl ?_
        refine J_get (ci := 3) C i3 rfl 4 (by decide) w2 rfl 0 rfl rfl dX3_readItem_80 ?_
        refine J_iconst C dX3_readItem_83 (v := nI 3) (by decide) ?_
        refine J_icmp_leZN (tgt := 89) C dX3_readItem_84 (by decide) (by have h90 := tk_bd ht n (a + 1); omega) (by omega) (fun cq84 => ?_) (fun cq84 => ?_)
        · exact jn89 (by unfold gst; omega)
        · refine J_iconst C dX3_readItem_87 (v := nI 0) (by decide) ?_
          exact J_zret C hr (by decide) dX3_readItem_88 ((iZ ((tk t n (a + 1)) - 48), cs, cd)) (⟨by rw [p2i_f (itO_ng (show ¬ gst (tk t n (a + 1)) by unfold gst; omega))], fun h => absurd h (itO_ng (show ¬ gst (tk t n (a + 1)) by unfold gst; omega))⟩) (by rw [itP_ng hl (show ¬ gst (tk t n (a + 1)) by unfold gst; omega)])
  · refine J_aload_n C dX3_readItem_13 rfl 0 rfl ?_
    refine J_get (ci := 3) C i3 rfl 3 (by decide) w1 rfl 0 rfl rfl dX3_readItem_14 ?_
    refine J_bipush C dX3_readItem_17 (v := nI 97) (by decide) ?_
    refine J_icmp_eqZN (tgt := 51) C dX3_readItem_19 (by decide) (by have h90 := tk_bd ht n a; omega) (by omega) (fun cq19 => ?_) (fun cq19 => ?_)
    · exact jn51 (by unfold lett; omega)
    · refine J_aload_n C dX3_readItem_22 rfl 0 rfl ?_
      refine J_get (ci := 3) C i3 rfl 3 (by decide) w1 rfl 0 rfl rfl dX3_readItem_23 ?_
      refine J_bipush C dX3_readItem_26 (v := nI 108) (by decide) ?_
      refine J_icmp_eqZN (tgt := 51) C dX3_readItem_28 (by decide) (by have h90 := tk_bd ht n a; omega) (by omega) (fun cq28 => ?_) (fun cq28 => ?_)
      · exact jn51 (by unfold lett; omega)
      · refine J_aload_n C dX3_readItem_31 rfl 0 rfl ?_
        refine J_get (ci := 3) C i3 rfl 3 (by decide) w1 rfl 0 rfl rfl dX3_readItem_32 ?_
        refine J_bipush C dX3_readItem_35 (v := nI 112) (by decide) ?_
        refine J_icmp_eqZN (tgt := 51) C dX3_readItem_37 (by decide) (by have h90 := tk_bd ht n a; omega) (by omega) (fun cq37 => ?_) (fun cq37 => ?_)
        · exact jn51 (by unfold lett; omega)
        · refine J_aload_n C dX3_readItem_40 rfl 0 rfl ?_
          refine J_get (ci := 3) C i3 rfl 3 (by decide) w1 rfl 0 rfl rfl dX3_readItem_41 ?_
          refine J_bipush C dX3_readItem_44 (v := nI 103) (by decide) ?_
          refine J_icmp_eqZN (tgt := 51) C dX3_readItem_46 (by decide) (by have h90 := tk_bd ht n a; omega) (by omega) (fun cq46 => ?_) (fun cq46 => ?_)
          · exact jn51 (by unfold lett; omega)
          · refine J_iconst C dX3_readItem_49 (v := nI 0) (by decide) ?_
            exact J_zret C hr (by decide) dX3_readItem_50 ((gu, cs, cd)) (⟨by rw [p2i_f (itO_nl (show ¬ lett (tk t n a) by unfold lett; omega))], fun h => absurd h (itO_nl (show ¬ lett (tk t n a) by unfold lett; omega))⟩) (by rw [itP_nl (show ¬ lett (tk t n a) by unfold lett; omega)])

set_option maxHeartbeats 4000000 in
set_option maxRecDepth 100000 in
theorem kX3_findError (ll : Launch) (Y : GY) (o : Nat) (sb : Nat) (n : Nat) (ub : Nat → Int32) (t : Nat → Nat) (at0 : Int32) (kd : Int32) (gu : Int32) (cs : Int32) (cd : Int32) (hn : n ≤ 90) (hu : ∀ i, i < n → ub i = nI (t i)) (ht : ∀ i, t i < 128) : CT ll yX3_findError wsX3_findError { frames := 3, cells := 0, slots := 0, locals := 64 } Y [.ref o] [oB o 3 [.ref sb, .int (nI n), .int at0, .int kd, .int gu, .int cs, .int cd], aI Y sb 90 ub] (QI (S := Int32 × Int32 × Int32 × Int32 × Int32) Y (fun r _ => r = iZ (feN (tk t n) n 90 0)) (fun x => [oB o 3 [.ref sb, .int (nI n), .int x.1, .int x.2.1, .int x.2.2.1, .int x.2.2.2.1, .int x.2.2.2.2], aI Y sb 90 ub])) 0 0 := by
  refine CT_of (cc := cX3_findError) (maxL := 2) (ret := (some .int)) (by decide) rfl (Nat.le_of_ble_eq_true rfl) ?_
  intro pp ee ss mm bl mt cc AA C hr hnm
  have w0 := C.t _ (List.mem_of_getElem? (i := 1) (show wsX3_findError[1]? = some (Cond.fieldLink RX3 19 "SecretDinner$Script" "at" "I") from rfl))
  have w1 := C.t _ (List.mem_of_getElem? (i := 2) (show wsX3_findError[2]? = some (Cond.fieldLink RX3 15 "SecretDinner$Script" "length" "I") from rfl))
  have i3 : ∀ w ∈ wsX30, w ∈ wsX3_findError := inPlaces [25, 26, 27, 28, 29, 30, 31] (by decide +kernel)
  refine J_eq (lv' := [(0, .ref o)]) (ws' := [oB o 3 [.ref sb, .int (nI n), .int at0, .int kd, .int gu, .int cs, .int cd], aI Y sb 90 ub]) rfl rfl rfl rfl ?_
  refine J_aload_n C dX3_findError_0 rfl 0 rfl ?_
  refine J_iconst C dX3_findError_1 (v := nI 0) (by decide) ?_
  refine J_put (ci := 3) (ty := .int) (ws' := [oB o 3 [.ref sb, .int (nI n), .int (nI 0), .int kd, .int gu, .int cs, .int cd], aI Y sb 90 ub]) C i3 tyX3 tyX3_ok nmX3 rfl 2 (by decide) w0 rfl rfl (by decide +kernel) (rfl) (rfl) 0 rfl (Nat.le_of_ble_eq_true rfl) dX3_findError_2 rfl ?_
  refine J_iconst C dX3_findError_5 (v := nI 0) (by decide) ?_
  refine J_istore_n (lv' := [(1, .int (nI 0)), (0, .ref o)]) C dX3_findError_6 rfl (by decide) rfl ?_
  refine J_lv (lv' := [(0, .ref o), (1, .int (nI 0))]) [1, 0] rfl ?_
  refine J_loop (σ := Nat × Nat × Int32 × Int32 × Int32 × Int32) (I := fun (k, i, kk, gg, ss, dd) => (k ≤ 90 ∧ k ≤ i ∧ i ≤ 12 * k) ∧ (feN (tk t n) n 90 0 = feN (tk t n) n (90 - k) i)) (μ := fun (k, i, kk, gg, ss, dd) => 90 - k) (lvf := fun (k, i, kk, gg, ss, dd) => [(0, .ref o), (1, .int (nI k))]) (stf := fun (k, i, kk, gg, ss, dd) => []) (wsf := fun (k, i, kk, gg, ss, dd) => [oB o 3 [.ref sb, .int (nI n), .int (nI i), .int kk, .int gg, .int ss, .int dd], aI Y sb 90 ub]) ?_ (0, 0, kd, gu, cs, cd) ⟨(by omega), (rfl)⟩ (rfl) rfl (rfl)
  rintro ⟨k, i, kk, gg, ss, dd⟩ ⟨hk, hf⟩ ih7
  refine J_eq (lv' := [(0, .ref o), (1, .int (nI k))]) (st' := []) (ws' := [oB o 3 [.ref sb, .int (nI n), .int (nI i), .int kk, .int gg, .int ss, .int dd], aI Y sb 90 ub]) rfl rfl rfl rfl ?_
  refine J_iload_n C dX3_findError_7 rfl 1 rfl ?_
  refine J_bipush C dX3_findError_8 (v := nI 90) (by decide) ?_
  refine J_icmp_geN (tgt := 46) C dX3_findError_10 (by decide) (by omega) (by omega) (fun cq10 => ?_) (fun cq10 => ?_)
  · refine J_iconst C dX3_findError_46 (v := iZ ((-1))) (by decide) ?_
    exact J_iret C hr dX3_findError_47 ((nI i, kk, gg, ss, dd)) (by rw [hf, feN_0 (by omega)]) (rfl)
  · refine J_aload_n C dX3_findError_13 rfl 0 rfl ?_
    refine J_get (ci := 3) C i3 rfl 2 (by decide) w0 rfl 0 rfl rfl dX3_findError_14 ?_
    refine J_aload_n C dX3_findError_17 rfl 0 rfl ?_
    refine J_get (ci := 3) C i3 rfl 1 (by decide) w1 rfl 0 rfl rfl dX3_findError_18 ?_
    refine J_icmp_geN (tgt := 46) C dX3_findError_21 (by decide) (by omega) (by omega) (fun cq21 => ?_) (fun cq21 => ?_)
    · refine J_iconst C dX3_findError_46 (v := iZ ((-1))) (by decide) ?_
      exact J_iret C hr dX3_findError_47 ((nI i, kk, gg, ss, dd)) (by rw [hf, feN_0 (by omega)]) (rfl)
    · refine J_aload_n C dX3_findError_24 rfl 0 rfl ?_
      refine J_aload_n C dX3_findError_25 rfl 0 rfl ?_
      refine J_get (ci := 3) C i3 rfl 2 (by decide) w0 rfl 0 rfl rfl dX3_findError_26 ?_
      refine J_callI (wr := []) C (R_V (st := []) (wc := [oB o 3 [.ref sb, .int (nI n), .int (nI i), .int kk, .int gg, .int ss, .int dd], aI Y sb 90 ub]) C (kX3_readItem ll Y o sb n ub t (nI i) kk gg ss dd i (by first | assumption | omega) (by first | assumption | omega) (by first | assumption | omega) (by first | assumption | omega)) (cwV 1 C.t gX3_findError_X3_readItem rfl rfl rfl (by decide +kernel) ⟨by decide, by decide⟩) rfl [0, 1] rfl (by decide) ⟨0, 3, _, _, rfl, rfl, rfl⟩ rfl (Nat.le_of_ble_eq_true rfl) dX3_findError_29 ⟨Nat.le_of_ble_eq_true rfl, Nat.le_of_ble_eq_true rfl⟩) [0, 1] [] rfl rfl (by decide) (by decide) (fun r29 u29 hw29 => ?_)
      obtain ⟨x129, x229, x329⟩ := u29
      obtain ⟨rfl, hit29⟩ := hw29
      refine J_eq (pc' := 32) (lv' := [(0, .ref o), (1, .int (nI k))]) (st' := [.int (p2i (itO (tk t n) i = true))]) (ws' := [oB o 3 [.ref sb, .int (nI n), .int (nI (itP (tk t n) i)), .int (iZ (tk t n i)), .int x129, .int x229, .int x329], aI Y sb 90 ub]) rfl rfl rfl rfl ?_
      refine J_if_neP (tgt := 40) C dX3_findError_32 (by decide) (fun cq32 => ?_) (fun cq32 => ?_)
      · refine J_iinc (j := 1) (v := nI (k + 1)) (lv' := [(1, .int (nI (k + 1))), (0, .ref o)]) C dX3_findError_40 rfl (nI_1 _) (by decide) rfl ?_
        refine J_goto (tgt := 7) C dX3_findError_43 (by decide) ?_
        refine J_lv (lv' := [(0, .ref o), (1, .int (nI (k + 1)))]) [1, 0] rfl ?_
        exact ih7 (k + 1, itP (tk t n) i, iZ (tk t n i), x129, x229, x329) ⟨(by have := itP_up cq32; have := itP_le (tk t n) i; omega), (by rw [hf, feN_t (by omega) cq21 cq32, Nat.sub_sub])⟩ (show 90 - (k + 1) < 90 - k from by omega)
      · refine J_aload_n C dX3_findError_35 rfl 0 rfl ?_
        refine J_get (ci := 3) C i3 rfl 2 (by decide) w0 rfl 0 rfl rfl dX3_findError_36 ?_
        exact J_iret C hr dX3_findError_39 ((nI (itP (tk t n) i), iZ (tk t n i), x129, x229, x329)) (by rw [hf, feN_f (by omega) cq21 cq32, iZ_nat]) (rfl)

set_option maxHeartbeats 4000000 in
set_option maxRecDepth 100000 in
theorem kX3_init (ll : Launch) (Y : GY) (o : Nat)  : CT ll yX3_init wsX3_init { frames := 1, cells := 1, slots := 90, locals := 20 } Y [.ref o] [oB o 3 [.null, .int (nI 0), .int (nI 0), .int (nI 0), .int (nI 0), .int (nI 0), .int (nI 0)]] (QV (S := Nat) Y (fun _ => True) (fun x => [oB o 3 [.ref x, .int (nI 0), .int (nI 0), .int (nI 0), .int (nI 0), .int (nI 0), .int (nI 0)], aI Y x 90 (fun _ => 0)])) 1 90 := by
  refine CT_of (cc := cX3_init) (maxL := 1) (ret := none) (by decide) rfl (Nat.le_of_ble_eq_true rfl) ?_
  intro pp ee ss mm bl mt cc AA C hr hnm
  have w0 := C.t _ (List.mem_of_getElem? (i := 1) (show wsX3_init[1]? = some (Cond.methodLink RX3 3 objectInit) from rfl))
  have w1 := C.t _ (List.mem_of_getElem? (i := 2) (show wsX3_init[2]? = some (Cond.instanceMethod objectInit) from rfl))
  have w2 := C.t _ (List.mem_of_getElem? (i := 3) (show wsX3_init[3]? = some (Cond.code objectInit ⟨#[0xb1]⟩ 1 none) from rfl))
  have w3 := C.t _ (List.mem_of_getElem? (i := 4) (show wsX3_init[4]? = some (Cond.arrayClass .int) from rfl))
  have w4 := C.t _ (List.mem_of_getElem? (i := 5) (show wsX3_init[5]? = some (Cond.fieldLink RX3 9 "SecretDinner$Script" "bytes" "[I") from rfl))
  have i3 : ∀ w ∈ wsX30, w ∈ wsX3_init := inPlaces [6, 7, 8, 9, 10, 11, 12] (by decide +kernel)
  refine J_eq (lv' := [(0, .ref o)]) (ws' := [oB o 3 [.null, .int (nI 0), .int (nI 0), .int (nI 0), .int (nI 0), .int (nI 0), .int (nI 0)]]) rfl rfl rfl rfl ?_
  refine J_aload_n C dX3_init_0 rfl 0 rfl ?_
  refine J_objInit C w0 w1 w2 dX3_init_1 (Nat.le_of_ble_eq_true rfl) (Nat.le_of_ble_eq_true rfl) (Nat.le_of_ble_eq_true rfl) ?_
  refine J_aload_n C dX3_init_4 rfl 0 rfl ?_
  refine J_bipush C dX3_init_5 (v := nI 90) (by decide) ?_
  refine J_newI C w3 (by decide) (Nat.le_of_ble_eq_true rfl) (Nat.le_of_ble_eq_true rfl) dX3_init_7 (fun q7 => ?_)
  refine J_eq (ws' := [oB o 3 [.null, .int (nI 0), .int (nI 0), .int (nI 0), .int (nI 0), .int (nI 0), .int (nI 0)], aI Y q7 90 (fun _ => 0)]) rfl rfl rfl rfl ?_
  refine J_putF (ci := 3) (ty := .array .int) (ws' := [oB o 3 [.ref q7, .int (nI 0), .int (nI 0), .int (nI 0), .int (nI 0), .int (nI 0), .int (nI 0)], aI Y q7 90 (fun _ => 0)]) C i3 tyX3 tyX3_ok nmX3 rfl 0 (by decide) w4 rfl rfl hnm rfl (by decide +kernel) (rfl) (rfl) 0 rfl (Nat.le_of_ble_eq_true rfl) dX3_init_9 rfl ?_
  exact J_vret C hr dX3_init_12 q7 (trivial) (rfl)

