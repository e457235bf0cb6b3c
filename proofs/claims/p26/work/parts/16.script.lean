set_option maxHeartbeats 4000000 in
set_option maxRecDepth 100000 in
theorem kX3_add (ll : Launch) (Y : GY) (o : Nat) (sb : Nat) (n : Nat) (ub : Nat → Int32) (t : Nat → Nat) (kd : Int32) (gu : Int32) (cs : Int32) (cd : Int32) (at0 : Int32) (v : Nat) (hn : n < 90) : CT ll yX3_add wsX3_add { frames := 0, cells := 0, slots := 0, locals := 0 } Y [.ref o, .int (nI v)] [oB o 3 [.ref sb, .int (nI n), .int at0, .int kd, .int gu, .int cs, .int cd], aI Y sb 90 ub] (QI Y (fun (r : Int32) (_ : Unit) => r = nI (n + 1)) (fun _ => [oB o 3 [.ref sb, .int (nI (n + 1)), .int at0, .int kd, .int gu, .int cs, .int cd], aI Y sb 90 (upd ub n (nI v))])) 0 0 := by
  refine CT_of (cc := cX3_add) (maxL := 2) (ret := (some .int)) (by decide) rfl (Nat.le_of_ble_eq_true rfl) ?_
  intro pp ee ss mm bl mt cc AA C hr hnm
  have w0 := C.t _ (List.mem_of_getElem? (i := 1) (show wsX3_add[1]? = some (Cond.fieldLink RX3 15 "SecretDinner$Script" "length" "I") from rfl))
  have w1 := C.t _ (List.mem_of_getElem? (i := 2) (show wsX3_add[2]? = some (Cond.fieldLink RX3 9 "SecretDinner$Script" "bytes" "[I") from rfl))
  have i3 : ∀ w ∈ wsX30, w ∈ wsX3_add := inPlaces [3, 4, 5, 6, 7, 8, 9] (by decide +kernel)
  refine J_eq (lv' := [(0, .ref o), (1, .int (nI v))]) (ws' := [oB o 3 [.ref sb, .int (nI n), .int at0, .int kd, .int gu, .int cs, .int cd], aI Y sb 90 ub]) rfl rfl rfl rfl ?_
  refine J_aload_n C dX3_add_0 rfl 0 rfl ?_
  refine J_get (ci := 3) C i3 rfl 1 (by decide) w0 rfl 0 rfl rfl dX3_add_1 ?_
  refine J_if_ltN (tgt := 36) C dX3_add_4 (by decide) (by omega) ?_
  refine J_aload_n C dX3_add_7 rfl 0 rfl ?_
  refine J_get (ci := 3) C i3 rfl 1 (by decide) w0 rfl 0 rfl rfl dX3_add_8 ?_
  refine J_bipush C dX3_add_11 (v := nI 90) (by decide) ?_
  refine J_icmp_geN (tgt := 36) C dX3_add_13 (by decide) (by omega) (by omega) (fun cq13 => ?_) (fun cq13 => ?_)
  · exact absurd cq13 (by omega)
  · refine J_aload_n C dX3_add_16 rfl 0 rfl ?_
    refine J_get (ci := 3) C i3 rfl 0 (by decide) w1 rfl 0 rfl rfl dX3_add_17 ?_
    refine J_aload_n C dX3_add_20 rfl 0 rfl ?_
    refine J_get (ci := 3) C i3 rfl 1 (by decide) w0 rfl 0 rfl rfl dX3_add_21 ?_
    refine J_iload_n C dX3_add_24 rfl 1 rfl ?_
    refine J_iastN (ws' := [oB o 3 [.ref sb, .int (nI n), .int at0, .int kd, .int gu, .int cs, .int cd], aI Y sb 90 (upd ub n (nI v))]) C 1 rfl (by omega) (by omega) dX3_add_25 rfl ?_
    refine J_aload_n C dX3_add_26 rfl 0 rfl ?_
    refine J_dup C dX3_add_27 rfl ?_
    refine J_get (ci := 3) C i3 rfl 1 (by decide) w0 rfl 0 rfl rfl dX3_add_28 ?_
    refine J_iconst C dX3_add_31 (v := nI 1) (by decide) ?_
    refine J_iaddN C dX3_add_32 ?_
    refine J_put (ci := 3) (ty := .int) (ws' := [oB o 3 [.ref sb, .int (nI (n + 1)), .int at0, .int kd, .int gu, .int cs, .int cd], aI Y sb 90 (upd ub n (nI v))]) C i3 tyX3 tyX3_ok nmX3 rfl 1 (by decide) w0 rfl rfl (by decide +kernel) (rfl) (rfl) 0 rfl (Nat.le_of_ble_eq_true rfl) dX3_add_33 rfl ?_
    refine J_aload_n C dX3_add_36 rfl 0 rfl ?_
    refine J_get (ci := 3) C i3 rfl 1 (by decide) w0 rfl 0 rfl rfl dX3_add_37 ?_
    exact J_iret C hr dX3_add_40 (()) (rfl) (rfl)

set_option maxHeartbeats 4000000 in
set_option maxRecDepth 100000 in
theorem kX3_init (ll : Launch) (Y : GY) (o : Nat)  : CT ll yX3_init wsX3_init { frames := 1, cells := 1, slots := 90, locals := 20 } Y [.ref o] [oB o 3 [.null, .int (nI 0), .int (nI 0), .int (nI 0), .int (nI 0), .int (nI 0), .int (nI 0)]] (QV (S := Nat) Y (fun _ => True) (fun x => [oB o 3 [.ref x, .int (nI 0), .int (nI 0), .int (nI 0), .int (nI 0), .int (nI 0), .int (nI 0)], aI Y x 90 (fun _ => 0)])) 1 90 := by
  refine CT_of (cc := cX3_init) (maxL := 1) (ret := none) (by decide) rfl (Nat.le_of_ble_eq_true rfl) ?_
  intro pp ee ss mm bl mt cc AA C hr hnm
  have w0 := C.t _ (List.mem_of_getElem? (i := 1) (show wsX3_init[1]? = some (Cond.methodLink RX3 3 objectInit) from rfl))
  have w1 := C.t _ (List.mem_of_getElem? (i := 2) (show wsX3_init[2]? = some (Cond.instanceMethod objectInit) from rfl))
  have w2 := C.t _ (List.mem_of_getElem? (i := 3) (show wsX3_init[3]? = some (Cond.code objectInit ⟨#[0xb1]⟩ 1 none) from rfl))
  have w3 := C.t _ (List.mem_of_getElem? (i := 4) (show wsX3_init[4]? = some (Cond.arrayClass .int) from rfl))
  have w4 := C.t _ (List.mem_of_getElem? (i := 5) (show wsX3_init[5]? = some (Cond.fieldLink RX3 9 "SecretDinner$Script" "bytes" "[I") from rfl))
  have i3 : ∀ w ∈ wsX30, w ∈ wsX3_init := inPlaces [6, 7, 8, 9, 10, 11, 12] (by decide +kernel)
  refine J_eq (lv' := [(0, .ref o)]) (ws' := [oB o 3 [.null, .int (nI 0), .int (nI 0), .int (nI 0), .int (nI 0), .int (nI 0), .int (nI 0)]]) rfl rfl rfl rfl ?_
  refine J_aload_n C dX3_init_0 rfl 0 rfl ?_
  refine J_objInit C w0 w1 w2 dX3_init_1 (Nat.le_of_ble_eq_true rfl) (Nat.le_of_ble_eq_true rfl) (Nat.le_of_ble_eq_true rfl) ?_
  refine J_aload_n C dX3_init_4 rfl 0 rfl ?_
  refine J_bipush C dX3_init_5 (v := nI 90) (by decide) ?_
  refine J_newI C w3 (by decide) (Nat.le_of_ble_eq_true rfl) (Nat.le_of_ble_eq_true rfl) dX3_init_7 (fun q7 => ?_)
  refine J_eq (ws' := [oB o 3 [.null, .int (nI 0), .int (nI 0), .int (nI 0), .int (nI 0), .int (nI 0), .int (nI 0)], aI Y q7 90 (fun _ => 0)]) rfl rfl rfl rfl ?_
  refine J_putF (ci := 3) (ty := .array .int) (ws' := [oB o 3 [.ref q7, .int (nI 0), .int (nI 0), .int (nI 0), .int (nI 0), .int (nI 0), .int (nI 0)], aI Y q7 90 (fun _ => 0)]) C i3 tyX3 tyX3_ok nmX3 rfl 0 (by decide) w4 rfl rfl hnm rfl (by decide +kernel) (rfl) (rfl) 0 rfl (Nat.le_of_ble_eq_true rfl) dX3_init_9 rfl ?_
  exact J_vret C hr dX3_init_12 q7 (trivial) (rfl)

