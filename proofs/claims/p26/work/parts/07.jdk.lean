set_option maxHeartbeats 4000000 in
set_option maxRecDepth 100000 in
theorem kJ6_bitCount_0f7a4 (ll : Launch) (Y : GY) (x : Nat) (hx : x < 256) : CT ll yJ6_bitCount_0f7a4 wsJ6_bitCount_0f7a4 { frames := 0, cells := 0, slots := 0, locals := 0 } Y [.int (nI x)] [] (QI Y (fun (r : Int32) (_ : Unit) => r = nI (pc8 x)) (fun _ => [])) 0 0 := by
  refine CT_of (cc := cJ6_bitCount_0f7a4) (maxL := 1) (ret := (some .int)) (by decide) rfl (Nat.le_of_ble_eq_true rfl) ?_
  intro pp ee ss mm bl mt cc AA C hr hnm
  have w0 := C.t _ (List.mem_of_getElem? (i := 1) (show wsJ6_bitCount_0f7a4[1]? = some (Cond.constant RJ6 265 (1431655765)) from rfl))
  have w1 := C.t _ (List.mem_of_getElem? (i := 2) (show wsJ6_bitCount_0f7a4[2]? = some (Cond.constant RJ6 266 (858993459)) from rfl))
  have w2 := C.t _ (List.mem_of_getElem? (i := 3) (show wsJ6_bitCount_0f7a4[3]? = some (Cond.constant RJ6 267 (252645135)) from rfl))
  refine J_eq (lv' := [(0, .int (nI x))]) (ws' := []) rfl rfl rfl rfl ?_
  refine J_iload_n C dJ6_bitCount_0f7a4_0 rfl 0 rfl ?_
  refine J_iload_n C dJ6_bitCount_0f7a4_1 rfl 0 rfl ?_
  refine J_iconst C dJ6_bitCount_0f7a4_2 (v := nI 1) (by decide) ?_
  refine J_iushr C dJ6_bitCount_0f7a4_3 ?_
  refine J_ldcw C dJ6_bitCount_0f7a4_4 (v := nI 1431655765) w0 ?_
  refine J_iand C dJ6_bitCount_0f7a4_7 ?_
  refine J_isub C dJ6_bitCount_0f7a4_8 ?_
  refine J_nmi (fun z1 ez1 => ?_)
  refine J_istore_n (lv' := [(0, .int z1)]) C dJ6_bitCount_0f7a4_9 rfl (by decide) rfl ?_
  refine J_iload_n C dJ6_bitCount_0f7a4_10 rfl 0 rfl ?_
  refine J_ldcw C dJ6_bitCount_0f7a4_11 (v := nI 858993459) w1 ?_
  refine J_iand C dJ6_bitCount_0f7a4_14 ?_
  refine J_iload_n C dJ6_bitCount_0f7a4_15 rfl 0 rfl ?_
  refine J_iconst C dJ6_bitCount_0f7a4_16 (v := nI 2) (by decide) ?_
  refine J_iushr C dJ6_bitCount_0f7a4_17 ?_
  refine J_ldcw C dJ6_bitCount_0f7a4_18 (v := nI 858993459) w1 ?_
  refine J_iand C dJ6_bitCount_0f7a4_21 ?_
  refine J_iadd C dJ6_bitCount_0f7a4_22 ?_
  refine J_nmi (fun z2 ez2 => ?_)
  refine J_istore_n (lv' := [(0, .int z2)]) C dJ6_bitCount_0f7a4_23 rfl (by decide) rfl ?_
  refine J_iload_n C dJ6_bitCount_0f7a4_24 rfl 0 rfl ?_
  refine J_iload_n C dJ6_bitCount_0f7a4_25 rfl 0 rfl ?_
  refine J_iconst C dJ6_bitCount_0f7a4_26 (v := nI 4) (by decide) ?_
  refine J_iushr C dJ6_bitCount_0f7a4_27 ?_
  refine J_iadd C dJ6_bitCount_0f7a4_28 ?_
  refine J_ldcw C dJ6_bitCount_0f7a4_29 (v := nI 252645135) w2 ?_
  refine J_iand C dJ6_bitCount_0f7a4_32 ?_
  refine J_nmi (fun z3 ez3 => ?_)
  refine J_istore_n (lv' := [(0, .int z3)]) C dJ6_bitCount_0f7a4_33 rfl (by decide) rfl ?_
  refine J_iload_n C dJ6_bitCount_0f7a4_34 rfl 0 rfl ?_
  refine J_iload_n C dJ6_bitCount_0f7a4_35 rfl 0 rfl ?_
  refine J_bipush C dJ6_bitCount_0f7a4_36 (v := nI 8) (by decide) ?_
  refine J_iushr C dJ6_bitCount_0f7a4_38 ?_
  refine J_iadd C dJ6_bitCount_0f7a4_39 ?_
  refine J_nmi (fun z4 ez4 => ?_)
  refine J_istore_n (lv' := [(0, .int z4)]) C dJ6_bitCount_0f7a4_40 rfl (by decide) rfl ?_
  refine J_iload_n C dJ6_bitCount_0f7a4_41 rfl 0 rfl ?_
  refine J_iload_n C dJ6_bitCount_0f7a4_42 rfl 0 rfl ?_
  refine J_bipush C dJ6_bitCount_0f7a4_43 (v := nI 16) (by decide) ?_
  refine J_iushr C dJ6_bitCount_0f7a4_45 ?_
  refine J_iadd C dJ6_bitCount_0f7a4_46 ?_
  refine J_nmi (fun z5 ez5 => ?_)
  refine J_istore_n (lv' := [(0, .int z5)]) C dJ6_bitCount_0f7a4_47 rfl (by decide) rfl ?_
  refine J_iload_n C dJ6_bitCount_0f7a4_48 rfl 0 rfl ?_
  refine J_bipush C dJ6_bitCount_0f7a4_49 (v := nI 63) (by decide) ?_
  refine J_iand C dJ6_bitCount_0f7a4_51 ?_
  exact J_iret C hr dJ6_bitCount_0f7a4_52 (()) (by subst ez5; subst ez4; subst ez3; subst ez2; subst ez1; exact bc_ok x hx) (rfl)

