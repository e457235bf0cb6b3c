section LC
variable {pp : Program} {ll : Launch} {ee : Env} {ss : State} {mm : MethodId} {args : Array Value} {bl : List Frame} {mt : Method} {cc : Code} {QQ : State → Prop} {Y : GY} {AA : Nat → Prop}
set_option maxHeartbeats 4000000 in
set_option maxRecDepth 100000 in
theorem lc_step (C : JC pp ss mm args mt cc Y AA 9 RL cL_law wsL_law) (hXS : XS ss) (hl0 : ll.stackTraces = false) {b LL : Nat} {xs : Nat → Int32} (hT : va_T .int b LL (fun j => .int (xs j)) AA ss ss.heap) {i t kk nn : Nat} (hi : i + 4 ≤ LL) (hLL : LL ≤ 2048) (ht : t ≤ 512) (hk0 : kk ≤ 601024) (hk1 : kk + 1 ≤ 601024) (hn0 : nn ≤ 7293034) (hn6 : nn + 6 ≤ 7293034) (h : Nat → Nat) (a : Nat → Nat) (m : Nat → Nat) (o : Nat) (od : Nat) (sc : Nat) (x : Nat → Nat) (hd : Nat → Nat) (pb : Nat → Nat) (ag : Nat → Nat) (ac : Nat → Nat) (an : Nat → Nat) (L : List Nat) (f : Nat → Int64) (sb : Nat → Nat → Nat) (sx : Nat → Nat → Nat) (shd : Nat → Nat → Nat) (spb : Nat → Nat → Nat) (sag : Nat → Nat → Nat) (sac : Nat → Nat → Nat) (san : Nat → Nat → Nat) (sLs : Nat → List Nat) (sf : Nat → Nat → Int64) (L3 : List Nat) (f3 : Nat → Int64) (L4 : List Nat) (f4 : Nat → Int64) (sv : Int32) (bh : Nat → Int32) (ba : Nat → Int32) (n : Nat) (at0 : Int32) (kd : Int32) (gu : Int32) (cs : Int32) (cd : Int32) (ub : Nat → Int32) (v : Nat → Nat) (nw : Nat → Nat) (ps : Nat → Nat) (tx : Nat → Nat) (fw : Nat → Nat) (fh : Nat → Nat) (fs : Nat → Nat) (fm : Nat → Nat) (fl : Nat → Nat) (fq : Nat → Nat) (dl : Nat → Nat) (wr : Nat → Nat) (fo : Nat → Int64) (fd : Nat → UInt64) (hinv : LI t sc x hd pb ag ac an L f sx shd spb sag sac san sLs sf L3 f3 L4 f4 n ub v nw ps tx dl) (K : LK pp ll ee ss mm args bl mt cc QQ Y AA h a m o od b i (t + 1) (kk + 1) (nn + 6)) : J pp ll ee room_1 ss mm args bl mt cc QQ Y AA 9 kk nn 37 [(0, .ref b), (1, .ref (h 0)), (2, .ref (m 0)), (3, .ref o), (4, .ref od), (5, .int (nI i))] [] (LWd Y h a m o od sc x hd pb ag ac an L f sb sx shd spb sag sac san sLs sf L3 f3 L4 f4 sv bh ba n at0 kd gu cs cd ub v nw ps tx fw fh fs fm fl fq dl wr fo fd) := by
  obtain ⟨q, eq0⟩ := i32_n (xs i)
  refine J_aload_n C dL_law_37 rfl 0 rfl ?_
  refine J_iload C dL_law_38 5 rfl ?_
  refine J_taldN C hT (show i < LL by omega) (Nat.lt_of_le_of_lt hLL (by decide)) dL_law_40 ?_
  refine J_top (y := .int (nI q)) (by rw [eq0]) ?_
  refine J_bipush C dL_law_41 (v := nI 31) (by decide) ?_
  refine J_iandN C dL_law_43 ?_
  obtain ⟨k9, ek⟩ : ∃ z, z = q &&& 31 := ⟨_, rfl⟩
  have hk9 : k9 < 32 := by rw [ek]; exact Nat.lt_succ_of_le Nat.and_le_right
  refine J_top (y := .int (nI k9)) (by rw [ek]) ?_
  rcases (show k9 = 0 ∨ k9 = 1 ∨ k9 = 2 ∨ k9 = 3 ∨ k9 = 4 ∨ k9 = 5 ∨ k9 = 6 ∨ k9 = 7 ∨ k9 = 8 ∨ k9 = 9 ∨ k9 = 10 ∨ k9 = 11 ∨ k9 = 12 ∨ k9 = 13 ∨ k9 = 14 ∨ k9 = 15 ∨ k9 = 16 ∨ k9 = 17 ∨ k9 = 18 ∨ k9 = 19 ∨ k9 = 20 ∨ k9 = 21 ∨ k9 = 22 ∨ k9 = 23 ∨ k9 = 24 ∨ k9 = 25 ∨ k9 = 26 ∨ k9 = 27 ∨ k9 = 28 ∨ k9 = 29 ∨ k9 = 30 ∨ k9 = 31 by omega) with rfl | rfl | rfl | rfl | rfl | rfl | rfl | rfl | rfl | rfl | rfl | rfl | rfl | rfl | rfl | rfl | rfl | rfl | rfl | rfl | rfl | rfl | rfl | rfl | rfl | rfl | rfl | rfl | rfl | rfl | rfl | rfl
  · refine J_tabIn (off := 108) (tgt := 152) C dL_law_44 (by decide) (by decide) (by decide) (by decide) ?_
    exact lc_begin C hXS hl0 hT hi hLL ht hk0 hk1 hn0 hn6 h a m o od sc x hd pb ag ac an L f sb sx shd spb sag sac san sLs sf L3 f3 L4 f4 sv bh ba n at0 kd gu cs cd ub v nw ps tx fw fh fs fm fl fq dl wr fo fd hinv K
  · refine J_tabIn (off := 176) (tgt := 220) C dL_law_44 (by decide) (by decide) (by decide) (by decide) ?_
    exact lc_ask C hXS hl0 hT hi hLL ht hk0 hk1 hn0 hn6 h a m o od sc x hd pb ag ac an L f sb sx shd spb sag sac san sLs sf L3 f3 L4 f4 sv bh ba n at0 kd gu cs cd ub v nw ps tx fw fh fs fm fl fq dl wr fo fd hinv K
  · refine J_tabIn (off := 272) (tgt := 316) C dL_law_44 (by decide) (by decide) (by decide) (by decide) ?_
    exact lc_prove C hXS hl0 hT hi hLL ht hk0 hk1 hn0 hn6 h a m o od sc x hd pb ag ac an L f sb sx shd spb sag sac san sLs sf L3 f3 L4 f4 sv bh ba n at0 kd gu cs cd ub v nw ps tx fw fh fs fm fl fq dl wr fo fd hinv K
  · refine J_tabIn (off := 347) (tgt := 391) C dL_law_44 (by decide) (by decide) (by decide) (by decide) ?_
    exact lc_leave C hXS hl0 hT hi hLL ht hk0 hk1 hn0 hn6 h a m o od sc x hd pb ag ac an L f sb sx shd spb sag sac san sLs sf L3 f3 L4 f4 sv bh ba n at0 kd gu cs cd ub v nw ps tx fw fh fs fm fl fq dl wr fo fd hinv K
  · refine J_tabIn (off := 403) (tgt := 447) C dL_law_44 (by decide) (by decide) (by decide) (by decide) ?_
    exact lc_accuse C hXS hl0 hT hi hLL ht hk0 hk1 hn0 hn6 h a m o od sc x hd pb ag ac an L f sb sx shd spb sag sac san sLs sf L3 f3 L4 f4 sv bh ba n at0 kd gu cs cd ub v nw ps tx fw fh fs fm fl fq dl wr fo fd hinv K
  · refine J_tabIn (off := 459) (tgt := 503) C dL_law_44 (by decide) (by decide) (by decide) (by decide) ?_
    exact lc_guest C hXS hl0 hT hi hLL ht hk0 hk1 hn0 hn6 h a m o od sc x hd pb ag ac an L f sb sx shd spb sag sac san sLs sf L3 f3 L4 f4 sv bh ba n at0 kd gu cs cd ub v nw ps tx fw fh fs fm fl fq dl wr fo fd hinv K
  · refine J_tabIn (off := 527) (tgt := 571) C dL_law_44 (by decide) (by decide) (by decide) (by decide) ?_
    exact lc_value C hXS hl0 hT hi hLL ht hk0 hk1 hn0 hn6 h a m o od sc x hd pb ag ac an L f sb sx shd spb sag sac san sLs sf L3 f3 L4 f4 sv bh ba n at0 kd gu cs cd ub v nw ps tx fw fh fs fm fl fq dl wr fo fd hinv K
  · refine J_tabIn (off := 583) (tgt := 627) C dL_law_44 (by decide) (by decide) (by decide) (by decide) ?_
    exact lc_question C hXS hl0 hT hi hLL ht hk0 hk1 hn0 hn6 h a m o od sc x hd pb ag ac an L f sb sx shd spb sag sac san sLs sf L3 f3 L4 f4 sv bh ba n at0 kd gu cs cd ub v nw ps tx fw fh fs fm fl fq dl wr fo fd hinv K
  · refine J_tabIn (off := 651) (tgt := 695) C dL_law_44 (by decide) (by decide) (by decide) (by decide) ?_
    exact lc_deals C hXS hl0 hT hi hLL ht hk0 hk1 hn0 hn6 h a m o od sc x hd pb ag ac an L f sb sx shd spb sag sac san sLs sf L3 f3 L4 f4 sv bh ba n at0 kd gu cs cd ub v nw ps tx fw fh fs fm fl fq dl wr fo fd hinv K
  · refine J_tabIn (off := 664) (tgt := 708) C dL_law_44 (by decide) (by decide) (by decide) (by decide) ?_
    exact lc_dealsWith C hXS hl0 hT hi hLL ht hk0 hk1 hn0 hn6 h a m o od sc x hd pb ag ac an L f sb sx shd spb sag sac san sLs sf L3 f3 L4 f4 sv bh ba n at0 kd gu cs cd ub v nw ps tx fw fh fs fm fl fq dl wr fo fd hinv K
  · refine J_tabIn (off := 720) (tgt := 764) C dL_law_44 (by decide) (by decide) (by decide) (by decide) ?_
    exact lc_dealsHeld C hXS hl0 hT hi hLL ht hk0 hk1 hn0 hn6 h a m o od sc x hd pb ag ac an L f sb sx shd spb sag sac san sLs sf L3 f3 L4 f4 sv bh ba n at0 kd gu cs cd ub v nw ps tx fw fh fs fm fl fq dl wr fo fd hinv K
  · refine J_tabIn (off := 788) (tgt := 832) C dL_law_44 (by decide) (by decide) (by decide) (by decide) ?_
    exact lc_culprits C hXS hl0 hT hi hLL ht hk0 hk1 hn0 hn6 h a m o od sc x hd pb ag ac an L f sb sx shd spb sag sac san sLs sf L3 f3 L4 f4 sv bh ba n at0 kd gu cs cd ub v nw ps tx fw fh fs fm fl fq dl wr fo fd hinv K
  · refine J_tabIn (off := 801) (tgt := 845) C dL_law_44 (by decide) (by decide) (by decide) (by decide) ?_
    exact lc_likeliest C hXS hl0 hT hi hLL ht hk0 hk1 hn0 hn6 h a m o od sc x hd pb ag ac an L f sb sx shd spb sag sac san sLs sf L3 f3 L4 f4 sv bh ba n at0 kd gu cs cd ub v nw ps tx fw fh fs fm fl fq dl wr fo fd hinv K
  · refine J_tabIn (off := 814) (tgt := 858) C dL_law_44 (by decide) (by decide) (by decide) (by decide) ?_
    exact lc_chance C hXS hl0 hT hi hLL ht hk0 hk1 hn0 hn6 h a m o od sc x hd pb ag ac an L f sb sx shd spb sag sac san sLs sf L3 f3 L4 f4 sv bh ba n at0 kd gu cs cd ub v nw ps tx fw fh fs fm fl fq dl wr fo fd hinv K
  · refine J_tabIn (off := 891) (tgt := 935) C dL_law_44 (by decide) (by decide) (by decide) (by decide) ?_
    exact lc_dealsIf C hXS hl0 hT hi hLL ht hk0 hk1 hn0 hn6 h a m o od sc x hd pb ag ac an L f sb sx shd spb sag sac san sLs sf L3 f3 L4 f4 sv bh ba n at0 kd gu cs cd ub v nw ps tx fw fh fs fm fl fq dl wr fo fd hinv K
  · refine J_tabIn (off := 971) (tgt := 1015) C dL_law_44 (by decide) (by decide) (by decide) (by decide) ?_
    exact lc_worst C hXS hl0 hT hi hLL ht hk0 hk1 hn0 hn6 h a m o od sc x hd pb ag ac an L f sb sx shd spb sag sac san sLs sf L3 f3 L4 f4 sv bh ba n at0 kd gu cs cd ub v nw ps tx fw fh fs fm fl fq dl wr fo fd hinv K
  · refine J_tabIn (off := 1039) (tgt := 1083) C dL_law_44 (by decide) (by decide) (by decide) (by decide) ?_
    exact lc_bestCards C hXS hl0 hT hi hLL ht hk0 hk1 hn0 hn6 h a m o od sc x hd pb ag ac an L f sb sx shd spb sag sac san sLs sf L3 f3 L4 f4 sv bh ba n at0 kd gu cs cd ub v nw ps tx fw fh fs fm fl fq dl wr fo fd hinv K
  · refine J_tabIn (off := 1095) (tgt := 1139) C dL_law_44 (by decide) (by decide) (by decide) (by decide) ?_
    exact lc_leftByProof C hXS hl0 hT hi hLL ht hk0 hk1 hn0 hn6 h a m o od sc x hd pb ag ac an L f sb sx shd spb sag sac san sLs sf L3 f3 L4 f4 sv bh ba n at0 kd gu cs cd ub v nw ps tx fw fh fs fm fl fq dl wr fo fd hinv K
  · refine J_tabIn (off := 1184) (tgt := 1228) C dL_law_44 (by decide) (by decide) (by decide) (by decide) ?_
    exact lc_append C hXS hl0 hT hi hLL ht hk0 hk1 hn0 hn6 h a m o od sc x hd pb ag ac an L f sb sx shd spb sag sac san sLs sf L3 f3 L4 f4 sv bh ba n at0 kd gu cs cd ub v nw ps tx fw fh fs fm fl fq dl wr fo fd hinv K
  · refine J_tabIn (off := 1240) (tgt := 1284) C dL_law_44 (by decide) (by decide) (by decide) (by decide) ?_
    exact lc_clear C hXS hl0 hT hi hLL ht hk0 hk1 hn0 hn6 h a m o od sc x hd pb ag ac an L f sb sx shd spb sag sac san sLs sf L3 f3 L4 f4 sv bh ba n at0 kd gu cs cd ub v nw ps tx fw fh fs fm fl fq dl wr fo fd hinv K
  · refine J_tabIn (off := 1253) (tgt := 1297) C dL_law_44 (by decide) (by decide) (by decide) (by decide) ?_
    exact lc_play C hXS hl0 hT hi hLL ht hk0 hk1 hn0 hn6 h a m o od sc x hd pb ag ac an L f sb sx shd spb sag sac san sLs sf L3 f3 L4 f4 sv bh ba n at0 kd gu cs cd ub v nw ps tx fw fh fs fm fl fq dl wr fo fd hinv K
  · refine J_tabIn (off := 1266) (tgt := 1310) C dL_law_44 (by decide) (by decide) (by decide) (by decide) ?_
    exact lc_undo C hXS hl0 hT hi hLL ht hk0 hk1 hn0 hn6 h a m o od sc x hd pb ag ac an L f sb sx shd spb sag sac san sLs sf L3 f3 L4 f4 sv bh ba n at0 kd gu cs cd ub v nw ps tx fw fh fs fm fl fq dl wr fo fd hinv K
  · refine J_tabIn (off := 1310) (tgt := 1354) C dL_law_44 (by decide) (by decide) (by decide) (by decide) ?_
    exact lc_digest C hXS hl0 hT hi hLL ht hk0 hk1 hn0 hn6 h a m o od sc x hd pb ag ac an L f sb sx shd spb sag sac san sLs sf L3 f3 L4 f4 sv bh ba n at0 kd gu cs cd ub v nw ps tx fw fh fs fm fl fq dl wr fo fd hinv K
  · refine J_tabOut (tgt := 1368) C dL_law_44 (by decide) (by decide) ?_
    refine J_wd (k' := kk + 1) (n' := nn + 6) (by omega) (by omega) ?_
    exact K sc x hd pb ag ac an L f sb sx shd spb sag sac san sLs sf L3 f3 L4 f4 sv bh ba n at0 kd gu cs cd ub v nw ps tx fw fh fs fm fl fq dl wr fo fd (LI_0 hinv rfl rfl hinv.2.2.2.2.2.2.2.2)
  · refine J_tabOut (tgt := 1368) C dL_law_44 (by decide) (by decide) ?_
    refine J_wd (k' := kk + 1) (n' := nn + 6) (by omega) (by omega) ?_
    exact K sc x hd pb ag ac an L f sb sx shd spb sag sac san sLs sf L3 f3 L4 f4 sv bh ba n at0 kd gu cs cd ub v nw ps tx fw fh fs fm fl fq dl wr fo fd (LI_0 hinv rfl rfl hinv.2.2.2.2.2.2.2.2)
  · refine J_tabOut (tgt := 1368) C dL_law_44 (by decide) (by decide) ?_
    refine J_wd (k' := kk + 1) (n' := nn + 6) (by omega) (by omega) ?_
    exact K sc x hd pb ag ac an L f sb sx shd spb sag sac san sLs sf L3 f3 L4 f4 sv bh ba n at0 kd gu cs cd ub v nw ps tx fw fh fs fm fl fq dl wr fo fd (LI_0 hinv rfl rfl hinv.2.2.2.2.2.2.2.2)
  · refine J_tabOut (tgt := 1368) C dL_law_44 (by decide) (by decide) ?_
    refine J_wd (k' := kk + 1) (n' := nn + 6) (by omega) (by omega) ?_
    exact K sc x hd pb ag ac an L f sb sx shd spb sag sac san sLs sf L3 f3 L4 f4 sv bh ba n at0 kd gu cs cd ub v nw ps tx fw fh fs fm fl fq dl wr fo fd (LI_0 hinv rfl rfl hinv.2.2.2.2.2.2.2.2)
  · refine J_tabOut (tgt := 1368) C dL_law_44 (by decide) (by decide) ?_
    refine J_wd (k' := kk + 1) (n' := nn + 6) (by omega) (by omega) ?_
    exact K sc x hd pb ag ac an L f sb sx shd spb sag sac san sLs sf L3 f3 L4 f4 sv bh ba n at0 kd gu cs cd ub v nw ps tx fw fh fs fm fl fq dl wr fo fd (LI_0 hinv rfl rfl hinv.2.2.2.2.2.2.2.2)
  · refine J_tabOut (tgt := 1368) C dL_law_44 (by decide) (by decide) ?_
    refine J_wd (k' := kk + 1) (n' := nn + 6) (by omega) (by omega) ?_
    exact K sc x hd pb ag ac an L f sb sx shd spb sag sac san sLs sf L3 f3 L4 f4 sv bh ba n at0 kd gu cs cd ub v nw ps tx fw fh fs fm fl fq dl wr fo fd (LI_0 hinv rfl rfl hinv.2.2.2.2.2.2.2.2)
  · refine J_tabOut (tgt := 1368) C dL_law_44 (by decide) (by decide) ?_
    refine J_wd (k' := kk + 1) (n' := nn + 6) (by omega) (by omega) ?_
    exact K sc x hd pb ag ac an L f sb sx shd spb sag sac san sLs sf L3 f3 L4 f4 sv bh ba n at0 kd gu cs cd ub v nw ps tx fw fh fs fm fl fq dl wr fo fd (LI_0 hinv rfl rfl hinv.2.2.2.2.2.2.2.2)
  · refine J_tabOut (tgt := 1368) C dL_law_44 (by decide) (by decide) ?_
    refine J_wd (k' := kk + 1) (n' := nn + 6) (by omega) (by omega) ?_
    exact K sc x hd pb ag ac an L f sb sx shd spb sag sac san sLs sf L3 f3 L4 f4 sv bh ba n at0 kd gu cs cd ub v nw ps tx fw fh fs fm fl fq dl wr fo fd (LI_0 hinv rfl rfl hinv.2.2.2.2.2.2.2.2)
  · refine J_tabOut (tgt := 1368) C dL_law_44 (by decide) (by decide) ?_
    refine J_wd (k' := kk + 1) (n' := nn + 6) (by omega) (by omega) ?_
    exact K sc x hd pb ag ac an L f sb sx shd spb sag sac san sLs sf L3 f3 L4 f4 sv bh ba n at0 kd gu cs cd ub v nw ps tx fw fh fs fm fl fq dl wr fo fd (LI_0 hinv rfl rfl hinv.2.2.2.2.2.2.2.2)
end LC
