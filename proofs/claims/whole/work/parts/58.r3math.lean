/-! all deals of three guests -/
theorem okD_3 : (ext 3 8 0).all okD = true := by decide +kernel
theorem raw3_0 : eqL (msL 9 (rwC 3 0)) (msL 9 (exC 3 0)) = true := by decide +kernel
theorem raw3_1 : eqL (msL 9 (rwC 3 1)) (msL 9 (exC 3 1)) = true := by decide +kernel
theorem raw3_2 : eqL (msL 9 (rwC 3 2)) (msL 9 (exC 3 2)) = true := by decide +kernel
theorem raw3_3 : eqL (msL 9 (rwC 3 3)) (msL 9 (exC 3 3)) = true := by decide +kernel
theorem raw3_4 : eqL (msL 9 (rwC 3 4)) (msL 9 (exC 3 4)) = true := by decide +kernel
theorem raw3_5 : eqL (msL 9 (rwC 3 5)) (msL 9 (exC 3 5)) = true := by decide +kernel
theorem raw3_6 : eqL (msL 9 (rwC 3 6)) (msL 9 (exC 3 6)) = true := by decide +kernel
theorem raw3_7 : eqL (msL 9 (rwC 3 7)) (msL 9 (exC 3 7)) = true := by decide +kernel
