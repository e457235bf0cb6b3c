/-! the digest's step -/
def mxL (h : Int64) (c : Int32) : Int64 := lN 31 * h + c.toInt64
def fdL (f : Nat → Int32) (h : Int64) : Nat → Int64
  | 0 => h
  | k + 1 => mxL (fdL f h k) (f k)
def h64 (h : Int64) : Nat := h.toUInt64.toNat
theorem h64_l (h : Int64) : lN (h64 h) = h := by
  apply Int64.toBitVec_inj.mp
  rw [lN_bv]
  show BitVec.ofNat 64 h.toBitVec.toNat = h.toBitVec
  rw [BitVec.ofNat_toNat, BitVec.setWidth_eq]
theorem mxL_l (h : Int64) (c : Int32) : lN 31 * lN (h64 h) + c.toInt64 = lN (h64 (mxL h c)) := by rw [h64_l, h64_l]; rfl
