/-! the digest's step -/
def mxL (h : Int64) (c : Int32) : Int64 := lN 31 * h + c.toInt64
def fdL (f : Nat → Int32) (h : Int64) : Nat → Int64
  | 0 => h
  | k + 1 => mxL (fdL f h k) (f k)
def h64 (h : Int64) : Nat := h.toUInt64.toNat
