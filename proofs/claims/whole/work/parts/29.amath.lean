/-! an accusation, in numbers -/
def acA (nw : Nat → Nat) : Nat → Nat := va_up nw 1 0
def acB (w : Nat → Nat) : Nat → Nat := va_up w 4 (w 4 + 1)
def acC (w : Nat → Nat) (k : Nat) : Nat → Nat := va_up w 5 (w 5 + k)
def acD (w : Nat → Nat) (k : Nat) : Nat → Nat := va_up w 6 (w 6 + k)
def acN (nw : Nat → Nat) (c : Nat) : Nat → Nat := if c = nw 2 then acD (acC (acB (acA nw)) 1) (21 - acC (acB (acA nw)) 1 7) else acD (acC (acB (acA nw)) 0) 4294967286
theorem addm10 (a : Nat) : iZ ((a : Int) + (-10)) = nI (a + 4294967286) := by
  rw [← iZ_iadd, ← iZ_nat, ← nI_add]; rfl
