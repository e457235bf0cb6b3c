/-! all places of a list -/
theorem rng_ok (ws : va_W) (n : Nat) (h : ws.length = n) : (List.range n).map (fun i => ws[i]?) = ws.map some := by
  subst h
  apply List.ext_getElem?
  intro i
  rw [List.getElem?_map, List.getElem?_map]
  rcases Nat.lt_or_ge i ws.length with h | h
  · rw [List.getElem?_range h, List.getElem?_eq_getElem h]; show some (ws[i]?) = some (some ws[i]); rw [List.getElem?_eq_getElem h]
  · rw [List.getElem?_eq_none (by rw [List.length_range]; exact h), List.getElem?_eq_none h]; rfl
theorem rng_nd49 : va_nd (List.range 49) = true := by decide +kernel
