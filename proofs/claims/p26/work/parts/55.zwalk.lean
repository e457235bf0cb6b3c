/-! a row of references written otherwise -/
section JL
variable {p : Program} {l : Launch} {e : Env} {R : Room} {s : State} {m : MethodId} {args : Array Value} {below : List Frame} {meth : Method} {c : Code} {k n : Nat} {Q : State → Prop}
variable {Y : GY} {A : Nat → Prop} {nL : Nat} {own : String} {cc : ByteArray} {Ts : List Cond}
variable {pc : Nat} {lv : List (Nat × Value)} {st : List Value} {ws : va_W}
theorem J_extQ {a N q0 : Nat} {f g : Nat → Option Nat} {ws' : va_W} (he : ws[q0]? = some (aQ Y a N f)) (hfg : ∀ j, j < N → f j = g j) (hf : ws.set q0 (aQ Y a N g) = ws') (h : J p l e R s m args below meth c Q Y A nL k n pc lv st ws') : J p l e R s m args below meth c Q Y A nL k n pc lv st ws := by
  intro H locs ls hP hD hS hl
  subst hf
  have e1 : vp_cell (Y.2 3) (N, .inr (.inr (.inr (.inr g)))) = vp_cell (Y.2 3) (N, .inr (.inr (.inr (.inr f)))) := by
    show arrV _ N (fun j => va_rf (g j)) = arrV _ N (fun j => va_rf (f j))
    unfold arrV
    congr 1
    congr 1
    funext j
    show va_rf (g j.1) = va_rf (f j.1)
    rw [hfg j.1 j.2]
  have h0 : va_at Y.1 vwCl (aQ Y a N g) H := by
    have h9 := hP q0 _ he
    simp only [va_at] at h9 ⊢
    rw [e1]
    exact h9
  exact h H locs ls (hP.set hD he h0 (fun _ _ => rfl)) (hD.set he) hS hl
end JL
