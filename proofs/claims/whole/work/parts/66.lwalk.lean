/-! rows for the law -/
section JL
variable {p : Program} {l : Launch} {e : Env} {R : Room} {s : State} {m : MethodId} {args : Array Value} {below : List Frame} {meth : Method} {c : Code} {k n : Nat} {Q : State → Prop}
variable {Y : GY} {A : Nat → Prop} {nL : Nat} {own : String} {cc : ByteArray} {Ts : List Cond}
variable {pc : Nat} {lv : List (Nat × Value)} {st : List Value} {ws : va_W}
theorem J_dcmpl (C : JC p s m args meth c Y A nL own cc Ts) {x y : UInt64} (d : decode cc pc = .ok (.dcmp .l, 1)) (h : J p l e R s m args below meth c Q Y A nL k n (pc + 1) lv (.int (cmpValue (FP.dcmp x y) .l) :: st) ws) : J p l e R s m args below meth c Q Y A nL k n pc lv (.double y :: .double x :: st) ws := by
  intro H locs ls hP hD hS hl T hT X
  obtain ⟨t, a, b⟩ := h H locs ls hP hD hS hl T hT X
  refine ⟨t, ?_, b⟩
  have hx := C.x
  have hb := C.b
  jvm_step X.here [X.here.top, hx, hb, d, Op.dcmp.wp_sem]
  exact a
end JL
theorem lcs (x : Int64) : lg_cmp x x = nI 0 := by show lg_cmp x x = 0; rw [lg_cmp_eq]
