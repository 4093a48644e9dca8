/-! ===== BEGIN model: the small methods of the reference ===== -/
theorem x_join {p : Program} {l : Launch} {e : Env} {R : Room} {s : State} {m : MethodId} {args : Array Value} {below : List Frame} {meth : Method} {c : Code} {cells slots : Nat} {Q : State → Prop} {nL : Nat} {D : va_G} {A : Nat → Prop} {pc : Nat} {lv : List (Nat × Value)} {st : List Value} {ws : va_W} {J : Nat} {st' : List Value} (P : Int32 → Prop) (h : ∀ v, P v → xA p l e R s m args below meth c D A nL cells slots Q J lv (.int v :: st') ws) (k : (∀ v, P v → xA p l e R s m args below meth c D A nL cells slots Q J lv (.int v :: st') ws) → xA p l e R s m args below meth c D A nL cells slots Q pc lv st ws) : xA p l e R s m args below meth c D A nL cells slots Q pc lv st ws := k h
theorem b2i_01 (x : Bool) : b2i x = 0 ∨ b2i x = 1 := by cases x <;> decide
theorem vp_eq {x : Int32} {n N : Nat} (h : x = nI n) (hn : n < N) (hN : N < 1000) : vp_in x N := by
  rw [h]
  exact vp_in_nI hn (by omega)
theorem cl_eq {x : Int32} {n : Nat} (h : x = nI n) (hn : n < 1000) : x.toNatClampNeg = n := by
  rw [h]
  exact nI_clamp (by omega)
theorem nI_of_in {x : Int32} {n : Nat} (h : vp_in x n) (hn : n < 1000) : x = nI x.toNatClampNeg := by
  obtain ⟨j, hj, e⟩ := vp_in_of h (by omega)
  rw [e, nI_clamp (by omega)]
