/-! ===== BEGIN first: the contents after both constructors keep the invariant; a new array of ints ===== -/
def w0 : XV := fun p k => if (p = 5 ∨ (25 ≤ p ∧ p < 33)) ∧ k < 8 then -1 else 0
def v0 : XV := fun p k => if p = 1 then (if k < 8 then 15 else 0) else if 9 ≤ p ∧ p < 19 then dev0 (nI (p - 9)) k else if 19 ≤ p ∧ p < 25 then cam0 (nI (p - 19)) k else measV w0 p k
theorem w0_E : ∀ i j, cE w0 i j = -1 := by
  intro i j
  unfold cE w0
  by_cases h : i < 8 ∧ j < 8
  · rw [if_pos h, if_pos (by omega), ti_m1]
  · rw [if_neg h]
theorem w0_I : ∀ v, cIm w0 v = -1 := by
  intro v
  unfold cIm w0
  by_cases h : v < 8
  · rw [if_pos h, if_pos (by omega), ti_m1]
  · rw [if_neg h]
theorem v0_w {p k : Nat} (h : p = 5 ∨ p = 8 ∨ 25 ≤ p ∨ p = 0) : v0 p k = measV w0 p k := by
  unfold v0
  rw [if_neg (by omega), if_neg (by omega), if_neg (by omega)]
theorem v0_d {d : Nat} (h : d < 10) (k : Nat) : v0 (9 + d) k = dev0 (nI d) k := by
  unfold v0
  rw [if_neg (show ¬ 9 + d = 1 by omega), if_pos (show 9 ≤ 9 + d ∧ 9 + d < 19 by omega), show 9 + d - 9 = d by omega]
theorem v0_c {c : Nat} (h : c < 6) (k : Nat) : v0 (19 + c) k = cam0 (nI c) k := by
  unfold v0
  rw [if_neg (show ¬ 19 + c = 1 by omega), if_neg (show ¬ (9 ≤ 19 + c ∧ 19 + c < 19) by omega), if_pos (show 19 ≤ 19 + c ∧ 19 + c < 25 by omega), show 19 + c - 19 = c by omega]
theorem v0_0 (k : Nat) : v0 0 k = 0 := by
  rw [v0_w (by omega), measV_fr w0 (by omega) (by omega)]
  unfold w0
  rw [if_neg (by omega)]
section NWA
variable {p : Program} {l : Launch} {e : Env} {R : Room} {s : State} {m : MethodId} {args : Array Value} {below : List Frame} {meth : Method} {c : Code} {cells slots : Nat} {Q : State → Prop} {cc : ByteArray} {nL : Nat} {own : String} {Ts : List Cond} {D : va_G} {A : Nat → Prop} {ret : Option FieldType} {pc : Nat} {lv : List (Nat × Value)} {st : List Value} {cy : Nat → ClassId} {ws : va_W}
theorem va_P.front {D : va_G} {cl : List vw_C} {ws : va_W} {x : Nat × va_E} {H : Heap} (h : va_P D cl (ws ++ [x]) H) : va_P D cl (x :: ws) H := va_P.swap (a := []) (b := ws) (c := [x]) h
theorem va_D.front {A : Nat → Prop} {ws : va_W} {x : Nat × va_E} (h : va_D A (ws ++ [x])) : va_D A (x :: ws) := va_D.swap (a := []) (b := ws) (c := [x]) h
theorem x_newaI (C : xC p s m args meth c cc nL own Ts D (tyC cy) A ret) (harr : Cond.arrayClass .int ∈ Ts) {n : Int32} {N : Nat} (hn : ¬ n < 0) (hN : n.toNatClampNeg = N) (hb : N ≤ 1000) (hcs : cells + 1 ≤ R.cells ∧ slots + N ≤ R.slots) (hd : decode cc pc = .ok (.newarray .int, 2))
    (kk : ∀ q : Nat, xA p l e R s m args below meth c D A nL (cells + 1) (slots + N) Q (pc + 2) lv (.ref q :: st) ((q, .inl (cy 0, N, .inl (fun _ => 0))) :: ws)) : xA p l e R s m args below meth c D A nL cells slots Q pc lv (.int n :: st) ws := by
  intro H locs ls hP hD hS hl
  refine va_newa (ty := .int) (a0 := (N, .inl (fun _ => 0))) (N' := N) C.1 C.2.1 (atype := .int) (C.2.2.2.2.1 _ harr) rfl C.2.2.2.2.2.1 hP hD hS C.2.2.2.2.2.2.1 (fun cA => rfl) hn hN (by show N * 4 ≤ _; omega) hcs.1 hcs.2 hd (fun q cA H1 hK1 hP1 hD1 hS1 => ?_)
  have h1 := (hK1.2 4 (cA, .int) rfl).2
  have h2 := (C.2.2.2.2.2.1.2 0 (cy 0, .int) rfl).2
  have e : cA = cy 0 := Option.some.inj (h1.symm.trans h2)
  subst e
  exact kk q H1 locs ls hP1.front hD1.front hS1 hl
end NWA
/-! ===== END first ===== -/
