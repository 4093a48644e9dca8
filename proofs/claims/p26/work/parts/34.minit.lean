/-! ===== BEGIN minit: the constructor of the reference ===== -/
section NWB
variable {p : Program} {l : Launch} {e : Env} {R : Room} {s : State} {m : MethodId} {args : Array Value} {below : List Frame} {meth : Method} {c : Code} {cells slots : Nat} {Q : State → Prop} {cc : ByteArray} {nL : Nat} {own : String} {Ts : List Cond} {D : va_G} {A : Nat → Prop} {ret : Option FieldType} {pc : Nat} {lv : List (Nat × Value)} {st : List Value} {cy : Nat → ClassId} {B X : va_W} {x0 : Nat × va_E}
theorem x_newaB (C : xC p s m args meth c cc nL own Ts D (tyC cy) A ret) (harr : Cond.arrayClass .int ∈ Ts) {n : Int32} {N : Nat} (hn : ¬ n < 0) (hN : n.toNatClampNeg = N) (hb : N ≤ 1000) (hcs : cells + 1 ≤ R.cells ∧ slots + N ≤ R.slots) (hd : decode cc pc = .ok (.newarray .int, 2))
    (kk : ∀ q : Nat, xA p l e R s m args below meth c D A nL (cells + 1) (slots + N) Q (pc + 2) lv (.ref q :: st) (x0 :: ((B ++ [(q, .inl (cy 0, N, .inl (fun _ => 0)))]) ++ X))) : xA p l e R s m args below meth c D A nL cells slots Q pc lv (.int n :: st) (x0 :: (B ++ X)) := by
  intro H locs ls hP hD hS hl
  refine va_newa (ty := .int) (a0 := (N, .inl (fun _ => 0))) (N' := N) C.1 C.2.1 (atype := .int) (C.2.2.2.2.1 _ harr) rfl C.2.2.2.2.2.1 hP hD hS C.2.2.2.2.2.2.1 (fun cA => rfl) hn hN (by show N * 4 ≤ _; omega) hcs.1 hcs.2 hd (fun q cA H1 hK1 hP1 hD1 hS1 => ?_)
  have h1 := (hK1.2 4 (cA, .int) rfl).2
  have h2 := (C.2.2.2.2.2.1.2 0 (cy 0, .int) rfl).2
  have e : cA = cy 0 := Option.some.inj (h1.symm.trans h2)
  subst e
  exact kk q H1 locs ls (va_P.swap (a := x0 :: B) (b := X) (c := [(q, .inl (cy 0, N, .inl (fun _ => 0)))]) hP1) (va_D.swap (a := x0 :: B) (b := X) (c := [(q, .inl (cy 0, N, .inl (fun _ => 0)))]) hD1) hS1 hl
end NWB
/-! ===== END minit ===== -/
