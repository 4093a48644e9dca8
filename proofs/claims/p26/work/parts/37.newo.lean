/-! ===== BEGIN newo: a new object in front, a new array of objects, moves of cells, aastore ===== -/
section NWO
variable {p : Program} {l : Launch} {e : Env} {R : Room} {s : State} {m : MethodId} {args : Array Value} {below : List Frame} {meth : Method} {c : Code} {cells slots : Nat} {Q : State → Prop} {cc : ByteArray} {nL : Nat} {own : String} {Ts : List Cond} {D : va_G} {A : Nat → Prop} {ret : Option FieldType} {pc : Nat} {lv : List (Nat × Value)} {st : List Value} {cy : Nat → ClassId} {tys : List (ClassId × FieldType)} {B X ws : va_W} {x0 : Nat × va_E}
theorem x_newO (C : xC p s m args meth c cc nL own Ts D tys A ret) {C0 : String} {T : u_T} {N ci index : Nat} (hin : ∀ w ∈ u_ws C0 T N, w ∈ Ts) (ty : Nat → FieldType) (hty : ∀ k, k < N → parseFieldDescriptor (T k).2.2.1 = some (ty k)) (hcl : Cond.classLink own index C0 ∈ Ts) (hinst : Cond.instantiable C0 N ∈ Ts) (hini : Cond.initialized C0 ∈ Ts) (hc : vwCl[ci]? = some (C0, T, N)) {fs : List Value} (hfs : ∀ j, j < N → defaultValue (ty j) = vp_V fs j) (hcs : cells + 1 ≤ R.cells ∧ slots + N ≤ R.slots) (hd : decode cc pc = .ok (.new index, 3))
    (kk : ∀ q : Nat, xA p l e R s m args below meth c D A nL (cells + 1) (slots + N) Q (pc + 3) lv (.ref q :: st) ((q, .inr (ci, fs)) :: ws)) : xA p l e R s m args below meth c D A nL cells slots Q pc lv st ws := by
  intro H locs ls hP hD hS hl
  exact va_new C.1 C.2.1 C.2.2.2.2.1 hin ty hty C.2.2.2.1 (C.2.2.2.2.1 _ hcl) (C.2.2.2.2.1 _ hinst) (C.2.2.2.2.1 _ hini) C.2.2.2.2.2.1 hP hD hS C.2.2.2.2.2.2.1 hc hfs hcs.1 hcs.2 hd (fun q H1 hP1 hD1 hS1 => kk q H1 locs ls hP1.front hD1.front hS1 hl)
theorem x_newqB (C : xC p s m args meth c cc nL own Ts D (tyC cy) A ret) {C0 : String} {index t0 : Nat} {cA : ClassId} (ht : (tyC cy)[t0]? = some (cA, .object C0)) (hlink : Cond.classLink own index C0 ∈ Ts) (hover : va_AO C0 s) {n : Int32} {N : Nat} (hn : ¬ n < 0) (hN : n.toNatClampNeg = N) (hb : N ≤ 1000) (hcs : cells + 1 ≤ R.cells ∧ slots + N ≤ R.slots) (hd : decode cc pc = .ok (.anewarray index, 3))
    (kk : ∀ q : Nat, xA p l e R s m args below meth c D A nL (cells + 1) (slots + N) Q (pc + 3) lv (.ref q :: st) (x0 :: ((B ++ [(q, .inl (cA, N, .inr (.inr (.inr (.inr (fun _ => none))))))]) ++ X))) : xA p l e R s m args below meth c D A nL cells slots Q pc lv (.int n :: st) (x0 :: (B ++ X)) := by
  intro H locs ls hP hD hS hl
  refine va_newq (C := C0) (N' := N) C.1 C.2.1 C.2.2.2.1 (C.2.2.2.2.1 _ hlink) hover C.2.2.2.2.2.1 hP hD hS C.2.2.2.2.2.2.1 hn hN (by omega) hcs.1 hcs.2 hd (fun q cB H1 hK1 hP1 hD1 hS1 => ?_)
  obtain ⟨_, _, _, _, _, h1⟩ := (hK1.2 4 (cB, .object C0) rfl).2
  obtain ⟨_, _, _, _, _, h2⟩ := (C.2.2.2.2.2.1.2 t0 (cA, .object C0) ht).2
  have e : cB = cA := Option.some.inj (h1.symm.trans h2)
  subst e
  exact kk q H1 locs ls (va_P.swap (a := x0 :: B) (b := X) (c := [(q, .inl (cB, N, .inr (.inr (.inr (.inr (fun _ => none))))))]) hP1) (va_D.swap (a := x0 :: B) (b := X) (c := [(q, .inl (cB, N, .inr (.inr (.inr (.inr (fun _ => none))))))]) hD1) hS1 hl
/-- the cell in front goes behind B -/
theorem x_back (kk : xA p l e R s m args below meth c D A nL cells slots Q pc lv st ((B ++ [x0]) ++ X)) : xA p l e R s m args below meth c D A nL cells slots Q pc lv st (x0 :: (B ++ X)) :=
  fun H locs ls hP hD hS hl => kk H locs ls (va_P.swap (a := B) (b := X) (c := [x0]) (va_P.swap (a := []) (b := [x0]) (c := B ++ X) hP)) (va_D.swap (a := B) (b := X) (c := [x0]) (va_D.swap (a := []) (b := [x0]) (c := B ++ X) hD)) hS hl
/-- a block in front goes behind what follows -/
theorem x_blk {Z : va_W} (kk : xA p l e R s m args below meth c D A nL cells slots Q pc lv st (X ++ Z)) : xA p l e R s m args below meth c D A nL cells slots Q pc lv st (Z ++ X) :=
  fun H locs ls hP hD hS hl => kk H locs ls (va_P.swap (a := []) (b := Z) (c := X) hP) (va_D.swap (a := []) (b := Z) (c := X) hD) hS hl
/-- a block behind X goes before it -/
theorem x_mid {Z : va_W} (kk : xA p l e R s m args below meth c D A nL cells slots Q pc lv st ((B ++ Z) ++ X)) : xA p l e R s m args below meth c D A nL cells slots Q pc lv st ((B ++ X) ++ Z) :=
  fun H locs ls hP hD hS hl => kk H locs ls (va_P.swap (a := B) (b := X) (c := Z) hP) (va_D.swap (a := B) (b := X) (c := Z) hD) hS hl
theorem x_aastG (C : xC p s m args meth c cc nL own Ts D tys A ret) {q0 t0 qk ci : Nat} {cA : ClassId} {r : vw_C} {q n v : Nat} {vs : List Value} {f : Nat → Option Nat} (ha : ws[q0]? = some (q, .inl (cA, n, .inr (.inr (.inr (.inr f)))))) (ht : tys[t0]? = some (cA, .object r.1)) (hv : ws[qk]? = some (v, .inr (ci, vs))) (hc : vwCl[ci]? = some r) {i : Int32} (hi : vp_in i n) (hd : decode cc pc = .ok (.aastore, 1))
    (kk : xA p l e R s m args below meth c D A nL cells slots Q (pc + 1) lv st (ws.set q0 (q, .inl (cA, n, .inr (.inr (.inr (.inr (va_up f i.toNatClampNeg (some v))))))))) : xA p l e R s m args below meth c D A nL cells slots Q pc lv (.ref v :: .int i :: .ref q :: st) ws :=
  fun H locs ls hP hD hS hl => va_astq C.1 C.2.1 C.2.2.2.2.2.1 hP hD hS q0 t0 qk ci ha ht hv hc hi hd (fun H1 locs1 hP1 hD1 hS1 => kk H1 locs1 ls hP1 hD1 hS1 hl)
end NWO
/-! ===== END newo ===== -/
