/-! ===== BEGIN minit: the constructor of the reference ===== -/
section NWB
variable {p : Program} {l : Launch} {e : Env} {R : Room} {s : State} {m : MethodId} {args : Array Value} {below : List Frame} {meth : Method} {c : Code} {cells slots : Nat} {Q : State → Prop} {cc : ByteArray} {nL : Nat} {own : String} {Ts : List Cond} {D : va_G} {A : Nat → Prop} {ret : Option FieldType} {pc : Nat} {lv : List (Nat × Value)} {st : List Value} {cy : Nat → ClassId} {B X : va_W} {x0 : Nat × va_E}
theorem x_newaB (C : xC p s m args meth c cc nL own Ts D (tyC cy) A ret) (harr : Cond.arrayClass .int ∈ Ts) {n : Int32} {N : Nat} (hn : ¬ n < 0) (hN : n.toNatClampNeg = N) (hb : N ≤ 1000) (hcs : cells + 1 ≤ R.cells ∧ slots + N ≤ R.slots) (hd : decode cc pc = .ok (.newarray .int, 2))
    (kk : ∀ q : Nat, xA p l e R s m args below meth c D A nL (cells + 1) (slots + N) Q (pc + 2) lv (.ref q :: st) (x0 :: ((B ++ [(q, .inl (cy 0, N, .inl (fun _ => 0)))]) ++ X))) : xA p l e R s m args below meth c D A nL cells slots Q pc lv (.int n :: st) (x0 :: (B ++ X)) := by
  intro H locs ls hP hD hS hl
  refine va_newa (ty := .int) (a0 := (N, .inl (fun _ => 0))) (N' := N) C.1 C.2.1 (atype := .int) (C.2.2.2.2.1 _ harr) rfl C.2.2.2.2.2.1 hP hD hS C.2.2.2.2.2.2.1 (fun cA => rfl) hn hN (by show N * 4 ≤ _; omega) hcs.1 hcs.2 hd (fun q cA H1 hK1 hP1 hD1 hS1 => ?_)
  have h1 := (hK1.2 6 (cA, .int) rfl).2
  have h2 := (C.2.2.2.2.2.1.2 0 (cy 0, .int) rfl).2
  have e : cA = cy 0 := Option.some.inj (h1.symm.trans h2)
  subst e
  exact kk q H1 locs ls (va_P.swap (a := x0 :: B) (b := X) (c := [(q, .inl (cy 0, N, .inl (fun _ => 0)))]) hP1) (va_D.swap (a := x0 :: B) (b := X) (c := [(q, .inl (cy 0, N, .inl (fun _ => 0)))]) hD1) hS1 hl
theorem x_newaBz (C : xC p s m args meth c cc nL own Ts D (tyC cy) A ret) (harr : Cond.arrayClass .boolean ∈ Ts) {n : Int32} {N : Nat} (hn : ¬ n < 0) (hN : n.toNatClampNeg = N) (hb : N ≤ 1000) (hcs : cells + 1 ≤ R.cells ∧ slots + N ≤ R.slots) (hd : decode cc pc = .ok (.newarray .boolean, 2))
    (kk : ∀ q : Nat, xA p l e R s m args below meth c D A nL (cells + 1) (slots + N) Q (pc + 2) lv (.ref q :: st) (x0 :: ((B ++ [(q, .inl (cy 4, N, .inl (fun _ => 0)))]) ++ X))) : xA p l e R s m args below meth c D A nL cells slots Q pc lv (.int n :: st) (x0 :: (B ++ X)) := by
  intro H locs ls hP hD hS hl
  refine va_newa (ty := .boolean) (a0 := (N, .inl (fun _ => 0))) (N' := N) C.1 C.2.1 (atype := .boolean) (C.2.2.2.2.1 _ harr) rfl C.2.2.2.2.2.1 hP hD hS C.2.2.2.2.2.2.1 (fun cA => rfl) hn hN (by show N * 1 ≤ _; omega) hcs.1 hcs.2 hd (fun q cA H1 hK1 hP1 hD1 hS1 => ?_)
  have h1 := (hK1.2 6 (cA, .boolean) rfl).2
  have h2 := (C.2.2.2.2.2.1.2 4 (cy 4, .boolean) rfl).2
  have e : cA = cy 4 := Option.some.inj (h1.symm.trans h2)
  subst e
  exact kk q H1 locs ls (va_P.swap (a := x0 :: B) (b := X) (c := [(q, .inl (cy 4, N, .inl (fun _ => 0)))]) hP1) (va_D.swap (a := x0 :: B) (b := X) (c := [(q, .inl (cy 4, N, .inl (fun _ => 0)))]) hD1) hS1 hl
end NWB
def mA : Nat → XV
  | 0 => fun _ _ => 0
  | i + 1 => xs (xs (mA i) 1 i 15) 2 i (-1)
def mB : Nat → XV
  | 0 => mA 8
  | i + 1 => xs (mB i) 3 i (-1)
theorem mA_at : ∀ n p k, mA n p k = if p = 1 ∧ k < n then 15 else if p = 2 ∧ k < n then -1 else 0 := by
  intro n
  induction n with
  | zero => intro p k; rw [if_neg (by omega), if_neg (by omega)]; rfl
  | succ n ih =>
    intro p k
    show xs (xs (mA n) 1 n 15) 2 n (-1) p k = _
    rw [xs_eq, xs_eq, ih]
    by_cases h2 : p = 2 ∧ k = n
    · rw [if_pos h2, if_neg (show ¬ (p = 1 ∧ k < n + 1) by omega), if_pos (show p = 2 ∧ k < n + 1 by omega)]
    · rw [if_neg h2]
      by_cases h1 : p = 1 ∧ k = n
      · rw [if_pos h1, if_pos (show p = 1 ∧ k < n + 1 by omega)]
      · rw [if_neg h1]
        by_cases h3 : p = 1 ∧ k < n
        · rw [if_pos h3, if_pos (show p = 1 ∧ k < n + 1 by omega)]
        · rw [if_neg h3, if_neg (show ¬ (p = 1 ∧ k < n + 1) by omega)]
          by_cases h4 : p = 2 ∧ k < n
          · rw [if_pos h4, if_pos (show p = 2 ∧ k < n + 1 by omega)]
          · rw [if_neg h4, if_neg (show ¬ (p = 2 ∧ k < n + 1) by omega)]
theorem mB_at : ∀ n p k, mB n p k = if p = 3 ∧ k < n then -1 else mA 8 p k := by
  intro n
  induction n with
  | zero => intro p k; rw [if_neg (by omega)]; rfl
  | succ n ih =>
    intro p k
    show xs (mB n) 3 n (-1) p k = _
    rw [xs_eq, ih]
    by_cases h1 : p = 3 ∧ k = n
    · rw [if_pos h1, if_pos (show p = 3 ∧ k < n + 1 by omega)]
    · rw [if_neg h1]
      by_cases h3 : p = 3 ∧ k < n
      · rw [if_pos h3, if_pos (show p = 3 ∧ k < n + 1 by omega)]
      · rw [if_neg h3, if_neg (show ¬ (p = 3 ∧ k < n + 1) by omega)]
theorem mB_m0 : mB 64 = m0 := by
  funext p k
  rw [mB_at, mA_at]
  unfold m0
  by_cases h1 : p = 3 ∧ k < 64
  · rw [if_pos h1, if_neg (show ¬ (p = 1 ∧ k < 8) by omega), if_pos (show (p = 2 ∧ k < 8) ∨ (p = 3 ∧ k < 64) from Or.inr h1)]
  · rw [if_neg h1]
    by_cases h2 : p = 1 ∧ k < 8
    · rw [if_pos h2, if_pos h2]
    · rw [if_neg h2, if_neg h2]
      by_cases h3 : p = 2 ∧ k < 8
      · rw [if_pos h3, if_pos (show (p = 2 ∧ k < 8) ∨ (p = 3 ∧ k < 64) from Or.inl h3)]
      · rw [if_neg h3, if_neg (show ¬ ((p = 2 ∧ k < 8) ∨ (p = 3 ∧ k < 64)) by omega)]
def mz0 : List Value := [.int 0, .int 0, .null, .null, .null, .null, .int 0, .null, .null, .null, .null, .null, .null, .null, .null, .int 0, .null, .null, .null, .null, .null, .null, .null, .null, .null, .null, .null]
def rmX4_init : Room := { frames := 1, cells := 23, slots := 246, locals := 40 }
set_option maxHeartbeats 8000000 in
set_option maxRecDepth 100000 in
theorem k_X4_init (l : Launch) (D : va_G) (cy : Nat → ClassId) (A : Nat → Prop) (X : va_W) (q : Nat) : Met l yX4_init wsX4_init rmX4_init (va_Pc [.ref q] (xPre D (tyC cy) A ((q, .inr (4, mz0)) :: X))) (va_Qv (fun (b : Nat → Nat) => b 0 = q) (fun b t => xPost D (tyC cy) A (mW cy b X m0) t) A) 23 246 A := by
  have hin : ∀ w ∈ wsX40, w ∈ wsX4_init := fun w h => List.mem_cons_of_mem _ (List.mem_append_right _ h)
  refine x_met (own := RX4) (by decide) rfl rfl (Nat.le_of_ble_eq_true rfl) rfl ?_
  intro p e s m below meth c hnm C hE
  refine x_ws (show ((q, .inr (4, mz0)) :: X : va_W) = (q, .inr (4, mz0)) :: ([] ++ X) from rfl) ?_
  refine x_aload_n (i := 0) C dX4_init_0 rfl rfl ?_
  refine x_objInit C (List.mem_of_getElem? (i := 1) rfl) (List.mem_of_getElem? (i := 2) rfl) (List.mem_of_getElem? (i := 3) rfl) dX4_init_1 (Nat.le_of_ble_eq_true rfl) (Nat.le_of_ble_eq_true rfl) ?_
  refine x_aload_n (i := 0) C dX4_init_4 rfl rfl ?_
  refine x_bipush (v := nI 8) C dX4_init_5 (by decide) ?_
  refine x_newaB C (by decide +kernel) (by decide) (nI_clamp (by omega)) (by omega) ⟨Nat.le_of_ble_eq_true rfl, Nat.le_of_ble_eq_true rfl⟩ dX4_init_7 (fun q1 => ?_)
  refine x_putOF C tyX4 tyX4_ok nmX4 rfl 2 (by decide) hin (by decide +kernel) rfl rfl hnm rfl (show tyX4 2 = .array .int from rfl) rfl rfl (Nat.le_of_ble_eq_true rfl) dX4_init_9 ?_
  refine x_ws (show _ = ((q, .inr (4, [.int 0, .int 0, .ref q1, .null, .null, .null, .int 0, .null, .null, .null, .null, .null, .null, .null, .null, .int 0, .null, .null, .null, .null, .null, .null, .null, .null, .null, .null, .null])) :: ([(q1, .inl (cy 0, 8, .inl (fun _ => 0)))] ++ X) : va_W) from rfl) ?_
  refine x_aload_n (i := 0) C dX4_init_12 rfl rfl ?_
  refine x_bipush (v := nI 8) C dX4_init_13 (by decide) ?_
  refine x_newaB C (by decide +kernel) (by decide) (nI_clamp (by omega)) (by omega) ⟨Nat.le_of_ble_eq_true rfl, Nat.le_of_ble_eq_true rfl⟩ dX4_init_15 (fun q2 => ?_)
  refine x_putOF C tyX4 tyX4_ok nmX4 rfl 3 (by decide) hin (by decide +kernel) rfl rfl hnm rfl (show tyX4 3 = .array .int from rfl) rfl rfl (Nat.le_of_ble_eq_true rfl) dX4_init_17 ?_
  refine x_ws (show _ = ((q, .inr (4, [.int 0, .int 0, .ref q1, .ref q2, .null, .null, .int 0, .null, .null, .null, .null, .null, .null, .null, .null, .int 0, .null, .null, .null, .null, .null, .null, .null, .null, .null, .null, .null])) :: ([(q1, .inl (cy 0, 8, .inl (fun _ => 0))), (q2, .inl (cy 0, 8, .inl (fun _ => 0)))] ++ X) : va_W) from rfl) ?_
  refine x_aload_n (i := 0) C dX4_init_20 rfl rfl ?_
  refine x_bipush (v := nI 64) C dX4_init_21 (by decide) ?_
  refine x_newaB C (by decide +kernel) (by decide) (nI_clamp (by omega)) (by omega) ⟨Nat.le_of_ble_eq_true rfl, Nat.le_of_ble_eq_true rfl⟩ dX4_init_23 (fun q3 => ?_)
  refine x_putOF C tyX4 tyX4_ok nmX4 rfl 4 (by decide) hin (by decide +kernel) rfl rfl hnm rfl (show tyX4 4 = .array .int from rfl) rfl rfl (Nat.le_of_ble_eq_true rfl) dX4_init_25 ?_
  refine x_ws (show _ = ((q, .inr (4, [.int 0, .int 0, .ref q1, .ref q2, .ref q3, .null, .int 0, .null, .null, .null, .null, .null, .null, .null, .null, .int 0, .null, .null, .null, .null, .null, .null, .null, .null, .null, .null, .null])) :: ([(q1, .inl (cy 0, 8, .inl (fun _ => 0))), (q2, .inl (cy 0, 8, .inl (fun _ => 0))), (q3, .inl (cy 0, 64, .inl (fun _ => 0)))] ++ X) : va_W) from rfl) ?_
  refine x_aload_n (i := 0) C dX4_init_28 rfl rfl ?_
  refine x_bipush (v := nI 8) C dX4_init_29 (by decide) ?_
  refine x_newaB C (by decide +kernel) (by decide) (nI_clamp (by omega)) (by omega) ⟨Nat.le_of_ble_eq_true rfl, Nat.le_of_ble_eq_true rfl⟩ dX4_init_31 (fun q4 => ?_)
  refine x_putOF C tyX4 tyX4_ok nmX4 rfl 5 (by decide) hin (by decide +kernel) rfl rfl hnm rfl (show tyX4 5 = .array .int from rfl) rfl rfl (Nat.le_of_ble_eq_true rfl) dX4_init_33 ?_
  refine x_ws (show _ = ((q, .inr (4, [.int 0, .int 0, .ref q1, .ref q2, .ref q3, .ref q4, .int 0, .null, .null, .null, .null, .null, .null, .null, .null, .int 0, .null, .null, .null, .null, .null, .null, .null, .null, .null, .null, .null])) :: ([(q1, .inl (cy 0, 8, .inl (fun _ => 0))), (q2, .inl (cy 0, 8, .inl (fun _ => 0))), (q3, .inl (cy 0, 64, .inl (fun _ => 0))), (q4, .inl (cy 0, 8, .inl (fun _ => 0)))] ++ X) : va_W) from rfl) ?_
  refine x_aload_n (i := 0) C dX4_init_36 rfl rfl ?_
  refine x_bipush (v := nI 10) C dX4_init_37 (by decide) ?_
  refine x_newaB C (by decide +kernel) (by decide) (nI_clamp (by omega)) (by omega) ⟨Nat.le_of_ble_eq_true rfl, Nat.le_of_ble_eq_true rfl⟩ dX4_init_39 (fun q5 => ?_)
  refine x_putOF C tyX4 tyX4_ok nmX4 rfl 7 (by decide) hin (by decide +kernel) rfl rfl hnm rfl (show tyX4 7 = .array .int from rfl) rfl rfl (Nat.le_of_ble_eq_true rfl) dX4_init_41 ?_
  refine x_ws (show _ = ((q, .inr (4, [.int 0, .int 0, .ref q1, .ref q2, .ref q3, .ref q4, .int 0, .ref q5, .null, .null, .null, .null, .null, .null, .null, .int 0, .null, .null, .null, .null, .null, .null, .null, .null, .null, .null, .null])) :: ([(q1, .inl (cy 0, 8, .inl (fun _ => 0))), (q2, .inl (cy 0, 8, .inl (fun _ => 0))), (q3, .inl (cy 0, 64, .inl (fun _ => 0))), (q4, .inl (cy 0, 8, .inl (fun _ => 0))), (q5, .inl (cy 0, 10, .inl (fun _ => 0)))] ++ X) : va_W) from rfl) ?_
  refine x_aload_n (i := 0) C dX4_init_44 rfl rfl ?_
  refine x_bipush (v := nI 10) C dX4_init_45 (by decide) ?_
  refine x_newaB C (by decide +kernel) (by decide) (nI_clamp (by omega)) (by omega) ⟨Nat.le_of_ble_eq_true rfl, Nat.le_of_ble_eq_true rfl⟩ dX4_init_47 (fun q6 => ?_)
  refine x_putOF C tyX4 tyX4_ok nmX4 rfl 8 (by decide) hin (by decide +kernel) rfl rfl hnm rfl (show tyX4 8 = .array .int from rfl) rfl rfl (Nat.le_of_ble_eq_true rfl) dX4_init_49 ?_
  refine x_ws (show _ = ((q, .inr (4, [.int 0, .int 0, .ref q1, .ref q2, .ref q3, .ref q4, .int 0, .ref q5, .ref q6, .null, .null, .null, .null, .null, .null, .int 0, .null, .null, .null, .null, .null, .null, .null, .null, .null, .null, .null])) :: ([(q1, .inl (cy 0, 8, .inl (fun _ => 0))), (q2, .inl (cy 0, 8, .inl (fun _ => 0))), (q3, .inl (cy 0, 64, .inl (fun _ => 0))), (q4, .inl (cy 0, 8, .inl (fun _ => 0))), (q5, .inl (cy 0, 10, .inl (fun _ => 0))), (q6, .inl (cy 0, 10, .inl (fun _ => 0)))] ++ X) : va_W) from rfl) ?_
  refine x_aload_n (i := 0) C dX4_init_52 rfl rfl ?_
  refine x_bipush (v := nI 10) C dX4_init_53 (by decide) ?_
  refine x_newaB C (by decide +kernel) (by decide) (nI_clamp (by omega)) (by omega) ⟨Nat.le_of_ble_eq_true rfl, Nat.le_of_ble_eq_true rfl⟩ dX4_init_55 (fun q7 => ?_)
  refine x_putOF C tyX4 tyX4_ok nmX4 rfl 9 (by decide) hin (by decide +kernel) rfl rfl hnm rfl (show tyX4 9 = .array .int from rfl) rfl rfl (Nat.le_of_ble_eq_true rfl) dX4_init_57 ?_
  refine x_ws (show _ = ((q, .inr (4, [.int 0, .int 0, .ref q1, .ref q2, .ref q3, .ref q4, .int 0, .ref q5, .ref q6, .ref q7, .null, .null, .null, .null, .null, .int 0, .null, .null, .null, .null, .null, .null, .null, .null, .null, .null, .null])) :: ([(q1, .inl (cy 0, 8, .inl (fun _ => 0))), (q2, .inl (cy 0, 8, .inl (fun _ => 0))), (q3, .inl (cy 0, 64, .inl (fun _ => 0))), (q4, .inl (cy 0, 8, .inl (fun _ => 0))), (q5, .inl (cy 0, 10, .inl (fun _ => 0))), (q6, .inl (cy 0, 10, .inl (fun _ => 0))), (q7, .inl (cy 0, 10, .inl (fun _ => 0)))] ++ X) : va_W) from rfl) ?_
  refine x_aload_n (i := 0) C dX4_init_60 rfl rfl ?_
  refine x_bipush (v := nI 10) C dX4_init_61 (by decide) ?_
  refine x_newaB C (by decide +kernel) (by decide) (nI_clamp (by omega)) (by omega) ⟨Nat.le_of_ble_eq_true rfl, Nat.le_of_ble_eq_true rfl⟩ dX4_init_63 (fun q8 => ?_)
  refine x_putOF C tyX4 tyX4_ok nmX4 rfl 10 (by decide) hin (by decide +kernel) rfl rfl hnm rfl (show tyX4 10 = .array .int from rfl) rfl rfl (Nat.le_of_ble_eq_true rfl) dX4_init_65 ?_
  refine x_ws (show _ = ((q, .inr (4, [.int 0, .int 0, .ref q1, .ref q2, .ref q3, .ref q4, .int 0, .ref q5, .ref q6, .ref q7, .ref q8, .null, .null, .null, .null, .int 0, .null, .null, .null, .null, .null, .null, .null, .null, .null, .null, .null])) :: ([(q1, .inl (cy 0, 8, .inl (fun _ => 0))), (q2, .inl (cy 0, 8, .inl (fun _ => 0))), (q3, .inl (cy 0, 64, .inl (fun _ => 0))), (q4, .inl (cy 0, 8, .inl (fun _ => 0))), (q5, .inl (cy 0, 10, .inl (fun _ => 0))), (q6, .inl (cy 0, 10, .inl (fun _ => 0))), (q7, .inl (cy 0, 10, .inl (fun _ => 0))), (q8, .inl (cy 0, 10, .inl (fun _ => 0)))] ++ X) : va_W) from rfl) ?_
  refine x_aload_n (i := 0) C dX4_init_68 rfl rfl ?_
  refine x_bipush (v := nI 10) C dX4_init_69 (by decide) ?_
  refine x_newaB C (by decide +kernel) (by decide) (nI_clamp (by omega)) (by omega) ⟨Nat.le_of_ble_eq_true rfl, Nat.le_of_ble_eq_true rfl⟩ dX4_init_71 (fun q9 => ?_)
  refine x_putOF C tyX4 tyX4_ok nmX4 rfl 11 (by decide) hin (by decide +kernel) rfl rfl hnm rfl (show tyX4 11 = .array .int from rfl) rfl rfl (Nat.le_of_ble_eq_true rfl) dX4_init_73 ?_
  refine x_ws (show _ = ((q, .inr (4, [.int 0, .int 0, .ref q1, .ref q2, .ref q3, .ref q4, .int 0, .ref q5, .ref q6, .ref q7, .ref q8, .ref q9, .null, .null, .null, .int 0, .null, .null, .null, .null, .null, .null, .null, .null, .null, .null, .null])) :: ([(q1, .inl (cy 0, 8, .inl (fun _ => 0))), (q2, .inl (cy 0, 8, .inl (fun _ => 0))), (q3, .inl (cy 0, 64, .inl (fun _ => 0))), (q4, .inl (cy 0, 8, .inl (fun _ => 0))), (q5, .inl (cy 0, 10, .inl (fun _ => 0))), (q6, .inl (cy 0, 10, .inl (fun _ => 0))), (q7, .inl (cy 0, 10, .inl (fun _ => 0))), (q8, .inl (cy 0, 10, .inl (fun _ => 0))), (q9, .inl (cy 0, 10, .inl (fun _ => 0)))] ++ X) : va_W) from rfl) ?_
  refine x_aload_n (i := 0) C dX4_init_76 rfl rfl ?_
  refine x_bipush (v := nI 10) C dX4_init_77 (by decide) ?_
  refine x_newaB C (by decide +kernel) (by decide) (nI_clamp (by omega)) (by omega) ⟨Nat.le_of_ble_eq_true rfl, Nat.le_of_ble_eq_true rfl⟩ dX4_init_79 (fun q10 => ?_)
  refine x_putOF C tyX4 tyX4_ok nmX4 rfl 12 (by decide) hin (by decide +kernel) rfl rfl hnm rfl (show tyX4 12 = .array .int from rfl) rfl rfl (Nat.le_of_ble_eq_true rfl) dX4_init_81 ?_
  refine x_ws (show _ = ((q, .inr (4, [.int 0, .int 0, .ref q1, .ref q2, .ref q3, .ref q4, .int 0, .ref q5, .ref q6, .ref q7, .ref q8, .ref q9, .ref q10, .null, .null, .int 0, .null, .null, .null, .null, .null, .null, .null, .null, .null, .null, .null])) :: ([(q1, .inl (cy 0, 8, .inl (fun _ => 0))), (q2, .inl (cy 0, 8, .inl (fun _ => 0))), (q3, .inl (cy 0, 64, .inl (fun _ => 0))), (q4, .inl (cy 0, 8, .inl (fun _ => 0))), (q5, .inl (cy 0, 10, .inl (fun _ => 0))), (q6, .inl (cy 0, 10, .inl (fun _ => 0))), (q7, .inl (cy 0, 10, .inl (fun _ => 0))), (q8, .inl (cy 0, 10, .inl (fun _ => 0))), (q9, .inl (cy 0, 10, .inl (fun _ => 0))), (q10, .inl (cy 0, 10, .inl (fun _ => 0)))] ++ X) : va_W) from rfl) ?_
  refine x_aload_n (i := 0) C dX4_init_84 rfl rfl ?_
  refine x_bipush (v := nI 10) C dX4_init_85 (by decide) ?_
  refine x_newaB C (by decide +kernel) (by decide) (nI_clamp (by omega)) (by omega) ⟨Nat.le_of_ble_eq_true rfl, Nat.le_of_ble_eq_true rfl⟩ dX4_init_87 (fun q11 => ?_)
  refine x_putOF C tyX4 tyX4_ok nmX4 rfl 13 (by decide) hin (by decide +kernel) rfl rfl hnm rfl (show tyX4 13 = .array .int from rfl) rfl rfl (Nat.le_of_ble_eq_true rfl) dX4_init_89 ?_
  refine x_ws (show _ = ((q, .inr (4, [.int 0, .int 0, .ref q1, .ref q2, .ref q3, .ref q4, .int 0, .ref q5, .ref q6, .ref q7, .ref q8, .ref q9, .ref q10, .ref q11, .null, .int 0, .null, .null, .null, .null, .null, .null, .null, .null, .null, .null, .null])) :: ([(q1, .inl (cy 0, 8, .inl (fun _ => 0))), (q2, .inl (cy 0, 8, .inl (fun _ => 0))), (q3, .inl (cy 0, 64, .inl (fun _ => 0))), (q4, .inl (cy 0, 8, .inl (fun _ => 0))), (q5, .inl (cy 0, 10, .inl (fun _ => 0))), (q6, .inl (cy 0, 10, .inl (fun _ => 0))), (q7, .inl (cy 0, 10, .inl (fun _ => 0))), (q8, .inl (cy 0, 10, .inl (fun _ => 0))), (q9, .inl (cy 0, 10, .inl (fun _ => 0))), (q10, .inl (cy 0, 10, .inl (fun _ => 0))), (q11, .inl (cy 0, 10, .inl (fun _ => 0)))] ++ X) : va_W) from rfl) ?_
  refine x_aload_n (i := 0) C dX4_init_92 rfl rfl ?_
  refine x_bipush (v := nI 10) C dX4_init_93 (by decide) ?_
  refine x_newaB C (by decide +kernel) (by decide) (nI_clamp (by omega)) (by omega) ⟨Nat.le_of_ble_eq_true rfl, Nat.le_of_ble_eq_true rfl⟩ dX4_init_95 (fun q12 => ?_)
  refine x_putOF C tyX4 tyX4_ok nmX4 rfl 14 (by decide) hin (by decide +kernel) rfl rfl hnm rfl (show tyX4 14 = .array .int from rfl) rfl rfl (Nat.le_of_ble_eq_true rfl) dX4_init_97 ?_
  refine x_ws (show _ = ((q, .inr (4, [.int 0, .int 0, .ref q1, .ref q2, .ref q3, .ref q4, .int 0, .ref q5, .ref q6, .ref q7, .ref q8, .ref q9, .ref q10, .ref q11, .ref q12, .int 0, .null, .null, .null, .null, .null, .null, .null, .null, .null, .null, .null])) :: ([(q1, .inl (cy 0, 8, .inl (fun _ => 0))), (q2, .inl (cy 0, 8, .inl (fun _ => 0))), (q3, .inl (cy 0, 64, .inl (fun _ => 0))), (q4, .inl (cy 0, 8, .inl (fun _ => 0))), (q5, .inl (cy 0, 10, .inl (fun _ => 0))), (q6, .inl (cy 0, 10, .inl (fun _ => 0))), (q7, .inl (cy 0, 10, .inl (fun _ => 0))), (q8, .inl (cy 0, 10, .inl (fun _ => 0))), (q9, .inl (cy 0, 10, .inl (fun _ => 0))), (q10, .inl (cy 0, 10, .inl (fun _ => 0))), (q11, .inl (cy 0, 10, .inl (fun _ => 0))), (q12, .inl (cy 0, 10, .inl (fun _ => 0)))] ++ X) : va_W) from rfl) ?_
  refine x_aload_n (i := 0) C dX4_init_100 rfl rfl ?_
  refine x_bipush (v := nI 6) C dX4_init_101 (by decide) ?_
  refine x_newaB C (by decide +kernel) (by decide) (nI_clamp (by omega)) (by omega) ⟨Nat.le_of_ble_eq_true rfl, Nat.le_of_ble_eq_true rfl⟩ dX4_init_103 (fun q13 => ?_)
  refine x_putOF C tyX4 tyX4_ok nmX4 rfl 16 (by decide) hin (by decide +kernel) rfl rfl hnm rfl (show tyX4 16 = .array .int from rfl) rfl rfl (Nat.le_of_ble_eq_true rfl) dX4_init_105 ?_
  refine x_ws (show _ = ((q, .inr (4, [.int 0, .int 0, .ref q1, .ref q2, .ref q3, .ref q4, .int 0, .ref q5, .ref q6, .ref q7, .ref q8, .ref q9, .ref q10, .ref q11, .ref q12, .int 0, .ref q13, .null, .null, .null, .null, .null, .null, .null, .null, .null, .null])) :: ([(q1, .inl (cy 0, 8, .inl (fun _ => 0))), (q2, .inl (cy 0, 8, .inl (fun _ => 0))), (q3, .inl (cy 0, 64, .inl (fun _ => 0))), (q4, .inl (cy 0, 8, .inl (fun _ => 0))), (q5, .inl (cy 0, 10, .inl (fun _ => 0))), (q6, .inl (cy 0, 10, .inl (fun _ => 0))), (q7, .inl (cy 0, 10, .inl (fun _ => 0))), (q8, .inl (cy 0, 10, .inl (fun _ => 0))), (q9, .inl (cy 0, 10, .inl (fun _ => 0))), (q10, .inl (cy 0, 10, .inl (fun _ => 0))), (q11, .inl (cy 0, 10, .inl (fun _ => 0))), (q12, .inl (cy 0, 10, .inl (fun _ => 0))), (q13, .inl (cy 0, 6, .inl (fun _ => 0)))] ++ X) : va_W) from rfl) ?_
  refine x_aload_n (i := 0) C dX4_init_108 rfl rfl ?_
  refine x_bipush (v := nI 6) C dX4_init_109 (by decide) ?_
  refine x_newaB C (by decide +kernel) (by decide) (nI_clamp (by omega)) (by omega) ⟨Nat.le_of_ble_eq_true rfl, Nat.le_of_ble_eq_true rfl⟩ dX4_init_111 (fun q14 => ?_)
  refine x_putOF C tyX4 tyX4_ok nmX4 rfl 17 (by decide) hin (by decide +kernel) rfl rfl hnm rfl (show tyX4 17 = .array .int from rfl) rfl rfl (Nat.le_of_ble_eq_true rfl) dX4_init_113 ?_
  refine x_ws (show _ = ((q, .inr (4, [.int 0, .int 0, .ref q1, .ref q2, .ref q3, .ref q4, .int 0, .ref q5, .ref q6, .ref q7, .ref q8, .ref q9, .ref q10, .ref q11, .ref q12, .int 0, .ref q13, .ref q14, .null, .null, .null, .null, .null, .null, .null, .null, .null])) :: ([(q1, .inl (cy 0, 8, .inl (fun _ => 0))), (q2, .inl (cy 0, 8, .inl (fun _ => 0))), (q3, .inl (cy 0, 64, .inl (fun _ => 0))), (q4, .inl (cy 0, 8, .inl (fun _ => 0))), (q5, .inl (cy 0, 10, .inl (fun _ => 0))), (q6, .inl (cy 0, 10, .inl (fun _ => 0))), (q7, .inl (cy 0, 10, .inl (fun _ => 0))), (q8, .inl (cy 0, 10, .inl (fun _ => 0))), (q9, .inl (cy 0, 10, .inl (fun _ => 0))), (q10, .inl (cy 0, 10, .inl (fun _ => 0))), (q11, .inl (cy 0, 10, .inl (fun _ => 0))), (q12, .inl (cy 0, 10, .inl (fun _ => 0))), (q13, .inl (cy 0, 6, .inl (fun _ => 0))), (q14, .inl (cy 0, 6, .inl (fun _ => 0)))] ++ X) : va_W) from rfl) ?_
  refine x_aload_n (i := 0) C dX4_init_116 rfl rfl ?_
  refine x_bipush (v := nI 6) C dX4_init_117 (by decide) ?_
  refine x_newaB C (by decide +kernel) (by decide) (nI_clamp (by omega)) (by omega) ⟨Nat.le_of_ble_eq_true rfl, Nat.le_of_ble_eq_true rfl⟩ dX4_init_119 (fun q15 => ?_)
  refine x_putOF C tyX4 tyX4_ok nmX4 rfl 18 (by decide) hin (by decide +kernel) rfl rfl hnm rfl (show tyX4 18 = .array .int from rfl) rfl rfl (Nat.le_of_ble_eq_true rfl) dX4_init_121 ?_
  refine x_ws (show _ = ((q, .inr (4, [.int 0, .int 0, .ref q1, .ref q2, .ref q3, .ref q4, .int 0, .ref q5, .ref q6, .ref q7, .ref q8, .ref q9, .ref q10, .ref q11, .ref q12, .int 0, .ref q13, .ref q14, .ref q15, .null, .null, .null, .null, .null, .null, .null, .null])) :: ([(q1, .inl (cy 0, 8, .inl (fun _ => 0))), (q2, .inl (cy 0, 8, .inl (fun _ => 0))), (q3, .inl (cy 0, 64, .inl (fun _ => 0))), (q4, .inl (cy 0, 8, .inl (fun _ => 0))), (q5, .inl (cy 0, 10, .inl (fun _ => 0))), (q6, .inl (cy 0, 10, .inl (fun _ => 0))), (q7, .inl (cy 0, 10, .inl (fun _ => 0))), (q8, .inl (cy 0, 10, .inl (fun _ => 0))), (q9, .inl (cy 0, 10, .inl (fun _ => 0))), (q10, .inl (cy 0, 10, .inl (fun _ => 0))), (q11, .inl (cy 0, 10, .inl (fun _ => 0))), (q12, .inl (cy 0, 10, .inl (fun _ => 0))), (q13, .inl (cy 0, 6, .inl (fun _ => 0))), (q14, .inl (cy 0, 6, .inl (fun _ => 0))), (q15, .inl (cy 0, 6, .inl (fun _ => 0)))] ++ X) : va_W) from rfl) ?_
  refine x_aload_n (i := 0) C dX4_init_124 rfl rfl ?_
  refine x_bipush (v := nI 6) C dX4_init_125 (by decide) ?_
  refine x_newaBz C (by decide +kernel) (by decide) (nI_clamp (by omega)) (by omega) ⟨Nat.le_of_ble_eq_true rfl, Nat.le_of_ble_eq_true rfl⟩ dX4_init_127 (fun q16 => ?_)
  refine x_putOF C tyX4 tyX4_ok nmX4 rfl 19 (by decide) hin (by decide +kernel) rfl rfl hnm rfl (show tyX4 19 = .array .boolean from rfl) rfl rfl (Nat.le_of_ble_eq_true rfl) dX4_init_129 ?_
  refine x_ws (show _ = ((q, .inr (4, [.int 0, .int 0, .ref q1, .ref q2, .ref q3, .ref q4, .int 0, .ref q5, .ref q6, .ref q7, .ref q8, .ref q9, .ref q10, .ref q11, .ref q12, .int 0, .ref q13, .ref q14, .ref q15, .ref q16, .null, .null, .null, .null, .null, .null, .null])) :: ([(q1, .inl (cy 0, 8, .inl (fun _ => 0))), (q2, .inl (cy 0, 8, .inl (fun _ => 0))), (q3, .inl (cy 0, 64, .inl (fun _ => 0))), (q4, .inl (cy 0, 8, .inl (fun _ => 0))), (q5, .inl (cy 0, 10, .inl (fun _ => 0))), (q6, .inl (cy 0, 10, .inl (fun _ => 0))), (q7, .inl (cy 0, 10, .inl (fun _ => 0))), (q8, .inl (cy 0, 10, .inl (fun _ => 0))), (q9, .inl (cy 0, 10, .inl (fun _ => 0))), (q10, .inl (cy 0, 10, .inl (fun _ => 0))), (q11, .inl (cy 0, 10, .inl (fun _ => 0))), (q12, .inl (cy 0, 10, .inl (fun _ => 0))), (q13, .inl (cy 0, 6, .inl (fun _ => 0))), (q14, .inl (cy 0, 6, .inl (fun _ => 0))), (q15, .inl (cy 0, 6, .inl (fun _ => 0))), (q16, .inl (cy 4, 6, .inl (fun _ => 0)))] ++ X) : va_W) from rfl) ?_
  refine x_aload_n (i := 0) C dX4_init_132 rfl rfl ?_
  refine x_bipush (v := nI 6) C dX4_init_133 (by decide) ?_
  refine x_newaB C (by decide +kernel) (by decide) (nI_clamp (by omega)) (by omega) ⟨Nat.le_of_ble_eq_true rfl, Nat.le_of_ble_eq_true rfl⟩ dX4_init_135 (fun q17 => ?_)
  refine x_putOF C tyX4 tyX4_ok nmX4 rfl 20 (by decide) hin (by decide +kernel) rfl rfl hnm rfl (show tyX4 20 = .array .int from rfl) rfl rfl (Nat.le_of_ble_eq_true rfl) dX4_init_137 ?_
  refine x_ws (show _ = ((q, .inr (4, [.int 0, .int 0, .ref q1, .ref q2, .ref q3, .ref q4, .int 0, .ref q5, .ref q6, .ref q7, .ref q8, .ref q9, .ref q10, .ref q11, .ref q12, .int 0, .ref q13, .ref q14, .ref q15, .ref q16, .ref q17, .null, .null, .null, .null, .null, .null])) :: ([(q1, .inl (cy 0, 8, .inl (fun _ => 0))), (q2, .inl (cy 0, 8, .inl (fun _ => 0))), (q3, .inl (cy 0, 64, .inl (fun _ => 0))), (q4, .inl (cy 0, 8, .inl (fun _ => 0))), (q5, .inl (cy 0, 10, .inl (fun _ => 0))), (q6, .inl (cy 0, 10, .inl (fun _ => 0))), (q7, .inl (cy 0, 10, .inl (fun _ => 0))), (q8, .inl (cy 0, 10, .inl (fun _ => 0))), (q9, .inl (cy 0, 10, .inl (fun _ => 0))), (q10, .inl (cy 0, 10, .inl (fun _ => 0))), (q11, .inl (cy 0, 10, .inl (fun _ => 0))), (q12, .inl (cy 0, 10, .inl (fun _ => 0))), (q13, .inl (cy 0, 6, .inl (fun _ => 0))), (q14, .inl (cy 0, 6, .inl (fun _ => 0))), (q15, .inl (cy 0, 6, .inl (fun _ => 0))), (q16, .inl (cy 4, 6, .inl (fun _ => 0))), (q17, .inl (cy 0, 6, .inl (fun _ => 0)))] ++ X) : va_W) from rfl) ?_
  refine x_aload_n (i := 0) C dX4_init_140 rfl rfl ?_
  refine x_bipush (v := nI 18) C dX4_init_141 (by decide) ?_
  refine x_newaB C (by decide +kernel) (by decide) (nI_clamp (by omega)) (by omega) ⟨Nat.le_of_ble_eq_true rfl, Nat.le_of_ble_eq_true rfl⟩ dX4_init_143 (fun q18 => ?_)
  refine x_putOF C tyX4 tyX4_ok nmX4 rfl 21 (by decide) hin (by decide +kernel) rfl rfl hnm rfl (show tyX4 21 = .array .int from rfl) rfl rfl (Nat.le_of_ble_eq_true rfl) dX4_init_145 ?_
  refine x_ws (show _ = ((q, .inr (4, [.int 0, .int 0, .ref q1, .ref q2, .ref q3, .ref q4, .int 0, .ref q5, .ref q6, .ref q7, .ref q8, .ref q9, .ref q10, .ref q11, .ref q12, .int 0, .ref q13, .ref q14, .ref q15, .ref q16, .ref q17, .ref q18, .null, .null, .null, .null, .null])) :: ([(q1, .inl (cy 0, 8, .inl (fun _ => 0))), (q2, .inl (cy 0, 8, .inl (fun _ => 0))), (q3, .inl (cy 0, 64, .inl (fun _ => 0))), (q4, .inl (cy 0, 8, .inl (fun _ => 0))), (q5, .inl (cy 0, 10, .inl (fun _ => 0))), (q6, .inl (cy 0, 10, .inl (fun _ => 0))), (q7, .inl (cy 0, 10, .inl (fun _ => 0))), (q8, .inl (cy 0, 10, .inl (fun _ => 0))), (q9, .inl (cy 0, 10, .inl (fun _ => 0))), (q10, .inl (cy 0, 10, .inl (fun _ => 0))), (q11, .inl (cy 0, 10, .inl (fun _ => 0))), (q12, .inl (cy 0, 10, .inl (fun _ => 0))), (q13, .inl (cy 0, 6, .inl (fun _ => 0))), (q14, .inl (cy 0, 6, .inl (fun _ => 0))), (q15, .inl (cy 0, 6, .inl (fun _ => 0))), (q16, .inl (cy 4, 6, .inl (fun _ => 0))), (q17, .inl (cy 0, 6, .inl (fun _ => 0))), (q18, .inl (cy 0, 18, .inl (fun _ => 0)))] ++ X) : va_W) from rfl) ?_
  refine x_aload_n (i := 0) C dX4_init_148 rfl rfl ?_
  refine x_bipush (v := nI 6) C dX4_init_149 (by decide) ?_
  refine x_newaB C (by decide +kernel) (by decide) (nI_clamp (by omega)) (by omega) ⟨Nat.le_of_ble_eq_true rfl, Nat.le_of_ble_eq_true rfl⟩ dX4_init_151 (fun q19 => ?_)
  refine x_putOF C tyX4 tyX4_ok nmX4 rfl 22 (by decide) hin (by decide +kernel) rfl rfl hnm rfl (show tyX4 22 = .array .int from rfl) rfl rfl (Nat.le_of_ble_eq_true rfl) dX4_init_153 ?_
  refine x_ws (show _ = ((q, .inr (4, [.int 0, .int 0, .ref q1, .ref q2, .ref q3, .ref q4, .int 0, .ref q5, .ref q6, .ref q7, .ref q8, .ref q9, .ref q10, .ref q11, .ref q12, .int 0, .ref q13, .ref q14, .ref q15, .ref q16, .ref q17, .ref q18, .ref q19, .null, .null, .null, .null])) :: ([(q1, .inl (cy 0, 8, .inl (fun _ => 0))), (q2, .inl (cy 0, 8, .inl (fun _ => 0))), (q3, .inl (cy 0, 64, .inl (fun _ => 0))), (q4, .inl (cy 0, 8, .inl (fun _ => 0))), (q5, .inl (cy 0, 10, .inl (fun _ => 0))), (q6, .inl (cy 0, 10, .inl (fun _ => 0))), (q7, .inl (cy 0, 10, .inl (fun _ => 0))), (q8, .inl (cy 0, 10, .inl (fun _ => 0))), (q9, .inl (cy 0, 10, .inl (fun _ => 0))), (q10, .inl (cy 0, 10, .inl (fun _ => 0))), (q11, .inl (cy 0, 10, .inl (fun _ => 0))), (q12, .inl (cy 0, 10, .inl (fun _ => 0))), (q13, .inl (cy 0, 6, .inl (fun _ => 0))), (q14, .inl (cy 0, 6, .inl (fun _ => 0))), (q15, .inl (cy 0, 6, .inl (fun _ => 0))), (q16, .inl (cy 4, 6, .inl (fun _ => 0))), (q17, .inl (cy 0, 6, .inl (fun _ => 0))), (q18, .inl (cy 0, 18, .inl (fun _ => 0))), (q19, .inl (cy 0, 6, .inl (fun _ => 0)))] ++ X) : va_W) from rfl) ?_
  refine x_aload_n (i := 0) C dX4_init_156 rfl rfl ?_
  refine x_bipush (v := nI 6) C dX4_init_157 (by decide) ?_
  refine x_newaB C (by decide +kernel) (by decide) (nI_clamp (by omega)) (by omega) ⟨Nat.le_of_ble_eq_true rfl, Nat.le_of_ble_eq_true rfl⟩ dX4_init_159 (fun q20 => ?_)
  refine x_putOF C tyX4 tyX4_ok nmX4 rfl 23 (by decide) hin (by decide +kernel) rfl rfl hnm rfl (show tyX4 23 = .array .int from rfl) rfl rfl (Nat.le_of_ble_eq_true rfl) dX4_init_161 ?_
  refine x_ws (show _ = ((q, .inr (4, [.int 0, .int 0, .ref q1, .ref q2, .ref q3, .ref q4, .int 0, .ref q5, .ref q6, .ref q7, .ref q8, .ref q9, .ref q10, .ref q11, .ref q12, .int 0, .ref q13, .ref q14, .ref q15, .ref q16, .ref q17, .ref q18, .ref q19, .ref q20, .null, .null, .null])) :: ([(q1, .inl (cy 0, 8, .inl (fun _ => 0))), (q2, .inl (cy 0, 8, .inl (fun _ => 0))), (q3, .inl (cy 0, 64, .inl (fun _ => 0))), (q4, .inl (cy 0, 8, .inl (fun _ => 0))), (q5, .inl (cy 0, 10, .inl (fun _ => 0))), (q6, .inl (cy 0, 10, .inl (fun _ => 0))), (q7, .inl (cy 0, 10, .inl (fun _ => 0))), (q8, .inl (cy 0, 10, .inl (fun _ => 0))), (q9, .inl (cy 0, 10, .inl (fun _ => 0))), (q10, .inl (cy 0, 10, .inl (fun _ => 0))), (q11, .inl (cy 0, 10, .inl (fun _ => 0))), (q12, .inl (cy 0, 10, .inl (fun _ => 0))), (q13, .inl (cy 0, 6, .inl (fun _ => 0))), (q14, .inl (cy 0, 6, .inl (fun _ => 0))), (q15, .inl (cy 0, 6, .inl (fun _ => 0))), (q16, .inl (cy 4, 6, .inl (fun _ => 0))), (q17, .inl (cy 0, 6, .inl (fun _ => 0))), (q18, .inl (cy 0, 18, .inl (fun _ => 0))), (q19, .inl (cy 0, 6, .inl (fun _ => 0))), (q20, .inl (cy 0, 6, .inl (fun _ => 0)))] ++ X) : va_W) from rfl) ?_
  refine x_aload_n (i := 0) C dX4_init_164 rfl rfl ?_
  refine x_bipush (v := nI 6) C dX4_init_165 (by decide) ?_
  refine x_newaB C (by decide +kernel) (by decide) (nI_clamp (by omega)) (by omega) ⟨Nat.le_of_ble_eq_true rfl, Nat.le_of_ble_eq_true rfl⟩ dX4_init_167 (fun q21 => ?_)
  refine x_putOF C tyX4 tyX4_ok nmX4 rfl 24 (by decide) hin (by decide +kernel) rfl rfl hnm rfl (show tyX4 24 = .array .int from rfl) rfl rfl (Nat.le_of_ble_eq_true rfl) dX4_init_169 ?_
  refine x_ws (show _ = ((q, .inr (4, [.int 0, .int 0, .ref q1, .ref q2, .ref q3, .ref q4, .int 0, .ref q5, .ref q6, .ref q7, .ref q8, .ref q9, .ref q10, .ref q11, .ref q12, .int 0, .ref q13, .ref q14, .ref q15, .ref q16, .ref q17, .ref q18, .ref q19, .ref q20, .ref q21, .null, .null])) :: ([(q1, .inl (cy 0, 8, .inl (fun _ => 0))), (q2, .inl (cy 0, 8, .inl (fun _ => 0))), (q3, .inl (cy 0, 64, .inl (fun _ => 0))), (q4, .inl (cy 0, 8, .inl (fun _ => 0))), (q5, .inl (cy 0, 10, .inl (fun _ => 0))), (q6, .inl (cy 0, 10, .inl (fun _ => 0))), (q7, .inl (cy 0, 10, .inl (fun _ => 0))), (q8, .inl (cy 0, 10, .inl (fun _ => 0))), (q9, .inl (cy 0, 10, .inl (fun _ => 0))), (q10, .inl (cy 0, 10, .inl (fun _ => 0))), (q11, .inl (cy 0, 10, .inl (fun _ => 0))), (q12, .inl (cy 0, 10, .inl (fun _ => 0))), (q13, .inl (cy 0, 6, .inl (fun _ => 0))), (q14, .inl (cy 0, 6, .inl (fun _ => 0))), (q15, .inl (cy 0, 6, .inl (fun _ => 0))), (q16, .inl (cy 4, 6, .inl (fun _ => 0))), (q17, .inl (cy 0, 6, .inl (fun _ => 0))), (q18, .inl (cy 0, 18, .inl (fun _ => 0))), (q19, .inl (cy 0, 6, .inl (fun _ => 0))), (q20, .inl (cy 0, 6, .inl (fun _ => 0))), (q21, .inl (cy 0, 6, .inl (fun _ => 0)))] ++ X) : va_W) from rfl) ?_
  refine x_aload_n (i := 0) C dX4_init_172 rfl rfl ?_
  refine x_bipush (v := nI 6) C dX4_init_173 (by decide) ?_
  refine x_newaB C (by decide +kernel) (by decide) (nI_clamp (by omega)) (by omega) ⟨Nat.le_of_ble_eq_true rfl, Nat.le_of_ble_eq_true rfl⟩ dX4_init_175 (fun q22 => ?_)
  refine x_putOF C tyX4 tyX4_ok nmX4 rfl 25 (by decide) hin (by decide +kernel) rfl rfl hnm rfl (show tyX4 25 = .array .int from rfl) rfl rfl (Nat.le_of_ble_eq_true rfl) dX4_init_177 ?_
  refine x_ws (show _ = ((q, .inr (4, [.int 0, .int 0, .ref q1, .ref q2, .ref q3, .ref q4, .int 0, .ref q5, .ref q6, .ref q7, .ref q8, .ref q9, .ref q10, .ref q11, .ref q12, .int 0, .ref q13, .ref q14, .ref q15, .ref q16, .ref q17, .ref q18, .ref q19, .ref q20, .ref q21, .ref q22, .null])) :: ([(q1, .inl (cy 0, 8, .inl (fun _ => 0))), (q2, .inl (cy 0, 8, .inl (fun _ => 0))), (q3, .inl (cy 0, 64, .inl (fun _ => 0))), (q4, .inl (cy 0, 8, .inl (fun _ => 0))), (q5, .inl (cy 0, 10, .inl (fun _ => 0))), (q6, .inl (cy 0, 10, .inl (fun _ => 0))), (q7, .inl (cy 0, 10, .inl (fun _ => 0))), (q8, .inl (cy 0, 10, .inl (fun _ => 0))), (q9, .inl (cy 0, 10, .inl (fun _ => 0))), (q10, .inl (cy 0, 10, .inl (fun _ => 0))), (q11, .inl (cy 0, 10, .inl (fun _ => 0))), (q12, .inl (cy 0, 10, .inl (fun _ => 0))), (q13, .inl (cy 0, 6, .inl (fun _ => 0))), (q14, .inl (cy 0, 6, .inl (fun _ => 0))), (q15, .inl (cy 0, 6, .inl (fun _ => 0))), (q16, .inl (cy 4, 6, .inl (fun _ => 0))), (q17, .inl (cy 0, 6, .inl (fun _ => 0))), (q18, .inl (cy 0, 18, .inl (fun _ => 0))), (q19, .inl (cy 0, 6, .inl (fun _ => 0))), (q20, .inl (cy 0, 6, .inl (fun _ => 0))), (q21, .inl (cy 0, 6, .inl (fun _ => 0))), (q22, .inl (cy 0, 6, .inl (fun _ => 0)))] ++ X) : va_W) from rfl) ?_
  refine x_aload_n (i := 0) C dX4_init_180 rfl rfl ?_
  refine x_bipush (v := nI 6) C dX4_init_181 (by decide) ?_
  refine x_newaB C (by decide +kernel) (by decide) (nI_clamp (by omega)) (by omega) ⟨Nat.le_of_ble_eq_true rfl, Nat.le_of_ble_eq_true rfl⟩ dX4_init_183 (fun q23 => ?_)
  refine x_putOF C tyX4 tyX4_ok nmX4 rfl 26 (by decide) hin (by decide +kernel) rfl rfl hnm rfl (show tyX4 26 = .array .int from rfl) rfl rfl (Nat.le_of_ble_eq_true rfl) dX4_init_185 ?_
  refine x_ws (show _ = ((q, .inr (4, [.int 0, .int 0, .ref q1, .ref q2, .ref q3, .ref q4, .int 0, .ref q5, .ref q6, .ref q7, .ref q8, .ref q9, .ref q10, .ref q11, .ref q12, .int 0, .ref q13, .ref q14, .ref q15, .ref q16, .ref q17, .ref q18, .ref q19, .ref q20, .ref q21, .ref q22, .ref q23])) :: ([(q1, .inl (cy 0, 8, .inl (fun _ => 0))), (q2, .inl (cy 0, 8, .inl (fun _ => 0))), (q3, .inl (cy 0, 64, .inl (fun _ => 0))), (q4, .inl (cy 0, 8, .inl (fun _ => 0))), (q5, .inl (cy 0, 10, .inl (fun _ => 0))), (q6, .inl (cy 0, 10, .inl (fun _ => 0))), (q7, .inl (cy 0, 10, .inl (fun _ => 0))), (q8, .inl (cy 0, 10, .inl (fun _ => 0))), (q9, .inl (cy 0, 10, .inl (fun _ => 0))), (q10, .inl (cy 0, 10, .inl (fun _ => 0))), (q11, .inl (cy 0, 10, .inl (fun _ => 0))), (q12, .inl (cy 0, 10, .inl (fun _ => 0))), (q13, .inl (cy 0, 6, .inl (fun _ => 0))), (q14, .inl (cy 0, 6, .inl (fun _ => 0))), (q15, .inl (cy 0, 6, .inl (fun _ => 0))), (q16, .inl (cy 4, 6, .inl (fun _ => 0))), (q17, .inl (cy 0, 6, .inl (fun _ => 0))), (q18, .inl (cy 0, 18, .inl (fun _ => 0))), (q19, .inl (cy 0, 6, .inl (fun _ => 0))), (q20, .inl (cy 0, 6, .inl (fun _ => 0))), (q21, .inl (cy 0, 6, .inl (fun _ => 0))), (q22, .inl (cy 0, 6, .inl (fun _ => 0))), (q23, .inl (cy 0, 6, .inl (fun _ => 0)))] ++ X) : va_W) from rfl) ?_
  generalize hb : (fun p => (([q, q1, q2, q3, q4, q5, q6, q7, q8, q9, q10, q11, q12, q13, q14, q15, q16, q17, q18, q19, q20, q21, q22, q23] : List Nat).getD p 0)) = b
  have hw : ((q, .inr (4, [.int 0, .int 0, .ref q1, .ref q2, .ref q3, .ref q4, .int 0, .ref q5, .ref q6, .ref q7, .ref q8, .ref q9, .ref q10, .ref q11, .ref q12, .int 0, .ref q13, .ref q14, .ref q15, .ref q16, .ref q17, .ref q18, .ref q19, .ref q20, .ref q21, .ref q22, .ref q23])) :: ([(q1, .inl (cy 0, 8, .inl (fun _ => 0))), (q2, .inl (cy 0, 8, .inl (fun _ => 0))), (q3, .inl (cy 0, 64, .inl (fun _ => 0))), (q4, .inl (cy 0, 8, .inl (fun _ => 0))), (q5, .inl (cy 0, 10, .inl (fun _ => 0))), (q6, .inl (cy 0, 10, .inl (fun _ => 0))), (q7, .inl (cy 0, 10, .inl (fun _ => 0))), (q8, .inl (cy 0, 10, .inl (fun _ => 0))), (q9, .inl (cy 0, 10, .inl (fun _ => 0))), (q10, .inl (cy 0, 10, .inl (fun _ => 0))), (q11, .inl (cy 0, 10, .inl (fun _ => 0))), (q12, .inl (cy 0, 10, .inl (fun _ => 0))), (q13, .inl (cy 0, 6, .inl (fun _ => 0))), (q14, .inl (cy 0, 6, .inl (fun _ => 0))), (q15, .inl (cy 0, 6, .inl (fun _ => 0))), (q16, .inl (cy 4, 6, .inl (fun _ => 0))), (q17, .inl (cy 0, 6, .inl (fun _ => 0))), (q18, .inl (cy 0, 18, .inl (fun _ => 0))), (q19, .inl (cy 0, 6, .inl (fun _ => 0))), (q20, .inl (cy 0, 6, .inl (fun _ => 0))), (q21, .inl (cy 0, 6, .inl (fun _ => 0))), (q22, .inl (cy 0, 6, .inl (fun _ => 0))), (q23, .inl (cy 0, 6, .inl (fun _ => 0)))] ++ X) : va_W) = mW cy b X (mA 0) := by subst hb; rfl
  have hb0 : b 0 = q := by subst hb; rfl
  refine x_ws hw ?_
  clear hw
  subst hb0
  refine x_iconst (v := 0) C dX4_init_188 (by decide) ?_
  refine x_istore_n (i := 1) C dX4_init_189 rfl (by decide) ?_
  refine x_subm (lv' := [(1, .int (nI 0)), (0, .ref (b 0))]) ?_ rfl
  refine x_count (N := 8) (fun i => xA p l e rmX4_init s m _ below meth c D A 2 _ _ _ 190 [(1, .int (nI i)), (0, .ref (b 0))] [] (mW cy b X (mA i))) ?_ ?_
  · refine x_iload_n (i := 1) C dX4_init_190 rfl rfl ?_
    refine x_bipush (v := 8) C dX4_init_191 (by decide) ?_
    refine x_icmp_ge C 217 dX4_init_193 (by decide) (fun c_5 => ?_) (fun c_5 => absurd le8 c_5)
    refine x_iconst (v := 0) C dX4_init_217 (by decide) ?_
    refine x_istore_n (i := 1) C dX4_init_218 rfl (by decide) ?_
    refine x_subm (lv' := [(1, .int (nI 0)), (0, .ref (b 0))]) ?_ rfl
    refine x_count (N := 64) (fun i => xA p l e rmX4_init s m _ below meth c D A 2 _ _ _ 219 [(1, .int (nI i)), (0, .ref (b 0))] [] (mW cy b X (mB i))) ?_ ?_
    · refine x_iload_n (i := 1) C dX4_init_219 rfl rfl ?_
      refine x_bipush (v := nI 64) C dX4_init_220 (by decide) ?_
      refine x_icmp_ge C 238 dX4_init_222 (by decide) (fun c_5 => ?_) (fun c_5 => absurd (by decide : nI 64 ≤ nI 64) c_5)
      refine x_ws (show mW cy b X (mB 64) = mW cy b X m0 by rw [mB_m0]) ?_
      exact x_vret (σ := Nat → Nat) (Wf := fun (b : Nat → Nat) => mW cy b X m0) (u := b) C dX4_init_238 ⟨Nat.le_of_ble_eq_true rfl, Nat.le_of_ble_eq_true rfl⟩ rfl
    · intro i hi kk
      refine x_iload_n (i := 1) C dX4_init_219 rfl rfl ?_
      refine x_bipush (v := nI 64) C dX4_init_220 (by decide) ?_
      refine x_icmp_ge C 238 dX4_init_222 (by decide) (fun c_5 => absurd c_5 (nI_ge hi (by decide))) (fun c_5 => ?_)
      refine x_aload_n (i := 0) C dX4_init_225 rfl rfl ?_
      refine x_getMr C 4 3 (fun _ _ => rfl) (by decide) hin (by decide +kernel) dX4_init_226 ?_
      refine x_iload_n (i := 1) C dX4_init_229 rfl rfl ?_
      refine x_iconst (v := -1) C dX4_init_230 (by decide) ?_
      refine x_iastM C (by decide) (show vp_in (nI i) 64 from vp_in_nI hi (by decide)) (nI_clamp (by omega)) dX4_init_231 ?_
      refine x_iinc (i := 1) (v := nI (i + 1)) C dX4_init_232 rfl (inc1 i) ?_
      refine x_goto C 219 dX4_init_235 (by decide) ?_
      exact x_subm kk rfl
  · intro i hi kk
    refine x_iload_n (i := 1) C dX4_init_190 rfl rfl ?_
    refine x_bipush (v := 8) C dX4_init_191 (by decide) ?_
    refine x_icmp_ge C 217 dX4_init_193 (by decide) (fun c_5 => absurd c_5 (lt8 hi)) (fun c_5 => ?_)
    refine x_aload_n (i := 0) C dX4_init_196 rfl rfl ?_
    refine x_getMr C 2 1 (fun _ _ => rfl) (by decide) hin (by decide +kernel) dX4_init_197 ?_
    refine x_iload_n (i := 1) C dX4_init_200 rfl rfl ?_
    refine x_bipush (v := 15) C dX4_init_201 (by decide) ?_
    refine x_iastM C (by decide) (show vp_in (nI i) 8 from vp_in_nI hi (by decide)) (nI_clamp (by omega)) dX4_init_203 ?_
    refine x_aload_n (i := 0) C dX4_init_204 rfl rfl ?_
    refine x_getMr C 3 2 (fun _ _ => rfl) (by decide) hin (by decide +kernel) dX4_init_205 ?_
    refine x_iload_n (i := 1) C dX4_init_208 rfl rfl ?_
    refine x_iconst (v := -1) C dX4_init_209 (by decide) ?_
    refine x_iastM C (by decide) (show vp_in (nI i) 8 from vp_in_nI hi (by decide)) (nI_clamp (by omega)) dX4_init_210 ?_
    refine x_iinc (i := 1) (v := nI (i + 1)) C dX4_init_211 rfl (inc1 i) ?_
    refine x_goto C 190 dX4_init_214 (by decide) ?_
    exact x_subm kk rfl
/-! ===== END minit ===== -/
