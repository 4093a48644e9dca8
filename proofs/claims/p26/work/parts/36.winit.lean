/-! ===== BEGIN winit: the constructor of Ways ===== -/
theorem x_refs {p : Program} {l : Launch} {e : Env} {R : Room} {s : State} {m : MethodId} {args : Array Value} {below : List Frame} {meth : Method} {c : Code} {cells slots : Nat} {Q : State → Prop} {nL : Nat} {D : va_G} {A : Nat → Prop} {pc : Nat} {lv : List (Nat × Value)} {st : List Value} {aL bL : va_W} {q n : Nat} {cA : ClassId} {f g : Nat → Option Nat} (hfg : ∀ j, j < n → f j = g j)
    (kk : xA p l e R s m args below meth c D A nL cells slots Q pc lv st ((aL ++ [(q, .inl (cA, n, .inr (.inr (.inr (.inr g)))))]) ++ bL)) : xA p l e R s m args below meth c D A nL cells slots Q pc lv st ((aL ++ [(q, .inl (cA, n, .inr (.inr (.inr (.inr f)))))]) ++ bL) :=
  fun H locs ls hP hD hS hl => kk H locs ls (va_P.refs hfg hP) (va_D.fst (by simp only [List.map_append, List.map_cons, List.map_nil]) hD) hS hl
def wD (i : Nat) : XV := fun q => if q = 5 ∨ (25 ≤ q ∧ q < 25 + i) then fillF (fun _ => 0) (-1) 8 else fun _ => 0
theorem wD_8 : wD 8 = w0 := by
  funext q k
  unfold wD w0
  by_cases h : q = 5 ∨ (25 ≤ q ∧ q < 33)
  · rw [if_pos h, fillF_at]
    by_cases hk : k < 8
    · rw [if_pos hk, if_pos ⟨h, hk⟩]
    · rw [if_neg hk, if_neg (fun z => hk z.2)]
  · rw [if_neg h, if_neg (fun z => h z.1)]
theorem wD_s (i : Nat) : wD (i + 1) (25 + i) = fillF (wD i (25 + i)) (-1) 8 := by
  unfold wD
  rw [if_pos (by omega), if_neg (by omega)]
theorem wD_o (i q : Nat) (h : q ≠ 25 + i) : wD (i + 1) q = wD i q := by
  unfold wD
  by_cases h2 : q = 5 ∨ (25 ≤ q ∧ q < 25 + i)
  · rw [if_pos h2, if_pos (by omega)]
  · rw [if_neg h2, if_neg (by omega)]
def rmX2_init : Room := { frames := 4, cells := 20, slots := 160, locals := 110 }
set_option maxHeartbeats 8000000 in
set_option maxRecDepth 100000 in
theorem k_X2_init (l : Launch) (D : va_G) (cy : Nat → ClassId) (A : Nat → Prop) (X : va_W) (q : Nat) : Met l yX2_init wsX2_init rmX2_init (va_Pc [.ref q] (xPre D (tyC cy) A ((q, .inr (2, [.null, .null, .null, .null])) :: X))) (va_Qv (fun (a : Nat → Nat) => a 2 = q) (fun a t => xPost D (tyC cy) A (wW cy a X (measV w0)) t) A) 20 160 A := by
  have hin : ∀ w ∈ wsX20, w ∈ wsX2_init := fun w h => List.mem_cons_of_mem _ (List.mem_append_right _ h)
  refine x_met (own := RX2) (by decide) rfl rfl (Nat.le_of_ble_eq_true rfl) rfl ?_
  intro p e s m below meth c hnm C hE
  refine x_ws (show ((q, .inr (2, [.null, .null, .null, .null])) :: X : va_W) = (q, .inr (2, [.null, .null, .null, .null])) :: ([] ++ X) from rfl) ?_
  refine x_aload_n (i := 0) C dX2_init_0 rfl rfl ?_
  refine x_objInit C (List.mem_of_getElem? (i := 1) rfl) (List.mem_of_getElem? (i := 2) rfl) (List.mem_of_getElem? (i := 3) rfl) dX2_init_1 (Nat.le_of_ble_eq_true rfl) (Nat.le_of_ble_eq_true rfl) ?_
  refine x_aload_n (i := 0) C dX2_init_4 rfl rfl ?_
  refine x_bipush (v := nI 8) C dX2_init_5 (by decide) ?_
  refine x_newaB C (by decide +kernel) (by decide) (nI_clamp (by omega)) (by omega) ⟨Nat.le_of_ble_eq_true rfl, Nat.le_of_ble_eq_true rfl⟩ dX2_init_7 (fun q1 => ?_)
  refine x_putOF C tyX2 tyX2_ok nmX2 rfl 0 (by decide) hin (by decide +kernel) rfl rfl hnm rfl (show tyX2 0 = .array .int from rfl) rfl rfl (Nat.le_of_ble_eq_true rfl) dX2_init_9 ?_
  refine x_aload_n (i := 0) C dX2_init_12 rfl rfl ?_
  refine x_bipush (v := 8) C dX2_init_13 (by decide) ?_
  refine x_bipush (v := 8) C dX2_init_15 (by decide) ?_
  refine x_mnaB C hE (by decide +kernel) (by decide +kernel) ⟨Nat.le_of_ble_eq_true rfl, Nat.le_of_ble_eq_true rfl⟩ dX2_init_17 (fun q2 r2 => ?_)
  refine x_putOF C tyX2 tyX2_ok nmX2 rfl 1 (by decide) hin (by decide +kernel) rfl rfl hnm rfl (show tyX2 1 = .array (.array .int) from rfl) rfl rfl (Nat.le_of_ble_eq_true rfl) dX2_init_21 ?_
  refine x_aload_n (i := 0) C dX2_init_24 rfl rfl ?_
  refine x_bipush (v := 8) C dX2_init_25 (by decide) ?_
  refine x_bipush (v := 8) C dX2_init_27 (by decide) ?_
  refine x_mnaB C hE (by decide +kernel) (by decide +kernel) ⟨Nat.le_of_ble_eq_true rfl, Nat.le_of_ble_eq_true rfl⟩ dX2_init_29 (fun q3 r3 => ?_)
  refine x_putOF C tyX2 tyX2_ok nmX2 rfl 2 (by decide) hin (by decide +kernel) rfl rfl hnm rfl (show tyX2 2 = .array (.array .int) from rfl) rfl rfl (Nat.le_of_ble_eq_true rfl) dX2_init_33 ?_
  refine x_aload_n (i := 0) C dX2_init_36 rfl rfl ?_
  refine x_bipush (v := nI 8) C dX2_init_37 (by decide) ?_
  refine x_newaB C (by decide +kernel) (by decide) (nI_clamp (by omega)) (by omega) ⟨Nat.le_of_ble_eq_true rfl, Nat.le_of_ble_eq_true rfl⟩ dX2_init_39 (fun q4 => ?_)
  refine x_putOF C tyX2 tyX2_ok nmX2 rfl 3 (by decide) hin (by decide +kernel) rfl rfl hnm rfl (show tyX2 3 = .array .int from rfl) rfl rfl (Nat.le_of_ble_eq_true rfl) dX2_init_41 ?_
  refine x_ws (show _ = ((([(q, .inr (2, [.ref q1, .ref q2, .ref q3, .ref q4])), (q1, .inl (cy 0, 8, .inl (fun _ => 0)))] ++ [(q2, .inl (cy 3, 8, .inr (.inr (.inr (.inr (fun i => some (r2 i)))))))]) ++ ((List.range 8).map (fun i => (r2 i, (.inl (cy 0, 8, .inl (fun _ => 0)) : va_E))) ++ ([(q3, .inl (cy 3, 8, .inr (.inr (.inr (.inr (fun i => some (r3 i)))))))] ++ ((List.range 8).map (fun i => (r3 i, (.inl (cy 0, 8, .inl (fun _ => 0)) : va_E))) ++ ([(q4, .inl (cy 0, 8, .inl (fun _ => 0)))] ++ X))))) : va_W) from rfl) ?_
  generalize ha : (fun p => if p = 2 then q else if p = 5 then q1 else if p = 6 then q2 else if p = 7 then q3 else if p = 8 then q4 else if p < 33 then r2 (p - 25) else r3 (p - 33)) = a
  have h25 : ∀ j, j < 8 → a (25 + j) = r2 j := by
    intro j hj
    subst ha
    show (if 25 + j = 2 then q else if 25 + j = 5 then q1 else if 25 + j = 6 then q2 else if 25 + j = 7 then q3 else if 25 + j = 8 then q4 else if 25 + j < 33 then r2 (25 + j - 25) else r3 (25 + j - 33)) = r2 j
    rw [if_neg (by omega), if_neg (by omega), if_neg (by omega), if_neg (by omega), if_neg (by omega), if_pos (by omega), Nat.add_sub_cancel_left]
  have h33 : ∀ j, j < 8 → a (33 + j) = r3 j := by
    intro j hj
    subst ha
    show (if 33 + j = 2 then q else if 33 + j = 5 then q1 else if 33 + j = 6 then q2 else if 33 + j = 7 then q3 else if 33 + j = 8 then q4 else if 33 + j < 33 then r2 (33 + j - 25) else r3 (33 + j - 33)) = r3 j
    rw [if_neg (by omega), if_neg (by omega), if_neg (by omega), if_neg (by omega), if_neg (by omega), if_neg (by omega), Nat.add_sub_cancel_left]
  refine x_refs (g := fun i => some (a (25 + i))) (fun j hj => congrArg some (h25 j hj).symm) ?_
  refine x_ws (show _ = ((([(q, .inr (2, [.ref q1, .ref q2, .ref q3, .ref q4])), (q1, .inl (cy 0, 8, .inl (fun _ => 0))), (q2, .inl (cy 3, 8, .inr (.inr (.inr (.inr (fun i => some (a (25 + i))))))))] ++ (List.range 8).map (fun i => (r2 i, (.inl (cy 0, 8, .inl (fun _ => 0)) : va_E)))) ++ [(q3, .inl (cy 3, 8, .inr (.inr (.inr (.inr (fun i => some (r3 i)))))))]) ++ ((List.range 8).map (fun i => (r3 i, (.inl (cy 0, 8, .inl (fun _ => 0)) : va_E))) ++ ([(q4, .inl (cy 0, 8, .inl (fun _ => 0)))] ++ X)) : va_W) from rfl) ?_
  refine x_refs (g := fun i => some (a (33 + i))) (fun j hj => congrArg some (h33 j hj).symm) ?_
  have hw : ((([(q, .inr (2, [.ref q1, .ref q2, .ref q3, .ref q4])), (q1, .inl (cy 0, 8, .inl (fun _ => 0))), (q2, .inl (cy 3, 8, .inr (.inr (.inr (.inr (fun i => some (a (25 + i))))))))] ++ (List.range 8).map (fun i => (r2 i, (.inl (cy 0, 8, .inl (fun _ => 0)) : va_E)))) ++ [(q3, .inl (cy 3, 8, .inr (.inr (.inr (.inr (fun i => some (a (33 + i))))))))]) ++ ((List.range 8).map (fun i => (r3 i, (.inl (cy 0, 8, .inl (fun _ => 0)) : va_E))) ++ ([(q4, .inl (cy 0, 8, .inl (fun _ => 0)))] ++ X)) : va_W) = wW cy a X (fun _ _ => 0) := by subst ha; rfl
  have ha2 : a 2 = q := by subst ha; rfl
  refine x_ws hw ?_
  clear hw h25 h33 ha
  subst ha2
  refine x_aload_n (i := 0) C dX2_init_44 rfl rfl ?_
  refine y_getWr C 0 (by decide) hin (by decide +kernel) dX2_init_45 ?_
  refine x_iconst (v := -1) C dX2_init_48 (by decide) ?_
  refine x_callSv C hE (k_G7_fill l D (tyC cy) A (wW cy a X (fun _ _ => 0)) (q0 := wI 5) (t0 := 0) (N := 8) (cA := cy 0) (by decide) rfl (fun _ => 0) ((wW_get cy a X _ (wL_mem (Or.inl (Or.inl rfl)))).trans (by rw [cF_I cy a _ (Or.inr (Or.inl rfl))])) (-1)) (va_cwS 2 C.2.2.2.2.1 gX2_init_J7_fill_53178 rfl rfl rfl (by decide +kernel) ⟨Nat.le_of_ble_eq_true rfl, Nat.le_of_ble_eq_true rfl⟩) rfl rfl (Nat.le_of_ble_eq_true rfl) dX2_init_49 ⟨Nat.le_of_ble_eq_true rfl, Nat.le_of_ble_eq_true rfl⟩ (fun u h => ?_)
  refine x_ws (wW_set cy a X (fun _ _ => 0) (wD 0) (wL_mem (Or.inl (Or.inl rfl))) (by rw [cF_I cy a _ (Or.inr (Or.inl rfl))]; rfl) (fun q hq => by unfold wD; rw [if_neg (by omega)])) ?_
  refine x_iconst (v := 0) C dX2_init_52 (by decide) ?_
  refine x_istore_n (i := 1) C dX2_init_53 rfl (by decide) ?_
  refine x_subm (lv' := [(1, .int (nI 0)), (0, .ref (a 2))]) ?_ rfl
  refine x_widen (k := 20) (n := 160) (Nat.le_of_ble_eq_true rfl) (Nat.le_of_ble_eq_true rfl) ?_
  refine x_count (N := 8) (fun i => xA p l e rmX2_init s m _ below meth c D A 2 20 160 _ 54 [(1, .int (nI i)), (0, .ref (a 2))] [] (wW cy a X (wD i))) ?_ ?_
  · refine x_iload_n (i := 1) C dX2_init_54 rfl rfl ?_
    refine x_bipush (v := 8) C dX2_init_55 (by decide) ?_
    refine x_icmp_ge C 76 dX2_init_57 (by decide) (fun c_5 => ?_) (fun c_5 => absurd le8 c_5)
    refine x_aload_n (i := 0) C dX2_init_76 rfl rfl ?_
    refine x_callVv C hE (k_Y2_measure l D cy a A X _) (cwV 0 C.2.2.2.2.1 gX2_init_X2_measure rfl rfl rfl (by decide +kernel) ⟨Nat.le_of_ble_eq_true rfl, Nat.le_of_ble_eq_true rfl⟩) 0 (wW_W cy a X _) rfl rfl rfl rfl (Nat.le_of_ble_eq_true rfl) dX2_init_77 ⟨Nat.le_of_ble_eq_true rfl, Nat.le_of_ble_eq_true rfl⟩ (fun u h => ?_)
    refine x_ws (show wW cy a X u = wW cy a X (measV w0) by rw [h, wD_8]) ?_
    exact x_vret (σ := Nat → Nat) (Wf := fun (a : Nat → Nat) => wW cy a X (measV w0)) (u := a) C dX2_init_80 ⟨Nat.le_of_ble_eq_true rfl, Nat.le_of_ble_eq_true rfl⟩ rfl
  · intro i hi kk
    have hpi : cIW (25 + i) := by unfold cIW; omega
    refine x_iload_n (i := 1) C dX2_init_54 rfl rfl ?_
    refine x_bipush (v := 8) C dX2_init_55 (by decide) ?_
    refine x_icmp_ge C 76 dX2_init_57 (by decide) (fun c_5 => absurd c_5 (lt8 hi)) (fun c_5 => ?_)
    refine x_aload_n (i := 0) C dX2_init_60 rfl rfl ?_
    refine y_getWr C 1 (by decide) hin (by decide +kernel) dX2_init_61 ?_
    refine x_iload_n (i := 1) C dX2_init_64 rfl rfl ?_
    refine y_aaldDe C (in8 hi) (cl8 hi) dX2_init_65 ?_
    refine x_iconst (v := -1) C dX2_init_66 (by decide) ?_
    refine x_callSv C hE (k_G7_fill l D (tyC cy) A (wW cy a X (wD i)) (q0 := wI (25 + i)) (t0 := 0) (N := 8) (cA := cy 0) (by decide) rfl (wD i (25 + i)) ((wW_get cy a X _ (wL_mem (Or.inl hpi))).trans (by rw [cF_I cy a _ (by unfold cI; omega)])) (-1)) (va_cwS 2 C.2.2.2.2.1 gX2_init_J7_fill_53178 rfl rfl rfl (by decide +kernel) ⟨Nat.le_of_ble_eq_true rfl, Nat.le_of_ble_eq_true rfl⟩) rfl rfl (Nat.le_of_ble_eq_true rfl) dX2_init_67 ⟨Nat.le_of_ble_eq_true rfl, Nat.le_of_ble_eq_true rfl⟩ (fun u h => ?_)
    refine x_ws (wW_set cy a X (wD i) (wD (i + 1)) (wL_mem (Or.inl hpi)) (by rw [cF_I cy a _ (by unfold cI; omega), wD_s]) (fun q hq => wD_o i q hq)) ?_
    refine x_iinc (i := 1) (v := nI (i + 1)) C dX2_init_70 rfl (inc1 i) ?_
    refine x_goto C 54 dX2_init_73 (by decide) ?_
    exact x_subm kk rfl
/-! ===== END winit ===== -/
