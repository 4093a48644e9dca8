/-! ===== BEGIN wways: measure over the cells of Ways alone ===== -/
def wL : List Nat := [2, 5, 6, 25, 26, 27, 28, 29, 30, 31, 32, 7, 33, 34, 35, 36, 37, 38, 39, 40, 8]
def wI (p : Nat) : Nat := if p = 2 then 0 else if p < 7 then p - 4 else if p = 7 then 11 else if p = 8 then 20 else if p < 33 then p - 22 else p - 21
def cIW (p : Nat) : Prop := p = 5 ∨ p = 8 ∨ (25 ≤ p ∧ p < 41)
theorem wL_at : ∀ p, p < 41 → p ∈ wL → wL[wI p]? = some p := by decide
theorem wL_of : ∀ j, j < 21 → ∀ p, p < 41 → wL[j]? = some p → wI p = j := by decide
theorem wL_lt : ∀ p ∈ wL, p < 41 := by decide
theorem wL_mem {p : Nat} (h : cIW p ∨ p = 2 ∨ p = 6 ∨ p = 7) : p < 41 ∧ p ∈ wL := by
  unfold cIW at h
  have h41 : p < 41 := by omega
  refine ⟨h41, ?_⟩
  have : ∀ p, p < 41 → (p = 5 ∨ p = 8 ∨ 25 ≤ p ∨ p = 2 ∨ p = 6 ∨ p = 7) → p ∈ wL := by decide
  exact this p h41 (by omega)
def wW (cy : Nat → ClassId) (a : Nat → Nat) (X : va_W) (V : XV) : va_W := wL.map (fun p => (a p, cF cy a p (V p))) ++ X
theorem wW_get (cy : Nat → ClassId) (a : Nat → Nat) (X : va_W) (V : XV) {p : Nat} (h : p < 41 ∧ p ∈ wL) : (wW cy a X V)[wI p]? = some (a p, cF cy a p (V p)) := by
  have h1 := wL_at p h.1 h.2
  have h2 : (wL.map (fun p => (a p, cF cy a p (V p))))[wI p]? = some (a p, cF cy a p (V p)) := by rw [List.getElem?_map, h1]; rfl
  have h3 := (List.getElem?_eq_some_iff.mp h2).1
  unfold wW
  rw [List.getElem?_append_left h3]; exact h2
theorem wW_W (cy : Nat → ClassId) (a : Nat → Nat) (X : va_W) (V : XV) : (wW cy a X V)[0]? = some (a 2, .inr (2, wl a)) := rfl
theorem wW_set (cy : Nat → ClassId) (a : Nat → Nat) (X : va_W) (V U : XV) {p : Nat} {e : va_E} (h : p < 41 ∧ p ∈ wL) (he : cF cy a p (U p) = e) (ho : ∀ q, q ≠ p → U q = V q) : (wW cy a X V).set (wI p) (a p, e) = wW cy a X U := by
  have h1 := wL_at p h.1 h.2
  have h2 := (List.getElem?_eq_some_iff.mp h1).1
  unfold wW
  rw [List.set_append_left _ _ (by rw [List.length_map]; exact h2)]
  congr 1
  apply List.ext_getElem?
  intro j
  rw [List.getElem?_set]
  by_cases hj : wI p = j
  · subst hj
    rw [if_pos rfl, if_pos (by rw [List.length_map]; exact h2), List.getElem?_map, h1, ← he]; rfl
  · rw [if_neg hj, List.getElem?_map, List.getElem?_map]
    cases hq : wL[j]? with
    | none => rfl
    | some q =>
      have hjl := (List.getElem?_eq_some_iff.mp hq).1
      have hq41 := wL_lt q (List.mem_of_getElem? hq)
      have hne : q ≠ p := fun z => hj (by rw [← z]; exact wL_of j hjl q hq41 hq)
      show some (a q, cF cy a q (V q)) = some (a q, cF cy a q (U q))
      rw [ho q hne]
section YW
variable {p : Program} {l : Launch} {e : Env} {R : Room} {s : State} {m : MethodId} {args : Array Value} {below : List Frame} {meth : Method} {c : Code} {cells slots : Nat} {Q : State → Prop} {cc : ByteArray} {nL : Nat} {own : String} {Ts : List Cond} {D : va_G} {A : Nat → Prop} {ret : Option FieldType} {pc : Nat} {lv : List (Nat × Value)} {st : List Value} {cy : Nat → ClassId} {a b : Nat → Nat} {X : va_W} {V : XV} {index : Nat}
theorem y_getWr (C : xC p s m args meth c cc nL own Ts D (tyC cy) A ret) (k : Nat) (hk : k < 4) (hin : ∀ w ∈ wsX20, w ∈ Ts) (hlink : Cond.fieldLink own index "Ringroll$Ways" (TX2 k).2.1 (TX2 k).2.2.1 ∈ Ts) (hd : decode cc pc = .ok (.getfield index, 3))
    (kk : xA p l e R s m args below meth c D A nL cells slots Q (pc + 3) lv (.ref (a (k + 5)) :: st) (wW cy a X V)) : xA p l e R s m args below meth c D A nL cells slots Q pc lv (.ref (a 2) :: st) (wW cy a X V) :=
  fun H locs ls hP hD hS hl => va_get C.1 C.2.1 C.2.2.2.2.1 hin C.2.2.2.1 C.2.2.2.2.2.1 hP 0 (wW_W cy a X V) (by rfl) k hk (C.2.2.2.2.1 _ hlink) (by rw [tF2 k hk]; exact fun _ h9 => h9) (by rcases (show k = 0 ∨ k = 1 ∨ k = 2 ∨ k = 3 by omega) with rfl | rfl | rfl | rfl <;> rfl) hd (kk H locs ls hP hD hS hl)
theorem y_ialdC (C : xC p s m args meth c cc nL own Ts D (tyC cy) A ret) {p0 j : Nat} {i : Int32} (hp : cIW p0) (hi : vp_in i 8) (hj : i.toNatClampNeg = j) (hd : decode cc pc = .ok (.iaload, 1))
    (kk : xA p l e R s m args below meth c D A nL cells slots Q (pc + 1) lv (.int (V p0 j) :: st) (wW cy a X V)) : xA p l e R s m args below meth c D A nL cells slots Q pc lv (.int i :: .ref (a p0) :: st) (wW cy a X V) :=
  fun H locs ls hP hD hS hl => va_iald C.1 C.2.1 C.2.2.2.2.2.1 hP (wI p0) 0 ((wW_get cy a X V (wL_mem (Or.inl hp))).trans (by rw [cF_I cy a _ (by unfold cIW at hp; unfold cI; omega)])) rfl hi hd (by rw [hj]; exact kk H locs ls hP hD hS hl)
theorem y_iastC (C : xC p s m args meth c cc nL own Ts D (tyC cy) A ret) {p0 j : Nat} {i v : Int32} (hp : cIW p0) (hi : vp_in i 8) (hj : i.toNatClampNeg = j) (hd : decode cc pc = .ok (.iastore, 1))
    (kk : xA p l e R s m args below meth c D A nL cells slots Q (pc + 1) lv st (wW cy a X (xs V p0 j v))) : xA p l e R s m args below meth c D A nL cells slots Q pc lv (.int v :: .int i :: .ref (a p0) :: st) (wW cy a X V) :=
  fun H locs ls hP hD hS hl => va_iast C.1 C.2.1 C.2.2.2.2.2.1 hP hD hS (wI p0) 0 ((wW_get cy a X V (wL_mem (Or.inl hp))).trans (by rw [cF_I cy a _ (by unfold cIW at hp; unfold cI; omega)])) rfl hi hd (fun H1 locs1 hP1 hD1 hS1 => by
    have hs := wW_set cy a X V (xs V p0 j v) (e := .inl (cy 0, 8, .inl (upd (V p0) i.toNatClampNeg v))) (wL_mem (Or.inl hp)) (by rw [cF_I cy a _ (by unfold cIW at hp; unfold cI; omega), xs_at, hj]) (fun q hq => xs_off V j v hq)
    rw [hs] at hP1 hD1
    exact kk H1 locs1 ls hP1 hD1 hS1 hl)
theorem y_aaldDe (C : xC p s m args meth c cc nL own Ts D (tyC cy) A ret) {j : Nat} {i : Int32} (hi : vp_in i 8) (hj : i.toNatClampNeg = j) (hd : decode cc pc = .ok (.aaload, 1))
    (kk : xA p l e R s m args below meth c D A nL cells slots Q (pc + 1) lv (.ref (a (25 + j)) :: st) (wW cy a X V)) : xA p l e R s m args below meth c D A nL cells slots Q pc lv (.int i :: .ref (a 6) :: st) (wW cy a X V) :=
  by
  intro H locs ls hP hD hS hl
  have hlt : i.toNatClampNeg < 8 := Nat.not_le.mp fun q => hi (Or.inr q)
  have ha : va_at D vwCl (a 6, (.inl (cy 3, 8, .inr (.inr (.inr (.inr (fun i => some (a (25 + i))))))) : va_E)) H := hP (wI 6) _ (wW_get cy a X V (wL_mem (by omega : cIW 6 ∨ 6 = 2 ∨ 6 = 6 ∨ 6 = 7)))
  exact W.aald (v := .ref (a (25 + j))) (ty := .array .int) C.1 C.2.1 ha ((C.2.2.2.2.2.1.2 3 _ rfl).1 8 (fun j => va_rf (some (a (25 + j))))) rfl (fun q => by cases q) (by show ¬ (i < 0 ∨ (arrV _ _ _).slots.size ≤ _); rw [arrV_size]; exact hi) (by show (arrV _ _ _).slots[_]? = _; rw [arrV_read _ _ hlt, hj]; rfl) rfl rfl hd (kk H locs ls hP hD hS hl)
theorem y_aaldLb (C : xC p s m args meth c cc nL own Ts D (tyC cy) A ret) {j : Nat} {i : Int32} (hi : vp_in i 8) (hj : i.toNatClampNeg = j) (hd : decode cc pc = .ok (.aaload, 1))
    (kk : xA p l e R s m args below meth c D A nL cells slots Q (pc + 1) lv (.ref (a (33 + j)) :: st) (wW cy a X V)) : xA p l e R s m args below meth c D A nL cells slots Q pc lv (.int i :: .ref (a 7) :: st) (wW cy a X V) :=
  by
  intro H locs ls hP hD hS hl
  have hlt : i.toNatClampNeg < 8 := Nat.not_le.mp fun q => hi (Or.inr q)
  have ha : va_at D vwCl (a 7, (.inl (cy 3, 8, .inr (.inr (.inr (.inr (fun i => some (a (33 + i))))))) : va_E)) H := hP (wI 7) _ (wW_get cy a X V (wL_mem (by omega : cIW 7 ∨ 7 = 2 ∨ 7 = 6 ∨ 7 = 7)))
  exact W.aald (v := .ref (a (33 + j))) (ty := .array .int) C.1 C.2.1 ha ((C.2.2.2.2.2.1.2 3 _ rfl).1 8 (fun j => va_rf (some (a (33 + j))))) rfl (fun q => by cases q) (by show ¬ (i < 0 ∨ (arrV _ _ _).slots.size ≤ _); rw [arrV_size]; exact hi) (by show (arrV _ _ _).slots[_]? = _; rw [arrV_read _ _ hlt, hj]; rfl) rfl rfl hd (kk H locs ls hP hD hS hl)
end YW
set_option maxHeartbeats 4000000 in
set_option maxRecDepth 100000 in
theorem k_Y2_measureVia (l : Launch) (D : va_G) (cy : Nat → ClassId) (a : Nat → Nat) (A : Nat → Prop) (X : va_W) (V : XV) {v : Nat} (hv : v < 8) : Met l yX2_measureVia wsX2_measureVia rmX2_measureVia (va_Pc [.ref (a 2), .int (nI v)] (xPre D (tyC cy) A (wW cy a X V))) (va_Qv (fun (u : XV) => u = mvOut V v 8) (fun u t => xPost D (tyC cy) A (wW cy a X u) t) A) 0 0 A := by
  refine x_met (own := RX2) (by decide) rfl rfl (Nat.le_of_ble_eq_true rfl) rfl ?_
  intro p e s m below meth c hnm C hE
  refine x_iconst (v := 0) C dX2_measureVia_0 (by decide) ?_
  refine x_istore_n (i := 2) C dX2_measureVia_1 rfl (by decide) ?_
  refine x_subm (lv' := [(2, .int (nI 0)), (0, .ref (a 2)), (1, .int (nI v))]) ?_ rfl
  refine x_count (N := 8) (fun i => xA p l e rmX2_measureVia s m _ below meth c D A 5 0 0 _ 2 [(2, .int (nI i)), (0, .ref (a 2)), (1, .int (nI v))] [] (wW cy a X (mvOut V v i))) ?_ ?_
  · refine x_iload_n (i := 2) C dX2_measureVia_2 rfl rfl ?_
    refine x_bipush (v := 8) C dX2_measureVia_3 (by decide) ?_
    refine x_icmp_ge C 68 dX2_measureVia_5 (by decide) (fun c_5 => ?_) (fun c_5 => absurd le8 c_5)
    exact x_vret  C dX2_measureVia_68 ⟨Nat.le_of_ble_eq_true rfl, Nat.le_of_ble_eq_true rfl⟩ rfl
  intro i hi ihi
  refine x_iload_n (i := 2) C dX2_measureVia_2 rfl rfl ?_
  refine x_bipush (v := 8) C dX2_measureVia_3 (by decide) ?_
  refine x_icmp_ge C 68 dX2_measureVia_5 (by decide) (fun c_5 => absurd c_5 (lt8 hi)) (fun c_5 => ?_)
  refine x_iconst (v := 0) C dX2_measureVia_8 (by decide) ?_
  refine x_istore_n (i := 3) C dX2_measureVia_9 rfl (by decide) ?_
  refine x_subm (lv' := [(3, .int (nI 0)), (2, .int (nI i)), (0, .ref (a 2)), (1, .int (nI v))]) ?_ rfl
  refine x_count (N := 8) (fun j => xA p l e rmX2_measureVia s m _ below meth c D A 5 0 0 _ 10 [(3, .int (nI j)), (2, .int (nI i)), (0, .ref (a 2)), (1, .int (nI v))] [] (wW cy a X (mvIn (mvOut V v i) v i j))) ?_ ?_
  · refine x_iload_n (i := 3) C dX2_measureVia_10 rfl rfl ?_
    refine x_bipush (v := 8) C dX2_measureVia_11 (by decide) ?_
    refine x_icmp_ge C 62 dX2_measureVia_13 (by decide) (fun c_13 => ?_) (fun c_13 => absurd le8 c_13)
    refine x_iinc (v := nI (i + 1)) C dX2_measureVia_62 rfl (inc1 i) ?_
    refine x_goto C 2 dX2_measureVia_65 (by decide) ?_
    refine x_subm (lv' := [(2, .int (nI (i + 1))), (0, .ref (a 2)), (1, .int (nI v))]) ?_ rfl
    exact ihi
  intro j hj ihj
  refine x_iload_n (i := 3) C dX2_measureVia_10 rfl rfl ?_
  refine x_bipush (v := 8) C dX2_measureVia_11 (by decide) ?_
  refine x_icmp_ge C 62 dX2_measureVia_13 (by decide) (fun c_13 => absurd c_13 (lt8 hj)) (fun c_13 => ?_)
  refine x_aload_n (i := 0) C dX2_measureVia_16 rfl rfl ?_
  refine y_getWr C 2 (by decide) hinX2_measureVia_X2 (by decide +kernel) dX2_measureVia_17 ?_
  refine x_iload_n (i := 2) C dX2_measureVia_20 rfl rfl ?_
  refine y_aaldLb C (in8 hi) (cl8 hi) dX2_measureVia_21 ?_
  refine x_iload_n (i := 1) C dX2_measureVia_22 rfl rfl ?_
  refine y_ialdC C (by unfold cIW; omega) (in8 hv) (cl8 hv) dX2_measureVia_23 ?_
  refine x_aload_n (i := 0) C dX2_measureVia_24 rfl rfl ?_
  refine y_getWr C 2 (by decide) hinX2_measureVia_X2 (by decide +kernel) dX2_measureVia_25 ?_
  refine x_iload_n (i := 1) C dX2_measureVia_28 rfl rfl ?_
  refine y_aaldLb C (in8 hv) (cl8 hv) dX2_measureVia_29 ?_
  refine x_iload_n (i := 3) C dX2_measureVia_30 rfl rfl ?_
  refine y_ialdC C (by unfold cIW; omega) (in8 hj) (cl8 hj) dX2_measureVia_31 ?_
  refine x_iadd C dX2_measureVia_32 ?_
  refine x_istore (i := 4) C dX2_measureVia_33 (by decide) ?_
  refine x_aload_n (i := 0) C dX2_measureVia_35 rfl rfl ?_
  refine y_getWr C 2 (by decide) hinX2_measureVia_X2 (by decide +kernel) dX2_measureVia_36 ?_
  refine x_iload_n (i := 2) C dX2_measureVia_39 rfl rfl ?_
  refine y_aaldLb C (in8 hi) (cl8 hi) dX2_measureVia_40 ?_
  refine x_iload_n (i := 3) C dX2_measureVia_41 rfl rfl ?_
  refine x_aload_n (i := 0) C dX2_measureVia_42 rfl rfl ?_
  refine y_getWr C 2 (by decide) hinX2_measureVia_X2 (by decide +kernel) dX2_measureVia_43 ?_
  refine x_iload_n (i := 2) C dX2_measureVia_46 rfl rfl ?_
  refine y_aaldLb C (in8 hi) (cl8 hi) dX2_measureVia_47 ?_
  refine x_iload_n (i := 3) C dX2_measureVia_48 rfl rfl ?_
  refine y_ialdC C (by unfold cIW; omega) (in8 hj) (cl8 hj) dX2_measureVia_49 ?_
  refine x_iload (i := 4) C dX2_measureVia_50 rfl ?_
  refine x_min C (by decide +kernel) (by decide +kernel) (by decide +kernel) (by decide +kernel) ⟨Nat.le_of_ble_eq_true rfl, Nat.le_of_ble_eq_true rfl, Nat.le_of_ble_eq_true rfl, Nat.le_of_ble_eq_true rfl⟩ dX2_measureVia_52 rfl ?_
  refine y_iastC C (by unfold cIW; omega) (in8 hj) (cl8 hj) dX2_measureVia_55 ?_
  refine x_iinc (v := nI (j + 1)) C dX2_measureVia_56 rfl (inc1 j) ?_
  refine x_goto C 10 dX2_measureVia_59 (by decide) ?_
  refine x_subm (lv' := [(3, .int (nI (j + 1))), (2, .int (nI i)), (0, .ref (a 2)), (1, .int (nI v))]) ?_ rfl
  exact ihj
set_option maxHeartbeats 4000000 in
set_option maxRecDepth 100000 in
theorem k_Y2_measure (l : Launch) (D : va_G) (cy : Nat → ClassId) (a : Nat → Nat) (A : Nat → Prop) (X : va_W) (V : XV)   : Met l yX2_measure wsX2_measure rmX2_measure (va_Pc [.ref (a 2)] (xPre D (tyC cy) A (wW cy a X V))) (va_Qv (fun (u : XV) => u = measV V) (fun u t => xPost D (tyC cy) A (wW cy a X u) t) A) 0 0 A := by
  refine x_met (own := RX2) (by decide) rfl rfl (Nat.le_of_ble_eq_true rfl) rfl ?_
  intro p e s m below meth c hnm C hE
  refine x_iconst (v := 0) C dX2_measure_0 (by decide) ?_
  refine x_istore_n (i := 1) C dX2_measure_1 rfl (by decide) ?_
  refine x_subm (lv' := [(1, .int (nI 0)), (0, .ref (a 2))]) ?_ rfl
  refine x_count (N := 8) (fun i => xA p l e rmX2_measure s m _ below meth c D A 3 0 0 _ 2 [(1, .int (nI i)), (0, .ref (a 2))] [] (wW cy a X (m1Out V i))) ?_ ?_
  · refine x_iload_n (i := 1) C dX2_measure_2 rfl rfl ?_
    refine x_bipush (v := 8) C dX2_measure_3 (by decide) ?_
    refine x_icmp_ge C 56 dX2_measure_5 (by decide) (fun c_5 => ?_) (fun c_5 => absurd le8 c_5)
    refine x_iconst (v := 0) C dX2_measure_56 (by decide) ?_
    refine x_istore_n (i := 1) C dX2_measure_57 rfl (by decide) ?_
    refine x_subm (lv' := [(1, .int (nI 0)), (0, .ref (a 2))]) ?_ rfl
    refine x_count (N := 8) (fun v => xA p l e rmX2_measure s m _ below meth c D A 3 0 0 _ 58 [(1, .int (nI v)), (0, .ref (a 2))] [] (wW cy a X (m2Out (m1Out V 8) v))) ?_ ?_
    · refine x_iload_n (i := 1) C dX2_measure_58 rfl rfl ?_
      refine x_bipush (v := 8) C dX2_measure_59 (by decide) ?_
      refine x_icmp_ge C 75 dX2_measure_61 (by decide) (fun c_61 => ?_) (fun c_61 => absurd le8 c_61)
      refine x_iconst (v := 0) C dX2_measure_75 (by decide) ?_
      refine x_istore_n (i := 1) C dX2_measure_76 rfl (by decide) ?_
      refine x_subm (lv' := [(1, .int (nI 0)), (0, .ref (a 2))]) ?_ rfl
      refine x_count (N := 8) (fun j => xA p l e rmX2_measure s m _ below meth c D A 3 0 0 _ 77 [(1, .int (nI j)), (0, .ref (a 2))] [] (wW cy a X (m3Out (m2Out (m1Out V 8) 8) j))) ?_ ?_
      · refine x_iload_n (i := 1) C dX2_measure_77 rfl rfl ?_
        refine x_bipush (v := 8) C dX2_measure_78 (by decide) ?_
        refine x_icmp_ge C 144 dX2_measure_80 (by decide) (fun c_80 => ?_) (fun c_80 => absurd le8 c_80)
        exact x_vret  C dX2_measure_144 ⟨Nat.le_of_ble_eq_true rfl, Nat.le_of_ble_eq_true rfl⟩ rfl
      intro j hj ihj
      refine x_iload_n (i := 1) C dX2_measure_77 rfl rfl ?_
      refine x_bipush (v := 8) C dX2_measure_78 (by decide) ?_
      refine x_icmp_ge C 144 dX2_measure_80 (by decide) (fun c_80 => absurd c_80 (lt8 hj)) (fun c_80 => ?_)
      refine x_aload_n (i := 0) C dX2_measure_83 rfl rfl ?_
      refine y_getWr C 3 (by decide) hinX2_measure_X2 (by decide +kernel) dX2_measure_84 ?_
      refine x_iload_n (i := 1) C dX2_measure_87 rfl rfl ?_
      refine x_ldc (v := 1000000) C (by decide +kernel) dX2_measure_88 ?_
      refine y_iastC C (by unfold cIW; omega) (in8 hj) (cl8 hj) dX2_measure_90 ?_
      refine x_iconst (v := 0) C dX2_measure_91 (by decide) ?_
      refine x_istore_n (i := 2) C dX2_measure_92 rfl (by decide) ?_
      refine x_subm (lv' := [(2, .int (nI 0)), (1, .int (nI j)), (0, .ref (a 2))]) ?_ rfl
      refine x_count (N := 8) (fun v => xA p l e rmX2_measure s m _ below meth c D A 3 0 0 _ 93 [(2, .int (nI v)), (1, .int (nI j)), (0, .ref (a 2))] [] (wW cy a X (m3In (xs (m3Out (m2Out (m1Out V 8) 8) j) 8 j 1000000) j v))) ?_ ?_
      · refine x_iload_n (i := 2) C dX2_measure_93 rfl rfl ?_
        refine x_bipush (v := 8) C dX2_measure_94 (by decide) ?_
        refine x_icmp_ge C 138 dX2_measure_96 (by decide) (fun c_96 => ?_) (fun c_96 => absurd le8 c_96)
        refine x_iinc (v := nI (j + 1)) C dX2_measure_138 rfl (inc1 j) ?_
        refine x_goto C 77 dX2_measure_141 (by decide) ?_
        refine x_subm (lv' := [(1, .int (nI (j + 1))), (0, .ref (a 2))]) ?_ rfl
        exact ihj
      intro v hv ihv
      refine x_iload_n (i := 2) C dX2_measure_93 rfl rfl ?_
      refine x_bipush (v := 8) C dX2_measure_94 (by decide) ?_
      refine x_icmp_ge C 138 dX2_measure_96 (by decide) (fun c_96 => absurd c_96 (lt8 hv)) (fun c_96 => ?_)
      refine x_aload_n (i := 0) C dX2_measure_99 rfl rfl ?_
      refine y_getWr C 3 (by decide) hinX2_measure_X2 (by decide +kernel) dX2_measure_100 ?_
      refine x_iload_n (i := 1) C dX2_measure_103 rfl rfl ?_
      refine x_aload_n (i := 0) C dX2_measure_104 rfl rfl ?_
      refine y_getWr C 3 (by decide) hinX2_measure_X2 (by decide +kernel) dX2_measure_105 ?_
      refine x_iload_n (i := 1) C dX2_measure_108 rfl rfl ?_
      refine y_ialdC C (by unfold cIW; omega) (in8 hj) (cl8 hj) dX2_measure_109 ?_
      refine x_aload_n (i := 0) C dX2_measure_110 rfl rfl ?_
      refine y_getWr C 0 (by decide) hinX2_measure_X2 (by decide +kernel) dX2_measure_111 ?_
      refine x_iload_n (i := 2) C dX2_measure_114 rfl rfl ?_
      refine y_ialdC C (by unfold cIW; omega) (in8 hv) (cl8 hv) dX2_measure_115 ?_
      refine x_callSi C hE (k_X2_orFar l D _ A _ _) (va_cwS 1 C.2.2.2.2.1 gX2_measure_X2_orFar rfl rfl rfl (by decide +kernel) ⟨Nat.le_of_ble_eq_true rfl, Nat.le_of_ble_eq_true rfl⟩)  rfl rfl (Nat.le_of_ble_eq_true rfl) dX2_measure_116 ⟨Nat.le_of_ble_eq_true rfl, Nat.le_of_ble_eq_true rfl⟩ (fun r_116 u_116 h_116 => ?_)
      subst h_116
      refine x_aload_n (i := 0) C dX2_measure_119 rfl rfl ?_
      refine y_getWr C 2 (by decide) hinX2_measure_X2 (by decide +kernel) dX2_measure_120 ?_
      refine x_iload_n (i := 2) C dX2_measure_123 rfl rfl ?_
      refine y_aaldLb C (in8 hv) (cl8 hv) dX2_measure_124 ?_
      refine x_iload_n (i := 1) C dX2_measure_125 rfl rfl ?_
      refine y_ialdC C (by unfold cIW; omega) (in8 hj) (cl8 hj) dX2_measure_126 ?_
      refine x_iadd C dX2_measure_127 ?_
      refine x_min C (by decide +kernel) (by decide +kernel) (by decide +kernel) (by decide +kernel) ⟨Nat.le_of_ble_eq_true rfl, Nat.le_of_ble_eq_true rfl, Nat.le_of_ble_eq_true rfl, Nat.le_of_ble_eq_true rfl⟩ dX2_measure_128 rfl ?_
      refine y_iastC C (by unfold cIW; omega) (in8 hj) (cl8 hj) dX2_measure_131 ?_
      refine x_iinc (v := nI (v + 1)) C dX2_measure_132 rfl (inc1 v) ?_
      refine x_goto C 93 dX2_measure_135 (by decide) ?_
      refine x_subm (lv' := [(2, .int (nI (v + 1))), (1, .int (nI j)), (0, .ref (a 2))]) ?_ rfl
      exact ihv
    intro v hv ihv
    refine x_iload_n (i := 1) C dX2_measure_58 rfl rfl ?_
    refine x_bipush (v := 8) C dX2_measure_59 (by decide) ?_
    refine x_icmp_ge C 75 dX2_measure_61 (by decide) (fun c_61 => absurd c_61 (lt8 hv)) (fun c_61 => ?_)
    refine x_aload_n (i := 0) C dX2_measure_64 rfl rfl ?_
    refine x_iload_n (i := 1) C dX2_measure_65 rfl rfl ?_
    refine x_callVv C hE (k_Y2_measureVia l D cy a A X _ (by assumption)) (cwV 1 C.2.2.2.2.1 gX2_measure_X2_measureVia rfl rfl rfl (by decide +kernel) ⟨Nat.le_of_ble_eq_true rfl, Nat.le_of_ble_eq_true rfl⟩) 0 (wW_W cy a X _) rfl rfl rfl rfl (Nat.le_of_ble_eq_true rfl) dX2_measure_66 ⟨Nat.le_of_ble_eq_true rfl, Nat.le_of_ble_eq_true rfl⟩ (fun u_66 h_66 => ?_)
    rw [h_66]
    refine x_iinc (v := nI (v + 1)) C dX2_measure_69 rfl (inc1 v) ?_
    refine x_goto C 58 dX2_measure_72 (by decide) ?_
    refine x_subm (lv' := [(1, .int (nI (v + 1))), (0, .ref (a 2))]) ?_ rfl
    exact ihv
  intro i hi ihi
  refine x_iload_n (i := 1) C dX2_measure_2 rfl rfl ?_
  refine x_bipush (v := 8) C dX2_measure_3 (by decide) ?_
  refine x_icmp_ge C 56 dX2_measure_5 (by decide) (fun c_5 => absurd c_5 (lt8 hi)) (fun c_5 => ?_)
  refine x_iconst (v := 0) C dX2_measure_8 (by decide) ?_
  refine x_istore_n (i := 2) C dX2_measure_9 rfl (by decide) ?_
  refine x_subm (lv' := [(2, .int (nI 0)), (1, .int (nI i)), (0, .ref (a 2))]) ?_ rfl
  refine x_count (N := 8) (fun j => xA p l e rmX2_measure s m _ below meth c D A 3 0 0 _ 10 [(2, .int (nI j)), (1, .int (nI i)), (0, .ref (a 2))] [] (wW cy a X (m1In (m1Out V i) i j))) ?_ ?_
  · refine x_iload_n (i := 2) C dX2_measure_10 rfl rfl ?_
    refine x_bipush (v := 8) C dX2_measure_11 (by decide) ?_
    refine x_icmp_ge C 50 dX2_measure_13 (by decide) (fun c_13 => ?_) (fun c_13 => absurd le8 c_13)
    refine x_iinc (v := nI (i + 1)) C dX2_measure_50 rfl (inc1 i) ?_
    refine x_goto C 2 dX2_measure_53 (by decide) ?_
    refine x_subm (lv' := [(1, .int (nI (i + 1))), (0, .ref (a 2))]) ?_ rfl
    exact ihi
  intro j hj ihj
  refine x_iload_n (i := 2) C dX2_measure_10 rfl rfl ?_
  refine x_bipush (v := 8) C dX2_measure_11 (by decide) ?_
  refine x_icmp_ge C 50 dX2_measure_13 (by decide) (fun c_13 => absurd c_13 (lt8 hj)) (fun c_13 => ?_)
  refine x_aload_n (i := 0) C dX2_measure_16 rfl rfl ?_
  refine y_getWr C 2 (by decide) hinX2_measure_X2 (by decide +kernel) dX2_measure_17 ?_
  refine x_iload_n (i := 1) C dX2_measure_20 rfl rfl ?_
  refine y_aaldLb C (in8 hi) (cl8 hi) dX2_measure_21 ?_
  refine x_iload_n (i := 2) C dX2_measure_22 rfl rfl ?_
  refine x_iload_n (i := 1) C dX2_measure_23 rfl rfl ?_
  refine x_iload_n (i := 2) C dX2_measure_24 rfl rfl ?_
  refine x_icmp_ne C 32 dX2_measure_25 (by decide) (fun c_25 => ?_) (fun c_25 => ?_)
  · refine x_aload_n (i := 0) C dX2_measure_32 rfl rfl ?_
    refine y_getWr C 1 (by decide) hinX2_measure_X2 (by decide +kernel) dX2_measure_33 ?_
    refine x_iload_n (i := 1) C dX2_measure_36 rfl rfl ?_
    refine y_aaldDe C (in8 hi) (cl8 hi) dX2_measure_37 ?_
    refine x_iload_n (i := 2) C dX2_measure_38 rfl rfl ?_
    refine y_ialdC C (by unfold cIW; omega) (in8 hj) (cl8 hj) dX2_measure_39 ?_
    refine x_callSi C hE (k_X2_orFar l D _ A _ _) (va_cwS 1 C.2.2.2.2.1 gX2_measure_X2_orFar rfl rfl rfl (by decide +kernel) ⟨Nat.le_of_ble_eq_true rfl, Nat.le_of_ble_eq_true rfl⟩)  rfl rfl (Nat.le_of_ble_eq_true rfl) dX2_measure_40 ⟨Nat.le_of_ble_eq_true rfl, Nat.le_of_ble_eq_true rfl⟩ (fun r_40 u_40 h_40 => ?_)
    subst h_40
    refine y_iastC C (by unfold cIW; omega) (in8 hj) (cl8 hj) dX2_measure_43 ?_
    refine x_iinc (v := nI (j + 1)) C dX2_measure_44 rfl (inc1 j) ?_
    refine x_goto C 10 dX2_measure_47 (by decide) ?_
    first | (refine x_ws (ws' := wW cy a X (m1In (m1Out V i) i (j + 1))) (by show wW cy a X _ = wW cy a X (m1Step _ i j); unfold m1Step; rw [if_pos ((nI_eq (by omega) (by omega)).mp c_25)]) ?_; refine x_subm (lv' := [(2, .int (nI (j + 1))), (1, .int (nI i)), (0, .ref (a 2))]) ?_ rfl; exact ihj) | (refine x_ws (ws' := wW cy a X (m1In (m1Out V i) i (j + 1))) (by show wW cy a X _ = wW cy a X (m1Step _ i j); unfold m1Step; rw [if_neg (fun z => c_25 ((nI_eq (by omega) (by omega)).mpr z))]) ?_; refine x_subm (lv' := [(2, .int (nI (j + 1))), (1, .int (nI i)), (0, .ref (a 2))]) ?_ rfl; exact ihj)
  refine x_iconst (v := 0) C dX2_measure_28 (by decide) ?_
  refine x_goto C 43 dX2_measure_29 (by decide) ?_
  refine y_iastC C (by unfold cIW; omega) (in8 hj) (cl8 hj) dX2_measure_43 ?_
  refine x_iinc (v := nI (j + 1)) C dX2_measure_44 rfl (inc1 j) ?_
  refine x_goto C 10 dX2_measure_47 (by decide) ?_
  first | (refine x_ws (ws' := wW cy a X (m1In (m1Out V i) i (j + 1))) (by show wW cy a X _ = wW cy a X (m1Step _ i j); unfold m1Step; rw [if_pos ((nI_eq (by omega) (by omega)).mp c_25)]) ?_; refine x_subm (lv' := [(2, .int (nI (j + 1))), (1, .int (nI i)), (0, .ref (a 2))]) ?_ rfl; exact ihj) | (refine x_ws (ws' := wW cy a X (m1In (m1Out V i) i (j + 1))) (by show wW cy a X _ = wW cy a X (m1Step _ i j); unfold m1Step; rw [if_neg (fun z => c_25 ((nI_eq (by omega) (by omega)).mpr z))]) ?_; refine x_subm (lv' := [(2, .int (nI (j + 1))), (1, .int (nI i)), (0, .ref (a 2))]) ?_ rfl; exact ihj)
/-! ===== END wways ===== -/
