/-! ===== BEGIN fill: Arrays.fill of ints ===== -/
section FLK
variable {p : Program} {l : Launch} {e : Env} {R : Room} {s : State} {m : MethodId} {args : Array Value} {below : List Frame} {meth : Method} {c : Code} {cells slots : Nat} {Q : State → Prop} {cc : ByteArray} {nL : Nat} {own : String} {Ts : List Cond} {D : va_G} {A : Nat → Prop} {ret : Option FieldType} {pc : Nat} {lv : List (Nat × Value)} {st : List Value} {tys : List (ClassId × FieldType)} {X : va_W}
theorem x_alenO (C : xC p s m args meth c cc nL own Ts D tys A ret) {q N t0 : Nat} {cA : ClassId} {f : Nat → Int32} (ht : tys[t0]? = some (cA, .int)) {v : Int32} (hv : Int32.ofNat N = v) (hd : decode cc pc = .ok (.arraylength, 1))
    (kk : xA p l e R s m args below meth c D A nL cells slots Q (pc + 1) lv (.int v :: st) ((q, .inl (cA, N, .inl f)) :: X)) : xA p l e R s m args below meth c D A nL cells slots Q pc lv (.ref q :: st) ((q, .inl (cA, N, .inl f)) :: X) :=
  fun H locs ls hP hD hS hl => va_alen C.1 C.2.1 C.2.2.2.2.2.1 hP 0 t0 rfl ht hv hd (kk H locs ls hP hD hS hl)
theorem x_iastO (C : xC p s m args meth c cc nL own Ts D tys A ret) {q N t0 : Nat} {cA : ClassId} {f : Nat → Int32} (ht : tys[t0]? = some (cA, .int)) {i x : Int32} (hi : vp_in i N) (hd : decode cc pc = .ok (.iastore, 1))
    (kk : xA p l e R s m args below meth c D A nL cells slots Q (pc + 1) lv st ((q, .inl (cA, N, .inl (upd f i.toNatClampNeg x))) :: X)) : xA p l e R s m args below meth c D A nL cells slots Q pc lv (.int x :: .int i :: .ref q :: st) ((q, .inl (cA, N, .inl f)) :: X) :=
  fun H locs ls hP hD hS hl => va_iast C.1 C.2.1 C.2.2.2.2.2.1 hP hD hS 0 t0 rfl ht hi hd (fun H1 locs1 hP1 hD1 hS1 => kk H1 locs1 ls hP1 hD1 hS1 hl)
end FLK
def fillF (f : Nat → Int32) (z : Int32) : Nat → (Nat → Int32)
  | 0 => f
  | i + 1 => upd (fillF f z i) i z
theorem fillF_at (f : Nat → Int32) (z : Int32) : ∀ n j, fillF f z n j = if j < n then z else f j := by
  intro n
  induction n with
  | zero => intro j; rw [if_neg (Nat.not_lt_zero j)]; rfl
  | succ n ih =>
    intro j
    show upd (fillF f z n) n z j = _
    by_cases h : j = n
    · subst h; rw [if_pos (Nat.lt_succ_self j)]; simp [upd]
    · have e : upd (fillF f z n) n z j = fillF f z n j := by simp [upd, h]
      rw [e, ih j]
      by_cases h2 : j < n
      · rw [if_pos h2, if_pos (by omega)]
      · rw [if_neg h2, if_neg (by omega)]
def rmJ7_fill : Room := { frames := 0, cells := 0, slots := 0, locals := 0 }
set_option maxHeartbeats 4000000 in
set_option maxRecDepth 100000 in
theorem k_J7_fill (l : Launch) (D : va_G) (tys : List (ClassId × FieldType)) (A : Nat → Prop) (X : va_W) {q N t0 : Nat} {cA : ClassId} (hN : N < 1000) (ht : tys[t0]? = some (cA, .int)) (f : Nat → Int32) (z : Int32) : Met l yJ7_fill_53178 wsJ7_fill_53178 rmJ7_fill (va_Pc [.ref q, .int z] (xPre D tys A ((q, .inl (cA, N, .inl f)) :: X))) (va_Qv (fun (_ : Unit) => True) (fun _ t => xPost D tys A ((q, .inl (cA, N, .inl (fillF f z N))) :: X) t) A) 0 0 A := by
  refine x_met (own := RJ7) (by decide) rfl rfl (Nat.le_of_ble_eq_true rfl) rfl ?_
  intro p e s m below meth c hnm C hE
  refine x_iconst (v := 0) C dJ7_fill_53178_0 (by decide) ?_
  refine x_istore_n (i := 2) C dJ7_fill_53178_1 rfl (by decide) ?_
  refine x_aload_n (i := 0) C dJ7_fill_53178_2 rfl rfl ?_
  refine x_alenO (v := nI N) C ht rfl dJ7_fill_53178_3 ?_
  refine x_istore_n (i := 3) C dJ7_fill_53178_4 rfl (by decide) ?_
  refine x_subm (lv' := [(2, .int (nI 0)), (3, .int (nI N)), (0, .ref q), (1, .int z)]) ?_ rfl
  refine x_count (N := N) (fun i => xA p l e rmJ7_fill s m _ below meth c D A 4 0 0 _ 5 [(2, .int (nI i)), (3, .int (nI N)), (0, .ref q), (1, .int z)] [] ((q, .inl (cA, N, .inl (fillF f z i))) :: X)) ?_ ?_
  · refine x_iload_n (i := 2) C dJ7_fill_53178_5 rfl rfl ?_
    refine x_iload_n (i := 3) C dJ7_fill_53178_6 rfl rfl ?_
    refine x_icmp_ge C 20 dJ7_fill_53178_7 (by decide) (fun hq => ?_) (fun hq => absurd (by rw [ti_le]; omega : nI N ≤ nI N) hq)
    exact x_vret (σ := Unit) (Wf := fun (_ : Unit) => ((q, .inl (cA, N, .inl (fillF f z N))) :: X : va_W)) (u := ()) C dJ7_fill_53178_20 ⟨Nat.le_refl _, Nat.le_refl _⟩ trivial
  · intro i hi kk
    refine x_iload_n (i := 2) C dJ7_fill_53178_5 rfl rfl ?_
    refine x_iload_n (i := 3) C dJ7_fill_53178_6 rfl rfl ?_
    refine x_icmp_ge C 20 dJ7_fill_53178_7 (by decide) (fun hq => absurd hq (nI_ge hi (by omega))) (fun hq => ?_)
    refine x_aload_n (i := 0) C dJ7_fill_53178_10 rfl rfl ?_
    refine x_iload_n (i := 2) C dJ7_fill_53178_11 rfl rfl ?_
    refine x_iload_n (i := 1) C dJ7_fill_53178_12 rfl rfl ?_
    refine x_iastO C ht (vp_in_nI hi (by omega)) dJ7_fill_53178_13 ?_
    refine x_iinc (i := 2) (v := nI (i + 1)) C dJ7_fill_53178_14 rfl (inc1 i) ?_
    refine x_goto C 5 dJ7_fill_53178_17 (by decide) ?_
    refine x_ws (show ((q, .inl (cA, N, .inl (upd (fillF f z i) (nI i).toNatClampNeg z))) :: X : va_W) = ((q, .inl (cA, N, .inl (fillF f z (i + 1)))) :: X) by rw [nI_clamp (by omega)]; rfl) ?_
    exact x_subm kk rfl
section FLG
variable {p : Program} {l : Launch} {e : Env} {R : Room} {s : State} {m : MethodId} {args : Array Value} {below : List Frame} {meth : Method} {c : Code} {cells slots : Nat} {Q : State → Prop} {cc : ByteArray} {nL : Nat} {own : String} {Ts : List Cond} {D : va_G} {A : Nat → Prop} {ret : Option FieldType} {pc : Nat} {lv : List (Nat × Value)} {st : List Value} {tys : List (ClassId × FieldType)} {ws : va_W}
theorem x_alenG (C : xC p s m args meth c cc nL own Ts D tys A ret) {q0 q N t0 : Nat} {cA : ClassId} {f : Nat → Int32} (hq : ws[q0]? = some (q, .inl (cA, N, .inl f))) (ht : tys[t0]? = some (cA, .int)) {v : Int32} (hv : Int32.ofNat N = v) (hd : decode cc pc = .ok (.arraylength, 1))
    (kk : xA p l e R s m args below meth c D A nL cells slots Q (pc + 1) lv (.int v :: st) ws) : xA p l e R s m args below meth c D A nL cells slots Q pc lv (.ref q :: st) ws :=
  fun H locs ls hP hD hS hl => va_alen C.1 C.2.1 C.2.2.2.2.2.1 hP q0 t0 hq ht hv hd (kk H locs ls hP hD hS hl)
theorem x_iastG (C : xC p s m args meth c cc nL own Ts D tys A ret) {q0 q N t0 : Nat} {cA : ClassId} {f : Nat → Int32} (hq : ws[q0]? = some (q, .inl (cA, N, .inl f))) (ht : tys[t0]? = some (cA, .int)) {i x : Int32} (hi : vp_in i N) (hd : decode cc pc = .ok (.iastore, 1))
    (kk : xA p l e R s m args below meth c D A nL cells slots Q (pc + 1) lv st (ws.set q0 (q, .inl (cA, N, .inl (upd f i.toNatClampNeg x))))) : xA p l e R s m args below meth c D A nL cells slots Q pc lv (.int x :: .int i :: .ref q :: st) ws :=
  fun H locs ls hP hD hS hl => va_iast C.1 C.2.1 C.2.2.2.2.2.1 hP hD hS q0 t0 hq ht hi hd (fun H1 locs1 hP1 hD1 hS1 => kk H1 locs1 ls hP1 hD1 hS1 hl)
end FLG
theorem set_same {ws : va_W} {q0 : Nat} {x : Nat × va_E} (h : ws[q0]? = some x) : ws.set q0 x = ws := by
  apply List.ext_getElem?
  intro j
  rw [List.getElem?_set]
  by_cases hj : q0 = j
  · subst hj
    rw [if_pos rfl, if_pos (List.getElem?_eq_some_iff.mp h).1, h]
  · rw [if_neg hj]
/-- the same, of an array anywhere in the world -/
theorem k_G7_fill (l : Launch) (D : va_G) (tys : List (ClassId × FieldType)) (A : Nat → Prop) (ws : va_W) {q0 q N t0 : Nat} {cA : ClassId} (hN : N < 1000) (ht : tys[t0]? = some (cA, .int)) (f : Nat → Int32) (hq : ws[q0]? = some (q, .inl (cA, N, .inl f))) (z : Int32) : Met l yJ7_fill_53178 wsJ7_fill_53178 rmJ7_fill (va_Pc [.ref q, .int z] (xPre D tys A ws)) (va_Qv (fun (_ : Unit) => True) (fun _ t => xPost D tys A (ws.set q0 (q, .inl (cA, N, .inl (fillF f z N)))) t) A) 0 0 A := by
  have hlt : q0 < ws.length := (List.getElem?_eq_some_iff.mp hq).1
  have hg : ∀ g : Nat → Int32, (ws.set q0 (q, .inl (cA, N, .inl g)))[q0]? = some (q, .inl (cA, N, .inl g)) := fun g => by rw [List.getElem?_set, if_pos rfl, if_pos hlt]
  refine x_met (own := RJ7) (by decide) rfl rfl (Nat.le_of_ble_eq_true rfl) rfl ?_
  intro p e s m below meth c hnm C hE
  refine x_iconst (v := 0) C dJ7_fill_53178_0 (by decide) ?_
  refine x_istore_n (i := 2) C dJ7_fill_53178_1 rfl (by decide) ?_
  refine x_aload_n (i := 0) C dJ7_fill_53178_2 rfl rfl ?_
  refine x_alenG (v := nI N) C hq ht rfl dJ7_fill_53178_3 ?_
  refine x_istore_n (i := 3) C dJ7_fill_53178_4 rfl (by decide) ?_
  refine x_subm (lv' := [(2, .int (nI 0)), (3, .int (nI N)), (0, .ref q), (1, .int z)]) ?_ rfl
  refine x_ws (show ws = ws.set q0 (q, .inl (cA, N, .inl (fillF f z 0))) from (set_same hq).symm) ?_
  refine x_count (N := N) (fun i => xA p l e rmJ7_fill s m _ below meth c D A 4 0 0 _ 5 [(2, .int (nI i)), (3, .int (nI N)), (0, .ref q), (1, .int z)] [] (ws.set q0 (q, .inl (cA, N, .inl (fillF f z i))))) ?_ ?_
  · refine x_iload_n (i := 2) C dJ7_fill_53178_5 rfl rfl ?_
    refine x_iload_n (i := 3) C dJ7_fill_53178_6 rfl rfl ?_
    refine x_icmp_ge C 20 dJ7_fill_53178_7 (by decide) (fun hq => ?_) (fun hq => absurd (by rw [ti_le]; omega : nI N ≤ nI N) hq)
    exact x_vret (σ := Unit) (Wf := fun (_ : Unit) => ws.set q0 (q, .inl (cA, N, .inl (fillF f z N)))) (u := ()) C dJ7_fill_53178_20 ⟨Nat.le_refl _, Nat.le_refl _⟩ trivial
  · intro i hi kk
    refine x_iload_n (i := 2) C dJ7_fill_53178_5 rfl rfl ?_
    refine x_iload_n (i := 3) C dJ7_fill_53178_6 rfl rfl ?_
    refine x_icmp_ge C 20 dJ7_fill_53178_7 (by decide) (fun hq => absurd hq (nI_ge hi (by omega))) (fun hq => ?_)
    refine x_aload_n (i := 0) C dJ7_fill_53178_10 rfl rfl ?_
    refine x_iload_n (i := 2) C dJ7_fill_53178_11 rfl rfl ?_
    refine x_iload_n (i := 1) C dJ7_fill_53178_12 rfl rfl ?_
    refine x_iastG C (hg _) ht (vp_in_nI hi (by omega)) dJ7_fill_53178_13 ?_
    refine x_iinc (i := 2) (v := nI (i + 1)) C dJ7_fill_53178_14 rfl (inc1 i) ?_
    refine x_goto C 5 dJ7_fill_53178_17 (by decide) ?_
    refine x_ws (show (ws.set q0 (q, .inl (cA, N, .inl (fillF f z i)))).set q0 (q, .inl (cA, N, .inl (upd (fillF f z i) (nI i).toNatClampNeg z))) = ws.set q0 (q, .inl (cA, N, .inl (fillF f z (i + 1)))) by rw [List.set_set, nI_clamp (by omega)]; rfl) ?_
    exact x_subm kk rfl
/-! ===== END fill ===== -/
