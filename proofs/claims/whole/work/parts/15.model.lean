/-! ===== BEGIN model: the small methods of the reference ===== -/
theorem x_join {p : Program} {l : Launch} {e : Env} {R : Room} {s : State} {m : MethodId} {args : Array Value} {below : List Frame} {meth : Method} {c : Code} {cells slots : Nat} {Q : State → Prop} {nL : Nat} {D : va_G} {A : Nat → Prop} {pc : Nat} {lv : List (Nat × Value)} {st : List Value} {ws : va_W} {J : Nat} {st' : List Value} (P : Int32 → Prop) (h : ∀ v, P v → xA p l e R s m args below meth c D A nL cells slots Q J lv (.int v :: st') ws) (k : (∀ v, P v → xA p l e R s m args below meth c D A nL cells slots Q J lv (.int v :: st') ws) → xA p l e R s m args below meth c D A nL cells slots Q pc lv st ws) : xA p l e R s m args below meth c D A nL cells slots Q pc lv st ws := k h
def inB (v lo hi : Int32) : Bool := !decide (v < lo) && !decide (hi < v)
def szB (z : Int32) : Bool := decide (z = -1) || inB z 1 100000
theorem b2i_01 (x : Bool) : b2i x = 0 ∨ b2i x = 1 := by cases x <;> decide
theorem cod0 {z : Int32} (h : b2i (!decide (z = 0)) = 0) : z = 0 := by
  rw [b2i_0] at h
  simpa using h
theorem cod1 {z : Int32} (h : ¬ b2i (!decide (z = 0)) = 0) : ¬ z = 0 := fun q => h (by rw [q]; decide)
theorem inB_lt {v lo hi : Int32} (h : inB v lo hi = true) : ¬ v < lo ∧ ¬ hi < v := by
  simp only [inB, Bool.and_eq_true, Bool.not_eq_true', decide_eq_false_iff_not] at h
  exact h
theorem inB_in {v hi : Int32} {N : Nat} (h : inB v 0 hi = true) (hN : hi.toInt < N) : vp_in v N := by
  obtain ⟨h1, h2⟩ := inB_lt h
  rw [vp_in_iff]
  have a1 : ¬ v.toInt < (0 : Int32).toInt := fun z => h1 (Int32.lt_iff_toInt_lt.mpr z)
  have a2 : ¬ hi.toInt < v.toInt := fun z => h2 (Int32.lt_iff_toInt_lt.mpr z)
  have b1 : (0 : Int32).toInt = 0 := by decide
  omega
theorem inB_7 {v : Int32} (h : inB v 0 7 = true) : vp_in v 8 := inB_in h (by decide)
theorem pred_lt {x : Int32} {n N : Nat} (h : x = nI n) (hn : n ≤ N) (hN : N < 100) : (x - 1).toInt < N := by
  rw [h]
  cases n with
  | zero =>
    have : ((nI 0) - 1).toInt = -1 := by decide
    omega
  | succ k =>
    rw [nI_pred, nI_toInt (by omega)]
    omega
theorem vp_eq {x : Int32} {n N : Nat} (h : x = nI n) (hn : n < N) (hN : N < 1000) : vp_in x N := by
  rw [h]
  exact vp_in_nI hn (by omega)
theorem cl_eq {x : Int32} {n : Nat} (h : x = nI n) (hn : n < 1000) : x.toNatClampNeg = n := by
  rw [h]
  exact nI_clamp (by omega)
theorem nI_of_in {x : Int32} {n : Nat} (h : vp_in x n) (hn : n < 1000) : x = nI x.toNatClampNeg := by
  obtain ⟨j, hj, e⟩ := vp_in_of h (by omega)
  rw [e, nI_clamp (by omega)]
def codeAllow (v k : Int32) : Int32 := if inB v 0 7 = true then (if inB k 0 15 = true then 0 else 2) else 1
def codeImage (v z : Int32) : Int32 := if inB v 0 7 = true then (if szB z = true then 0 else 2) else 1
def codeDelta (f t z : Int32) : Int32 := if (inB f 0 7 && inB t 0 7) = true then (if f = t then 2 else if szB z = true then 0 else 2) else 1
def codeSize (f t : Int32) : Int32 := if (inB f 0 7 && inB t 0 7) = true then 0 else 1
def codeDev (V : XV) (d : Int32) : Int32 := if inB d 0 (V 0 6 - 1) = true then 0 else 1
def codeCam (V : XV) (q : Int32) : Int32 := if inB q 0 (V 0 15 - 1) = true then 0 else 1
def codeCharge (V : XV) (d z : Int32) : Int32 := if inB d 0 (V 0 6 - 1) = true then (if inB z 0 100 = true then 0 else 2) else 1
def codeWindow (V : XV) (d f t : Int32) : Int32 := if inB d 0 (V 0 6 - 1) = true then (if (inB f 0 23 && inB t 0 23) = true then 0 else 2) else 1
def codeReport (V : XV) (d : Int32) : Int32 := if inB d 0 (V 0 6 - 1) = true then (if V 10 d.toNatClampNeg = 2 then 0 else 2) else 1
def codeAdd (V : XV) (k v : Int32) : Int32 := if (inB k 0 3 && inB v 0 7) = true then (if ((inB k 0 3 && inB v 0 7) && (!decide (10 ≤ V 0 6) && hasB (V 1 v.toNatClampNeg) k)) = true then 0 else 2) else 1
def codeBegin (V : XV) (t k vs rep : Int32) : Int32 := if (inB t 0 7 && (decide (rep = -1) || inB rep 0 (V 0 15 - 1))) = true then (if (inB k 0 15 && inB vs 0 255) = true then (if V 0 15 = 6 then 3 else 0) else 2) else 1
def codeRules (V : XV) (q f s n th : Int32) : Int32 := if inB q 0 (V 0 15 - 1) = true then (if (inB f 0 100 && (inB s f 100 && (inB n 1 10 && inB th 0 1000))) = true then 0 else 2) else 1
def codePass (h : Int32) : Int32 := if inB h 1 100 = true then 0 else 1
theorem ite_ne {p : Bool} {x y : Int32} (h : (if p = true then x else y) = 0) (hy : y ≠ 0) : p = true ∧ x = 0 := by
  cases p with
  | true => exact ⟨rfl, by simpa using h⟩
  | false => exact absurd (by simpa using h) hy
theorem codeAllow_in {v k : Int32} (h : codeAllow v k = 0) : inB v 0 7 = true ∧ inB k 0 15 = true := ⟨(ite_ne h (by decide)).1, (ite_ne (ite_ne h (by decide)).2 (by decide)).1⟩
theorem codeImage_in {v z : Int32} (h : codeImage v z = 0) : inB v 0 7 = true ∧ szB z = true := ⟨(ite_ne h (by decide)).1, (ite_ne (ite_ne h (by decide)).2 (by decide)).1⟩
theorem codeDelta_in {f t z : Int32} (h : codeDelta f t z = 0) : inB f 0 7 = true ∧ inB t 0 7 = true := by
  have := (ite_ne h (by decide)).1
  simpa using this
theorem codeSize_in {f t : Int32} (h : codeSize f t = 0) : inB f 0 7 = true ∧ inB t 0 7 = true := by
  have := (ite_ne h (by decide)).1
  simpa using this
theorem codeDev_in {V : XV} {d : Int32} {n : Nat} (h : codeDev V d = 0) (hn : V 0 6 = nI n) (hn10 : n ≤ 10) : vp_in d 10 := inB_in (ite_ne h (by decide)).1 (pred_lt hn hn10 (by decide))
theorem codeCam_in {V : XV} {d : Int32} {n : Nat} (h : codeCam V d = 0) (hn : V 0 15 = nI n) (hn6 : n ≤ 6) : vp_in d 6 := inB_in (ite_ne h (by decide)).1 (pred_lt hn hn6 (by decide))
theorem codeCharge_in {V : XV} {d z : Int32} {n : Nat} (h : codeCharge V d z = 0) (hn : V 0 6 = nI n) (hn10 : n ≤ 10) : vp_in d 10 := inB_in (ite_ne h (by decide)).1 (pred_lt hn hn10 (by decide))
theorem codeWindow_in {V : XV} {d f t : Int32} {n : Nat} (h : codeWindow V d f t = 0) (hn : V 0 6 = nI n) (hn10 : n ≤ 10) : vp_in d 10 := inB_in (ite_ne h (by decide)).1 (pred_lt hn hn10 (by decide))
theorem codeReport_in {V : XV} {d : Int32} {n : Nat} (h : codeReport V d = 0) (hn : V 0 6 = nI n) (hn10 : n ≤ 10) : vp_in d 10 ∧ V 10 d.toNatClampNeg = 2 := by
  refine ⟨inB_in (ite_ne h (by decide)).1 (pred_lt hn hn10 (by decide)), ?_⟩
  have := (ite_ne h (by decide)).2
  by_cases h2 : V 10 d.toNatClampNeg = 2
  · exact h2
  · rw [if_neg h2] at this; exact absurd this (by decide)
theorem codeRules_in {V : XV} {q f s n th : Int32} {m : Nat} (h : codeRules V q f s n th = 0) (hm : V 0 15 = nI m) (hm6 : m ≤ 6) : vp_in q 6 := inB_in (ite_ne h (by decide)).1 (pred_lt hm hm6 (by decide))
theorem idx8 {f t : Int32} (hf : vp_in f 8) (ht : vp_in t 8) : (8 * f + t).toNatClampNeg = 8 * f.toNatClampNeg + t.toNatClampNeg ∧ vp_in (8 * f + t) 64 := by
  obtain ⟨f9, hf9, ef⟩ := vp_in_of hf (by decide)
  obtain ⟨t9, ht9, et⟩ := vp_in_of ht (by decide)
  have e8 : (8 : Int32) = nI 8 := rfl
  have e : 8 * f + t = nI (8 * f9 + t9) := by rw [ef, et, e8, pk_mul, nI_add]
  rw [e, ef, et, cl8 hf9, cl8 ht9]
  exact ⟨nI_clamp (by omega), vp_in_nI (by omega) (by decide)⟩
theorem idx3 {q : Int32} (hq : vp_in q 6) : (3 * q).toNatClampNeg = 3 * q.toNatClampNeg ∧ vp_in (3 * q) 18 ∧ (3 * q + 1).toNatClampNeg = 3 * q.toNatClampNeg + 1 ∧ vp_in (3 * q + 1) 18 ∧ (3 * q + 2).toNatClampNeg = 3 * q.toNatClampNeg + 2 ∧ vp_in (3 * q + 2) 18 := by
  obtain ⟨q9, hq9, eq⟩ := vp_in_of hq (by decide)
  have e3 : (3 : Int32) = nI 3 := rfl
  have e1 : (1 : Int32) = nI 1 := rfl
  have e2 : (2 : Int32) = nI 2 := rfl
  have e : 3 * q = nI (3 * q9) := by rw [eq, e3, pk_mul]
  have f1 : 3 * q + 1 = nI (3 * q9 + 1) := by rw [e, e1, nI_add]
  have f2 : 3 * q + 2 = nI (3 * q9 + 2) := by rw [e, e2, nI_add]
  have eq9 : q.toNatClampNeg = q9 := by rw [eq]; exact nI_clamp (by omega)
  rw [f1, f2, e, eq9]
  exact ⟨nI_clamp (by omega), vp_in_nI (by omega) (by decide), nI_clamp (by omega), vp_in_nI (by omega) (by decide), nI_clamp (by omega), vp_in_nI (by omega) (by decide)⟩
def rmX4_in : Room := { frames := 0, cells := 0, slots := 0, locals := 0 }
set_option maxHeartbeats 4000000 in
set_option maxRecDepth 100000 in
theorem k_X4_in (l : Launch) (D : va_G) (tys : List (ClassId × FieldType)) (A : Nat → Prop) (ws : va_W) (v lo hi : Int32) : Met l yX4_in wsX4_in rmX4_in (va_Pc [.int v, .int lo, .int hi] (xPre D tys A ws)) (va_Qi (fun (r : Int32) (_ : Unit) => r = b2i (inB v lo hi)) (fun _ t => xPost D tys A ws t) A) 0 0 A := by
  refine x_met (own := RX4) (by decide) rfl rfl (Nat.le_of_ble_eq_true rfl) rfl ?_
  intro p e s m below meth c hnm C hE
  refine x_iload_n (i := 0) C dX4_in_0 rfl rfl ?_
  refine x_iload_n (i := 1) C dX4_in_1 rfl rfl ?_
  refine x_icmp_lt C 14 dX4_in_2 (by decide) (fun c_2 => ?_) (fun c_2 => ?_)
  · refine x_iconst (v := 0) C dX4_in_14 (by decide) ?_
    exact x_zret (u := ()) C dX4_in_15 ⟨Nat.le_of_ble_eq_true rfl, Nat.le_of_ble_eq_true rfl⟩ rfl (by simp [inB, b2i, c_2])
  refine x_iload_n (i := 0) C dX4_in_5 rfl rfl ?_
  refine x_iload_n (i := 2) C dX4_in_6 rfl rfl ?_
  refine x_icmp_gt C 14 dX4_in_7 (by decide) (fun c_7 => ?_) (fun c_7 => ?_)
  · refine x_iconst (v := 0) C dX4_in_14 (by decide) ?_
    exact x_zret (u := ()) C dX4_in_15 ⟨Nat.le_of_ble_eq_true rfl, Nat.le_of_ble_eq_true rfl⟩ rfl (by simp [inB, b2i, c_2, c_7])
  refine x_iconst (v := 1) C dX4_in_10 (by decide) ?_
  refine x_goto C 15 dX4_in_11 (by decide) ?_
  exact x_zret (u := ()) C dX4_in_15 ⟨Nat.le_of_ble_eq_true rfl, Nat.le_of_ble_eq_true rfl⟩ rfl (by simp [inB, b2i, c_2, c_7])
def rmX4_isVersion : Room := { frames := 1, cells := 0, slots := 0, locals := 22 }
set_option maxHeartbeats 4000000 in
set_option maxRecDepth 100000 in
theorem k_X4_isVersion (l : Launch) (D : va_G) (tys : List (ClassId × FieldType)) (A : Nat → Prop) (ws : va_W) (v : Int32) : Met l yX4_isVersion wsX4_isVersion rmX4_isVersion (va_Pc [.int v] (xPre D tys A ws)) (va_Qi (fun (r : Int32) (_ : Unit) => r = b2i (inB v 0 7)) (fun _ t => xPost D tys A ws t) A) 0 0 A := by
  refine x_met (own := RX4) (by decide) rfl rfl (Nat.le_of_ble_eq_true rfl) rfl ?_
  intro p e s m below meth c hnm C hE
  refine x_iload_n (i := 0) C dX4_isVersion_0 rfl rfl ?_
  refine x_iconst (v := 0) C dX4_isVersion_1 (by decide) ?_
  refine x_bipush (v := 7) C dX4_isVersion_2 (by decide) ?_
  refine x_callSi C hE (k_X4_in l D _ A _ _ _ _) (va_cwS 3 C.2.2.2.2.1 gX4_isVersion_X4_in rfl rfl rfl (by decide +kernel) ⟨Nat.le_of_ble_eq_true rfl, Nat.le_of_ble_eq_true rfl⟩)  rfl rfl (Nat.le_of_ble_eq_true rfl) dX4_isVersion_4 ⟨Nat.le_of_ble_eq_true rfl, Nat.le_of_ble_eq_true rfl⟩ (fun r_4 u_4 h_4 => ?_)
  subst h_4
  exact x_zret (u := ()) C dX4_isVersion_7 ⟨Nat.le_of_ble_eq_true rfl, Nat.le_of_ble_eq_true rfl⟩ (nz (b2i_01 _)) rfl
def rmX4_isSize : Room := { frames := 1, cells := 0, slots := 0, locals := 22 }
set_option maxHeartbeats 4000000 in
set_option maxRecDepth 100000 in
theorem k_X4_isSize (l : Launch) (D : va_G) (tys : List (ClassId × FieldType)) (A : Nat → Prop) (ws : va_W) (z : Int32) : Met l yX4_isSize wsX4_isSize rmX4_isSize (va_Pc [.int z] (xPre D tys A ws)) (va_Qi (fun (r : Int32) (_ : Unit) => r = b2i (szB z)) (fun _ t => xPost D tys A ws t) A) 0 0 A := by
  refine x_met (own := RX4) (by decide) rfl rfl (Nat.le_of_ble_eq_true rfl) rfl ?_
  intro p e s m below meth c hnm C hE
  refine x_iload_n (i := 0) C dX4_isSize_0 rfl rfl ?_
  refine x_iconst (v := (-1)) C dX4_isSize_1 (by decide) ?_
  refine x_icmp_eq C 15 dX4_isSize_2 (by decide) (fun c_2 => ?_) (fun c_2 => ?_)
  · refine x_iconst (v := 1) C dX4_isSize_15 (by decide) ?_
    refine x_goto C 20 dX4_isSize_16 (by decide) ?_
    exact x_zret (u := ()) C dX4_isSize_20 ⟨Nat.le_of_ble_eq_true rfl, Nat.le_of_ble_eq_true rfl⟩ rfl (by (try simp only [b2i_0, Bool.not_eq_false] at c_2); simp [szB, b2i, c_2])
  refine x_iload_n (i := 0) C dX4_isSize_5 rfl rfl ?_
  refine x_iconst (v := 1) C dX4_isSize_6 (by decide) ?_
  refine x_ldc (v := 100000) C (by decide +kernel) dX4_isSize_7 ?_
  refine x_callSi C hE (k_X4_in l D _ A _ _ _ _) (va_cwS 3 C.2.2.2.2.1 gX4_isSize_X4_in rfl rfl rfl (by decide +kernel) ⟨Nat.le_of_ble_eq_true rfl, Nat.le_of_ble_eq_true rfl⟩)  rfl rfl (Nat.le_of_ble_eq_true rfl) dX4_isSize_9 ⟨Nat.le_of_ble_eq_true rfl, Nat.le_of_ble_eq_true rfl⟩ (fun r_9 u_9 h_9 => ?_)
  subst h_9
  refine x_if_eq C 19 dX4_isSize_12 (by decide) (fun c_12 => ?_) (fun c_12 => ?_)
  · refine x_iconst (v := 0) C dX4_isSize_19 (by decide) ?_
    exact x_zret (u := ()) C dX4_isSize_20 ⟨Nat.le_of_ble_eq_true rfl, Nat.le_of_ble_eq_true rfl⟩ rfl (by (try simp only [b2i_0, Bool.not_eq_false] at c_2 c_12); simp [szB, b2i, c_2, c_12])
  refine x_iconst (v := 1) C dX4_isSize_15 (by decide) ?_
  refine x_goto C 20 dX4_isSize_16 (by decide) ?_
  exact x_zret (u := ()) C dX4_isSize_20 ⟨Nat.le_of_ble_eq_true rfl, Nat.le_of_ble_eq_true rfl⟩ rfl (by (try simp only [b2i_0, Bool.not_eq_false] at c_2 c_12); simp [szB, b2i, c_2, c_12])
theorem hinX4_thrown_X4 : ∀ w ∈ wsX40, w ∈ wsX4_thrown := by decide +kernel
def rmX4_thrown : Room := { frames := 0, cells := 0, slots := 0, locals := 0 }
set_option maxHeartbeats 4000000 in
set_option maxRecDepth 100000 in
theorem k_X4_thrown (l : Launch) (D : va_G) (cy : Nat → ClassId) (b : Nat → Nat) (A : Nat → Prop) (X : va_W) (V : XV)   : Met l yX4_thrown wsX4_thrown rmX4_thrown (va_Pc [.ref (b 0)] (xPre D (tyC cy) A (mW cy b X V))) (va_Qi (fun (r : Int32) (u : XV) => r = V 0 0 ∧ u = V) (fun u t => xPost D (tyC cy) A (mW cy b X u) t) A) 0 0 A := by
  refine x_met (own := RX4) (by decide) rfl rfl (Nat.le_of_ble_eq_true rfl) rfl ?_
  intro p e s m below meth c hnm C hE
  refine x_aload_n (i := 0) C dX4_thrown_0 rfl rfl ?_
  refine x_getM C 0 mI_0 hinX4_thrown_X4 (by decide +kernel) dX4_thrown_1 ?_
  exact x_iret  C dX4_thrown_4 ⟨Nat.le_of_ble_eq_true rfl, Nat.le_of_ble_eq_true rfl⟩ ⟨rfl, rfl⟩
theorem hinX4_refused_X4 : ∀ w ∈ wsX40, w ∈ wsX4_refused := by decide +kernel
def rmX4_refused : Room := { frames := 0, cells := 0, slots := 0, locals := 0 }
set_option maxHeartbeats 4000000 in
set_option maxRecDepth 100000 in
theorem k_X4_refused (l : Launch) (D : va_G) (cy : Nat → ClassId) (b : Nat → Nat) (A : Nat → Prop) (X : va_W) (V : XV) (z : Int32)  : Met l yX4_refused wsX4_refused rmX4_refused (va_Pc [.ref (b 0), .int z] (xPre D (tyC cy) A (mW cy b X V))) (va_Qi (fun (r : Int32) (u : XV) => r = b2i (!decide (z = 0)) ∧ u = xs V 0 0 z) (fun u t => xPost D (tyC cy) A (mW cy b X u) t) A) 0 0 A := by
  refine x_met (own := RX4) (by decide) rfl rfl (Nat.le_of_ble_eq_true rfl) rfl ?_
  intro p e s m below meth c hnm C hE
  refine x_aload_n (i := 0) C dX4_refused_0 rfl rfl ?_
  refine x_iload_n (i := 1) C dX4_refused_1 rfl rfl ?_
  refine x_putM C 0 mI_0 hinX4_refused_X4 (by decide +kernel) dX4_refused_2 ?_
  refine x_iload_n (i := 1) C dX4_refused_5 rfl rfl ?_
  refine x_if_eq C 13 dX4_refused_6 (by decide) (fun c_6 => ?_) (fun c_6 => ?_)
  · refine x_iconst (v := 0) C dX4_refused_13 (by decide) ?_
    exact x_zret  C dX4_refused_14 ⟨Nat.le_of_ble_eq_true rfl, Nat.le_of_ble_eq_true rfl⟩ rfl ⟨by simp [b2i, c_6], rfl⟩
  refine x_iconst (v := 1) C dX4_refused_9 (by decide) ?_
  refine x_goto C 14 dX4_refused_10 (by decide) ?_
  exact x_zret  C dX4_refused_14 ⟨Nat.le_of_ble_eq_true rfl, Nat.le_of_ble_eq_true rfl⟩ rfl ⟨by simp [b2i, c_6], rfl⟩
theorem hinX4_fine_X4 : ∀ w ∈ wsX40, w ∈ wsX4_fine := by decide +kernel
def rmX4_fine : Room := { frames := 0, cells := 0, slots := 0, locals := 0 }
set_option maxHeartbeats 4000000 in
set_option maxRecDepth 100000 in
theorem k_X4_fine (l : Launch) (D : va_G) (cy : Nat → ClassId) (b : Nat → Nat) (A : Nat → Prop) (X : va_W) (V : XV) (z : Int32)  : Met l yX4_fine wsX4_fine rmX4_fine (va_Pc [.ref (b 0), .int z] (xPre D (tyC cy) A (mW cy b X V))) (va_Qi (fun (r : Int32) (u : XV) => r = z ∧ u = xs V 0 0 0) (fun u t => xPost D (tyC cy) A (mW cy b X u) t) A) 0 0 A := by
  refine x_met (own := RX4) (by decide) rfl rfl (Nat.le_of_ble_eq_true rfl) rfl ?_
  intro p e s m below meth c hnm C hE
  refine x_aload_n (i := 0) C dX4_fine_0 rfl rfl ?_
  refine x_iconst (v := 0) C dX4_fine_1 (by decide) ?_
  refine x_putM C 0 mI_0 hinX4_fine_X4 (by decide +kernel) dX4_fine_2 ?_
  refine x_iload_n (i := 1) C dX4_fine_5 rfl rfl ?_
  exact x_iret  C dX4_fine_6 ⟨Nat.le_of_ble_eq_true rfl, Nat.le_of_ble_eq_true rfl⟩ ⟨rfl, rfl⟩
theorem hinX4_isDevice_X4 : ∀ w ∈ wsX40, w ∈ wsX4_isDevice := by decide +kernel
def rmX4_isDevice : Room := { frames := 1, cells := 0, slots := 0, locals := 22 }
set_option maxHeartbeats 4000000 in
set_option maxRecDepth 100000 in
theorem k_X4_isDevice (l : Launch) (D : va_G) (cy : Nat → ClassId) (b : Nat → Nat) (A : Nat → Prop) (X : va_W) (V : XV) (d : Int32)  : Met l yX4_isDevice wsX4_isDevice rmX4_isDevice (va_Pc [.ref (b 0), .int d] (xPre D (tyC cy) A (mW cy b X V))) (va_Qi (fun (r : Int32) (u : XV) => r = b2i (inB d 0 (V 0 6 - 1)) ∧ u = V) (fun u t => xPost D (tyC cy) A (mW cy b X u) t) A) 0 0 A := by
  refine x_met (own := RX4) (by decide) rfl rfl (Nat.le_of_ble_eq_true rfl) rfl ?_
  intro p e s m below meth c hnm C hE
  refine x_iload_n (i := 1) C dX4_isDevice_0 rfl rfl ?_
  refine x_iconst (v := 0) C dX4_isDevice_1 (by decide) ?_
  refine x_aload_n (i := 0) C dX4_isDevice_2 rfl rfl ?_
  refine x_getM C 6 mI_6 hinX4_isDevice_X4 (by decide +kernel) dX4_isDevice_3 ?_
  refine x_iconst (v := 1) C dX4_isDevice_6 (by decide) ?_
  refine x_isub C dX4_isDevice_7 ?_
  refine x_callSi C hE (k_X4_in l D _ A _ _ _ _) (va_cwS 3 C.2.2.2.2.1 gX4_isDevice_X4_in rfl rfl rfl (by decide +kernel) ⟨Nat.le_of_ble_eq_true rfl, Nat.le_of_ble_eq_true rfl⟩)  rfl rfl (Nat.le_of_ble_eq_true rfl) dX4_isDevice_8 ⟨Nat.le_of_ble_eq_true rfl, Nat.le_of_ble_eq_true rfl⟩ (fun r_8 u_8 h_8 => ?_)
  subst h_8
  exact x_zret  C dX4_isDevice_11 ⟨Nat.le_of_ble_eq_true rfl, Nat.le_of_ble_eq_true rfl⟩ (nz (b2i_01 _)) ⟨rfl, rfl⟩
theorem hinX4_isCampaign_X4 : ∀ w ∈ wsX40, w ∈ wsX4_isCampaign := by decide +kernel
def rmX4_isCampaign : Room := { frames := 1, cells := 0, slots := 0, locals := 22 }
set_option maxHeartbeats 4000000 in
set_option maxRecDepth 100000 in
theorem k_X4_isCampaign (l : Launch) (D : va_G) (cy : Nat → ClassId) (b : Nat → Nat) (A : Nat → Prop) (X : va_W) (V : XV) (q : Int32)  : Met l yX4_isCampaign wsX4_isCampaign rmX4_isCampaign (va_Pc [.ref (b 0), .int q] (xPre D (tyC cy) A (mW cy b X V))) (va_Qi (fun (r : Int32) (u : XV) => r = b2i (inB q 0 (V 0 15 - 1)) ∧ u = V) (fun u t => xPost D (tyC cy) A (mW cy b X u) t) A) 0 0 A := by
  refine x_met (own := RX4) (by decide) rfl rfl (Nat.le_of_ble_eq_true rfl) rfl ?_
  intro p e s m below meth c hnm C hE
  refine x_iload_n (i := 1) C dX4_isCampaign_0 rfl rfl ?_
  refine x_iconst (v := 0) C dX4_isCampaign_1 (by decide) ?_
  refine x_aload_n (i := 0) C dX4_isCampaign_2 rfl rfl ?_
  refine x_getM C 15 mI_15 hinX4_isCampaign_X4 (by decide +kernel) dX4_isCampaign_3 ?_
  refine x_iconst (v := 1) C dX4_isCampaign_6 (by decide) ?_
  refine x_isub C dX4_isCampaign_7 ?_
  refine x_callSi C hE (k_X4_in l D _ A _ _ _ _) (va_cwS 3 C.2.2.2.2.1 gX4_isCampaign_X4_in rfl rfl rfl (by decide +kernel) ⟨Nat.le_of_ble_eq_true rfl, Nat.le_of_ble_eq_true rfl⟩)  rfl rfl (Nat.le_of_ble_eq_true rfl) dX4_isCampaign_8 ⟨Nat.le_of_ble_eq_true rfl, Nat.le_of_ble_eq_true rfl⟩ (fun r_8 u_8 h_8 => ?_)
  subst h_8
  exact x_zret  C dX4_isCampaign_11 ⟨Nat.le_of_ble_eq_true rfl, Nat.le_of_ble_eq_true rfl⟩ (nz (b2i_01 _)) ⟨rfl, rfl⟩
