/-! ===== BEGIN pub: the public methods of the class, but those of the hours ===== -/
def seqx (x y : Option String) : Option String := match x with
  | none => y
  | some E => some E
theorem seqx_1 {x y : Option String} {E : String} (h : x = some E) : seqx x y = some E := by rw [h]; rfl
theorem seqx_2 {x y z : Option String} (h : x = none) (h2 : y = z) : seqx x y = z := by rw [h, ← h2]; rfl
theorem nz {v : Int32} (h : v = 0 ∨ v = 1) : narrow .boolean (.int v) = .int v := by rcases h with rfl | rfl <;> rfl
def nKx (k : Int32) : Option String := if k < 0 then some xIO else if k < 4 then none else some xIO
def allowX (v k : Int32) : Option String := seqx (nVx v) (nRx k 0 15)
def setImageX (v z : Int32) : Option String := seqx (nVx v) (nBx z)
def setDeltaX (f t z : Int32) : Option String := seqx (nVx f) (seqx (nVx t) (if f = t then some xIA else nBx z))
def sizeX (f t : Int32) : Option String := seqx (nVx f) (nVx t)
def addDeviceX (V : XV) (k v : Int32) : Option String := seqx (nKx k) (seqx (nVx v) (if V 0 4 < 10 then (if hasB (V 1 v.toNatClampNeg) k = true then none else some xIS) else some xIS))
def addV0 (V : XV) (n : Nat) (k v : Int32) : XV := xs (xs V (9 + n) 1 k) (9 + n) 2 v
def addV (V : XV) (n : Nat) (k v : Int32) : XV := xs (addV0 V n k v) 0 4 (addV0 V n k v 0 4 + 1)
def chargeX (V : XV) (d z : Int32) : Option String := seqx (nDx V d) (nRx z 0 100)
def windowX (V : XV) (d f t : Int32) : Option String := seqx (nDx V d) (seqx (nRx f 0 23) (nRx t 0 23))
def reportX (V : XV) (d : Int32) : Option String := seqx (nDx V d) (if V (9 + d.toNatClampNeg) 6 = 2 then nCx V (V (9 + d.toNatClampNeg) 7) else some xIS)
def reportV0 (V : XV) (p q : Nat) (z : Int32) : XV := xs (xs (if z = 0 then V else xs V p 2 (V q 1)) p 6 0) p 7 (-1)
def reportV (V : XV) (p q : Nat) (z : Int32) : XV := judgeV (countV (reportV0 V p q z) q p z) q
def beginX (V : XV) (t k vs rep : Int32) : Option String := seqx (nVx t) (seqx (if rep = -1 then none else nCx V rep) (seqx (nRx k 0 15) (seqx (nRx vs 0 255) (if V 0 5 < 6 then none else some xIS))))
def beginV0 (V : XV) (rep : Int32) : XV := if rep = -1 then V else xs V (19 + rep.toNatClampNeg) 8 0
def beginV1 (V : XV) (n : Nat) (t k vs rep : Int32) : XV := xs (xs (xs (beginV0 V rep) (19 + n) 1 t) (19 + n) 2 k) (19 + n) 3 vs
def beginV (V : XV) (n : Nat) (t k vs rep : Int32) : XV := xs (beginV1 V n t k vs rep) 0 5 (beginV1 V n t k vs rep 0 5 + 1)
def rulesX (V : XV) (c f s n th : Int32) : Option String := seqx (nCx V c) (seqx (nRx f 0 100) (seqx (nRx s f 100) (seqx (nRx n 1 10) (nRx th 0 1000))))
def rulesV (V : XV) (q : Nat) (f s n th : Int32) : XV := xs (xs (xs (xs V q 4 f) q 5 s) q 6 n) q 7 th
def toggleV (V : XV) (q : Nat) : XV := if V q 8 = 0 then ringV (xs V q 8 1) q (xs V q 8 1 q 9) else xs V q 8 0
def mayTakeB (V : XV) (p q : Nat) : Bool := decide (V p 6 = 0) && (isForB V q p && (hasB (V 1 (V q 1).toNatClampNeg) (V p 1) && !decide (lbI V (V p 2) (V q 1) = -1)))
def safeV (V : XV) : Prop := (∀ p, 9 ≤ p ∧ p < 19 → vp_in (V p 2) 8) ∧ ∀ q, 19 ≤ q ∧ q < 25 → vp_in (V q 1) 8
def elI (V : XV) (q : Nat) : Nat → Int32
  | 0 => 0
  | d + 1 => if mayTakeB V (9 + d) q = true then elI V q d ||| (1 <<< (nI d &&& 31)) else elI V q d
theorem xs_self (V : XV) (p k : Nat) (v : Int32) : xs V p k v p k = v := by rw [xs_eq, if_pos ⟨rfl, rfl⟩]
theorem xs_get (V : XV) {p k q j : Nat} (v : Int32) (h : ¬ (q = p ∧ j = k)) : xs V p k v q j = V q j := by rw [xs_eq, if_neg h]
theorem toI10 {V : XV} {i n N : Nat} (h : V 0 i = nI n) (hn : n ≤ N) (hN : N < 100) : (V 0 i).toInt ≤ N := by
  rw [h, nI_toInt (by omega)]
  omega
theorem hinX3_allow_X3 : ∀ w ∈ wsX30, w ∈ wsX3_allow := by decide +kernel
def rmX3_allow : Room := { frames := 7, cells := 2, slots := 12, locals := 114 }
set_option maxHeartbeats 4000000 in
set_option maxRecDepth 100000 in
theorem k_X3_allow (l : Launch) (hfl : l.stackTraces = false) (D : va_G) (cy : Nat → ClassId) (a : Nat → Nat) (A : Nat → Prop) (X : va_W) (V : XV) (v k : Int32)  : vx_Met l yX3_allow wsX3_allow rmX3_allow (va_Pc [.ref (a 0), .int v, .int k] (xPre D (tyC cy) A (cW cy a X V))) (va_Qi (fun (r : Int32) (u : XV) => allowX v k = none ∧ r = V 1 v.toNatClampNeg ∧ u = xs V 1 v.toNatClampNeg k) (fun u t => xPost D (tyC cy) A (cW cy a X u) t) A) (xX D (tyC cy) A (cW cy a X V) (allowX v k)) 2 12 A := by
  refine x_metX (own := RX3) (by decide) rfl rfl (Nat.le_of_ble_eq_true rfl) rfl ?_
  intro p e s m below meth c hout C hE
  refine x_iload_n (i := 1) C dX3_allow_0 rfl rfl ?_
  refine x_callSvX hout C hE (k_X3_needVersion l hfl D _ A _ _) (va_cwS 1 C.2.2.2.2.1 gX3_allow_X3_needVersion rfl rfl rfl (by decide +kernel) ⟨Nat.le_of_ble_eq_true rfl, Nat.le_of_ble_eq_true rfl⟩)  rfl rfl (Nat.le_of_ble_eq_true rfl) dX3_allow_1 ⟨Nat.le_of_ble_eq_true rfl, Nat.le_of_ble_eq_true rfl⟩ ⟨Nat.le_of_ble_eq_true rfl, Nat.le_of_ble_eq_true rfl⟩ (fun E h9 => seqx_1 h9) (fun u_1 h_1 => ?_)
  cases u_1
  refine x_iload_n (i := 2) C dX3_allow_4 rfl rfl ?_
  refine x_iconst (v := 0) C dX3_allow_5 (by decide) ?_
  refine x_bipush (v := 15) C dX3_allow_6 (by decide) ?_
  refine x_callSvX hout C hE (k_X3_needRange l hfl D _ A _ _ _ _) (va_cwS 3 C.2.2.2.2.1 gX3_allow_X3_needRange rfl rfl rfl (by decide +kernel) ⟨Nat.le_of_ble_eq_true rfl, Nat.le_of_ble_eq_true rfl⟩)  rfl rfl (Nat.le_of_ble_eq_true rfl) dX3_allow_8 ⟨Nat.le_of_ble_eq_true rfl, Nat.le_of_ble_eq_true rfl⟩ ⟨Nat.le_of_ble_eq_true rfl, Nat.le_of_ble_eq_true rfl⟩ (fun E h9 => seqx_2 h_1 h9) (fun u_8 h_8 => ?_)
  cases u_8
  refine x_aload_n (i := 0) C dX3_allow_11 rfl rfl ?_
  refine x_getRr C 0 (by decide) hinX3_allow_X3 (by decide +kernel) dX3_allow_12 ?_
  refine x_iload_n (i := 1) C dX3_allow_15 rfl rfl ?_
  refine x_ialdC C (Or.inl rfl) (nVx_in h_1) rfl dX3_allow_16 ?_
  refine x_istore_n (i := 3) C dX3_allow_17 rfl (by decide) ?_
  refine x_aload_n (i := 0) C dX3_allow_18 rfl rfl ?_
  refine x_getRr C 0 (by decide) hinX3_allow_X3 (by decide +kernel) dX3_allow_19 ?_
  refine x_iload_n (i := 1) C dX3_allow_22 rfl rfl ?_
  refine x_iload_n (i := 2) C dX3_allow_23 rfl rfl ?_
  refine x_iastC C (Or.inl rfl) (nVx_in h_1) rfl dX3_allow_24 ?_
  refine x_iload_n (i := 3) C dX3_allow_25 rfl rfl ?_
  exact x_iretX  C dX3_allow_26 ⟨Nat.le_of_ble_eq_true rfl, Nat.le_of_ble_eq_true rfl⟩ ⟨seqx_2 h_1 h_8, rfl, rfl⟩
theorem hinX3_setImage_X3 : ∀ w ∈ wsX30, w ∈ wsX3_setImage := by decide +kernel
def rmX3_setImage : Room := { frames := 8, cells := 2, slots := 12, locals := 134 }
set_option maxHeartbeats 4000000 in
set_option maxRecDepth 100000 in
theorem k_X3_setImage (l : Launch) (hfl : l.stackTraces = false) (D : va_G) (cy : Nat → ClassId) (a : Nat → Nat) (A : Nat → Prop) (X : va_W) (V : XV) (v z : Int32)  : vx_Met l yX3_setImage wsX3_setImage rmX3_setImage (va_Pc [.ref (a 0), .int v, .int z] (xPre D (tyC cy) A (cW cy a X V))) (va_Qi (fun (r : Int32) (u : XV) => setImageX v z = none ∧ r = V 5 v.toNatClampNeg ∧ u = measV (xs V 5 v.toNatClampNeg z)) (fun u t => xPost D (tyC cy) A (cW cy a X u) t) A) (xX D (tyC cy) A (cW cy a X V) (setImageX v z)) 2 12 A := by
  refine x_metX (own := RX3) (by decide) rfl rfl (Nat.le_of_ble_eq_true rfl) rfl ?_
  intro p e s m below meth c hout C hE
  refine x_iload_n (i := 1) C dX3_setImage_0 rfl rfl ?_
  refine x_callSvX hout C hE (k_X3_needVersion l hfl D _ A _ _) (va_cwS 1 C.2.2.2.2.1 gX3_setImage_X3_needVersion rfl rfl rfl (by decide +kernel) ⟨Nat.le_of_ble_eq_true rfl, Nat.le_of_ble_eq_true rfl⟩)  rfl rfl (Nat.le_of_ble_eq_true rfl) dX3_setImage_1 ⟨Nat.le_of_ble_eq_true rfl, Nat.le_of_ble_eq_true rfl⟩ ⟨Nat.le_of_ble_eq_true rfl, Nat.le_of_ble_eq_true rfl⟩ (fun E h9 => seqx_1 h9) (fun u_1 h_1 => ?_)
  cases u_1
  refine x_iload_n (i := 2) C dX3_setImage_4 rfl rfl ?_
  refine x_callSvX hout C hE (k_X3_needBytesOrNone l hfl D _ A _ _) (va_cwS 1 C.2.2.2.2.1 gX3_setImage_X3_needBytesOrNone rfl rfl rfl (by decide +kernel) ⟨Nat.le_of_ble_eq_true rfl, Nat.le_of_ble_eq_true rfl⟩)  rfl rfl (Nat.le_of_ble_eq_true rfl) dX3_setImage_5 ⟨Nat.le_of_ble_eq_true rfl, Nat.le_of_ble_eq_true rfl⟩ ⟨Nat.le_of_ble_eq_true rfl, Nat.le_of_ble_eq_true rfl⟩ (fun E h9 => seqx_2 h_1 h9) (fun u_5 h_5 => ?_)
  cases u_5
  refine x_aload_n (i := 0) C dX3_setImage_8 rfl rfl ?_
  refine x_getRr C 1 (by decide) hinX3_setImage_X3 (by decide +kernel) dX3_setImage_9 ?_
  refine x_iload_n (i := 1) C dX3_setImage_12 rfl rfl ?_
  refine x_iload_n (i := 2) C dX3_setImage_13 rfl rfl ?_
  refine x_callVi C hE (k_X2_changeImage l D cy a A X _ _ _ (nVx_in h_1)) (cwV 2 C.2.2.2.2.1 gX3_setImage_X2_changeImage rfl rfl rfl (by decide +kernel) ⟨Nat.le_of_ble_eq_true rfl, Nat.le_of_ble_eq_true rfl⟩) 2 (cW_W cy a X _) rfl rfl rfl rfl (Nat.le_of_ble_eq_true rfl) dX3_setImage_14 ⟨Nat.le_of_ble_eq_true rfl, Nat.le_of_ble_eq_true rfl⟩ (fun r_14 u_14 h_14 => ?_)
  obtain ⟨e8_14, e9_14⟩ := h_14
  rw [e8_14, e9_14]
  exact x_iretX  C dX3_setImage_17 ⟨Nat.le_of_ble_eq_true rfl, Nat.le_of_ble_eq_true rfl⟩ ⟨seqx_2 h_1 h_5, rfl, rfl⟩
theorem hinX3_setDelta_X3 : ∀ w ∈ wsX30, w ∈ wsX3_setDelta := by decide +kernel
def rmX3_setDelta : Room := { frames := 8, cells := 3, slots := 18, locals := 134 }
set_option maxHeartbeats 4000000 in
set_option maxRecDepth 100000 in
theorem k_X3_setDelta (l : Launch) (hfl : l.stackTraces = false) (D : va_G) (cy : Nat → ClassId) (a : Nat → Nat) (A : Nat → Prop) (X : va_W) (V : XV) (f t z : Int32)  : vx_Met l yX3_setDelta wsX3_setDelta rmX3_setDelta (va_Pc [.ref (a 0), .int f, .int t, .int z] (xPre D (tyC cy) A (cW cy a X V))) (va_Qi (fun (r : Int32) (u : XV) => setDeltaX f t z = none ∧ r = V (25 + f.toNatClampNeg) t.toNatClampNeg ∧ u = measV (xs V (25 + f.toNatClampNeg) t.toNatClampNeg z)) (fun u t => xPost D (tyC cy) A (cW cy a X u) t) A) (xX D (tyC cy) A (cW cy a X V) (setDeltaX f t z)) 3 18 A := by
  refine x_metX (own := RX3) (by decide) rfl rfl (Nat.le_of_ble_eq_true rfl) rfl ?_
  intro p e s m below meth c hout C hE
  refine x_iload_n (i := 1) C dX3_setDelta_0 rfl rfl ?_
  refine x_callSvX hout C hE (k_X3_needVersion l hfl D _ A _ _) (va_cwS 1 C.2.2.2.2.1 gX3_setDelta_X3_needVersion rfl rfl rfl (by decide +kernel) ⟨Nat.le_of_ble_eq_true rfl, Nat.le_of_ble_eq_true rfl⟩)  rfl rfl (Nat.le_of_ble_eq_true rfl) dX3_setDelta_1 ⟨Nat.le_of_ble_eq_true rfl, Nat.le_of_ble_eq_true rfl⟩ ⟨Nat.le_of_ble_eq_true rfl, Nat.le_of_ble_eq_true rfl⟩ (fun E h9 => seqx_1 h9) (fun u_1 h_1 => ?_)
  cases u_1
  refine x_iload_n (i := 2) C dX3_setDelta_4 rfl rfl ?_
  refine x_callSvX hout C hE (k_X3_needVersion l hfl D _ A _ _) (va_cwS 1 C.2.2.2.2.1 gX3_setDelta_X3_needVersion rfl rfl rfl (by decide +kernel) ⟨Nat.le_of_ble_eq_true rfl, Nat.le_of_ble_eq_true rfl⟩)  rfl rfl (Nat.le_of_ble_eq_true rfl) dX3_setDelta_5 ⟨Nat.le_of_ble_eq_true rfl, Nat.le_of_ble_eq_true rfl⟩ ⟨Nat.le_of_ble_eq_true rfl, Nat.le_of_ble_eq_true rfl⟩ (fun E h9 => seqx_2 h_1 (seqx_1 h9)) (fun u_5 h_5 => ?_)
  cases u_5
  refine x_iload_n (i := 1) C dX3_setDelta_8 rfl rfl ?_
  refine x_iload_n (i := 2) C dX3_setDelta_9 rfl rfl ?_
  refine x_icmp_ne C 23 dX3_setDelta_10 (by decide) (fun c_10 => ?_) (fun c_10 => ?_)
  · refine x_iload_n (i := 3) C dX3_setDelta_23 rfl rfl ?_
    refine x_callSvX hout C hE (k_X3_needBytesOrNone l hfl D _ A _ _) (va_cwS 1 C.2.2.2.2.1 gX3_setDelta_X3_needBytesOrNone rfl rfl rfl (by decide +kernel) ⟨Nat.le_of_ble_eq_true rfl, Nat.le_of_ble_eq_true rfl⟩)  rfl rfl (Nat.le_of_ble_eq_true rfl) dX3_setDelta_24 ⟨Nat.le_of_ble_eq_true rfl, Nat.le_of_ble_eq_true rfl⟩ ⟨Nat.le_of_ble_eq_true rfl, Nat.le_of_ble_eq_true rfl⟩ (fun E h9 => seqx_2 h_1 (seqx_2 h_5 ((if_neg c_10).trans h9))) (fun u_24 h_24 => ?_)
    cases u_24
    refine x_aload_n (i := 0) C dX3_setDelta_27 rfl rfl ?_
    refine x_getRr C 1 (by decide) hinX3_setDelta_X3 (by decide +kernel) dX3_setDelta_28 ?_
    refine x_iload_n (i := 1) C dX3_setDelta_31 rfl rfl ?_
    refine x_iload_n (i := 2) C dX3_setDelta_32 rfl rfl ?_
    refine x_iload_n (i := 3) C dX3_setDelta_33 rfl rfl ?_
    refine x_callVi C hE (k_X2_changeDelta l D cy a A X _ _ _ _ (nVx_in h_1) (nVx_in h_5)) (cwV 3 C.2.2.2.2.1 gX3_setDelta_X2_changeDelta rfl rfl rfl (by decide +kernel) ⟨Nat.le_of_ble_eq_true rfl, Nat.le_of_ble_eq_true rfl⟩) 2 (cW_W cy a X _) rfl rfl rfl rfl (Nat.le_of_ble_eq_true rfl) dX3_setDelta_34 ⟨Nat.le_of_ble_eq_true rfl, Nat.le_of_ble_eq_true rfl⟩ (fun r_34 u_34 h_34 => ?_)
    obtain ⟨e8_34, e9_34⟩ := h_34
    rw [e8_34, e9_34]
    exact x_iretX  C dX3_setDelta_37 ⟨Nat.le_of_ble_eq_true rfl, Nat.le_of_ble_eq_true rfl⟩ ⟨seqx_2 h_1 (seqx_2 h_5 ((if_neg c_10).trans h_24)), rfl, rfl⟩
  exact x_throw (cls := xIA) (text := "a delta leads to another version") hout hfl C hE rfl (by decide +kernel) (by decide +kernel) (by decide) (by decide +kernel) (by decide +kernel) (by decide +kernel) dX3_setDelta_13 dX3_setDelta_16 dX3_setDelta_17 dX3_setDelta_19 dX3_setDelta_22 ⟨Nat.le_of_ble_eq_true rfl, Nat.le_of_ble_eq_true rfl, Nat.le_of_ble_eq_true rfl, Nat.le_of_ble_eq_true rfl⟩ ⟨Nat.le_of_ble_eq_true rfl, Nat.le_of_ble_eq_true rfl⟩ (seqx_2 h_1 (seqx_2 h_5 (if_pos c_10)))
theorem hinX3_size_X3 : ∀ w ∈ wsX30, w ∈ wsX3_size := by decide +kernel
def rmX3_size : Room := { frames := 7, cells := 2, slots := 12, locals := 112 }
set_option maxHeartbeats 4000000 in
set_option maxRecDepth 100000 in
theorem k_X3_size (l : Launch) (hfl : l.stackTraces = false) (D : va_G) (cy : Nat → ClassId) (a : Nat → Nat) (A : Nat → Prop) (X : va_W) (V : XV) (f t : Int32)  : vx_Met l yX3_size wsX3_size rmX3_size (va_Pc [.ref (a 0), .int f, .int t] (xPre D (tyC cy) A (cW cy a X V))) (va_Qi (fun (r : Int32) (u : XV) => sizeX f t = none ∧ r = lbI V f t ∧ u = V) (fun u t => xPost D (tyC cy) A (cW cy a X u) t) A) (xX D (tyC cy) A (cW cy a X V) (sizeX f t)) 2 12 A := by
  refine x_metX (own := RX3) (by decide) rfl rfl (Nat.le_of_ble_eq_true rfl) rfl ?_
  intro p e s m below meth c hout C hE
  refine x_iload_n (i := 1) C dX3_size_0 rfl rfl ?_
  refine x_callSvX hout C hE (k_X3_needVersion l hfl D _ A _ _) (va_cwS 1 C.2.2.2.2.1 gX3_size_X3_needVersion rfl rfl rfl (by decide +kernel) ⟨Nat.le_of_ble_eq_true rfl, Nat.le_of_ble_eq_true rfl⟩)  rfl rfl (Nat.le_of_ble_eq_true rfl) dX3_size_1 ⟨Nat.le_of_ble_eq_true rfl, Nat.le_of_ble_eq_true rfl⟩ ⟨Nat.le_of_ble_eq_true rfl, Nat.le_of_ble_eq_true rfl⟩ (fun E h9 => seqx_1 h9) (fun u_1 h_1 => ?_)
  cases u_1
  refine x_iload_n (i := 2) C dX3_size_4 rfl rfl ?_
  refine x_callSvX hout C hE (k_X3_needVersion l hfl D _ A _ _) (va_cwS 1 C.2.2.2.2.1 gX3_size_X3_needVersion rfl rfl rfl (by decide +kernel) ⟨Nat.le_of_ble_eq_true rfl, Nat.le_of_ble_eq_true rfl⟩)  rfl rfl (Nat.le_of_ble_eq_true rfl) dX3_size_5 ⟨Nat.le_of_ble_eq_true rfl, Nat.le_of_ble_eq_true rfl⟩ ⟨Nat.le_of_ble_eq_true rfl, Nat.le_of_ble_eq_true rfl⟩ (fun E h9 => seqx_2 h_1 h9) (fun u_5 h_5 => ?_)
  cases u_5
  refine x_aload_n (i := 0) C dX3_size_8 rfl rfl ?_
  refine x_getRr C 1 (by decide) hinX3_size_X3 (by decide +kernel) dX3_size_9 ?_
  refine x_iload_n (i := 1) C dX3_size_12 rfl rfl ?_
  refine x_iload_n (i := 2) C dX3_size_13 rfl rfl ?_
  refine x_callVi C hE (k_X2_leastBytes l D cy a A X _ _ _ (nVx_in h_1) (nVx_in h_5)) (cwV 2 C.2.2.2.2.1 gX3_size_X2_leastBytes rfl rfl rfl (by decide +kernel) ⟨Nat.le_of_ble_eq_true rfl, Nat.le_of_ble_eq_true rfl⟩) 2 (cW_W cy a X _) rfl rfl rfl rfl (Nat.le_of_ble_eq_true rfl) dX3_size_14 ⟨Nat.le_of_ble_eq_true rfl, Nat.le_of_ble_eq_true rfl⟩ (fun r_14 u_14 h_14 => ?_)
  obtain ⟨e8_14, e9_14⟩ := h_14
  rw [e8_14, e9_14]
  exact x_iretX  C dX3_size_17 ⟨Nat.le_of_ble_eq_true rfl, Nat.le_of_ble_eq_true rfl⟩ ⟨seqx_2 h_1 h_5, rfl, rfl⟩
theorem hinX3_sizeByWays_X3 : ∀ w ∈ wsX30, w ∈ wsX3_sizeByWays := by decide +kernel
def rmX3_sizeByWays : Room := { frames := 11, cells := 2, slots := 12, locals := 297 }
set_option maxHeartbeats 4000000 in
set_option maxRecDepth 100000 in
theorem k_X3_sizeByWays (l : Launch) (hfl : l.stackTraces = false) (D : va_G) (cy : Nat → ClassId) (a : Nat → Nat) (A : Nat → Prop) (X : va_W) (V : XV) (f t : Int32)  : vx_Met l yX3_sizeByWays wsX3_sizeByWays rmX3_sizeByWays (va_Pc [.ref (a 0), .int f, .int t] (xPre D (tyC cy) A (cW cy a X V))) (va_Qi (fun (r : Int32) (u : XV) => sizeX f t = none ∧ r = awI V f.toNatClampNeg t.toNatClampNeg ∧ u = V) (fun u t => xPost D (tyC cy) A (cW cy a X u) t) A) (xX D (tyC cy) A (cW cy a X V) (sizeX f t)) 2 12 A := by
  refine x_metX (own := RX3) (by decide) rfl rfl (Nat.le_of_ble_eq_true rfl) rfl ?_
  intro p e s m below meth c hout C hE
  refine x_iload_n (i := 1) C dX3_sizeByWays_0 rfl rfl ?_
  refine x_callSvX hout C hE (k_X3_needVersion l hfl D _ A _ _) (va_cwS 1 C.2.2.2.2.1 gX3_sizeByWays_X3_needVersion rfl rfl rfl (by decide +kernel) ⟨Nat.le_of_ble_eq_true rfl, Nat.le_of_ble_eq_true rfl⟩)  rfl rfl (Nat.le_of_ble_eq_true rfl) dX3_sizeByWays_1 ⟨Nat.le_of_ble_eq_true rfl, Nat.le_of_ble_eq_true rfl⟩ ⟨Nat.le_of_ble_eq_true rfl, Nat.le_of_ble_eq_true rfl⟩ (fun E h9 => seqx_1 h9) (fun u_1 h_1 => ?_)
  cases u_1
  refine x_iload_n (i := 2) C dX3_sizeByWays_4 rfl rfl ?_
  refine x_callSvX hout C hE (k_X3_needVersion l hfl D _ A _ _) (va_cwS 1 C.2.2.2.2.1 gX3_sizeByWays_X3_needVersion rfl rfl rfl (by decide +kernel) ⟨Nat.le_of_ble_eq_true rfl, Nat.le_of_ble_eq_true rfl⟩)  rfl rfl (Nat.le_of_ble_eq_true rfl) dX3_sizeByWays_5 ⟨Nat.le_of_ble_eq_true rfl, Nat.le_of_ble_eq_true rfl⟩ ⟨Nat.le_of_ble_eq_true rfl, Nat.le_of_ble_eq_true rfl⟩ (fun E h9 => seqx_2 h_1 h9) (fun u_5 h_5 => ?_)
  cases u_5
  refine x_aload_n (i := 0) C dX3_sizeByWays_8 rfl rfl ?_
  refine x_getRr C 1 (by decide) hinX3_sizeByWays_X3 (by decide +kernel) dX3_sizeByWays_9 ?_
  refine x_iload_n (i := 1) C dX3_sizeByWays_12 rfl rfl ?_
  refine x_iload_n (i := 2) C dX3_sizeByWays_13 rfl rfl ?_
  obtain ⟨f9, hf9, ef9⟩ := vp_in_of (nVx_in h_1) (by decide)
  obtain ⟨t9, ht9, et9⟩ := vp_in_of (nVx_in h_5) (by decide)
  refine x_st (st' := [.int (nI t9), .int (nI f9), .ref (a 2)]) (by rw [et9, ef9]) ?_
  refine x_callVi C hE (k_X2_leastBytesOfAllWays l D cy a A X _ hf9 ht9) (cwV 2 C.2.2.2.2.1 gX3_sizeByWays_X2_leastBytesOfAllWays rfl rfl rfl (by decide +kernel) ⟨Nat.le_of_ble_eq_true rfl, Nat.le_of_ble_eq_true rfl⟩) 2 (cW_W cy a X _) rfl rfl rfl rfl (Nat.le_of_ble_eq_true rfl) dX3_sizeByWays_14 ⟨Nat.le_of_ble_eq_true rfl, Nat.le_of_ble_eq_true rfl⟩ (fun r_14 u_14 h_14 => ?_)
  obtain ⟨e8_14, e9_14⟩ := h_14
  rw [e8_14, e9_14]
  exact x_iretX  C dX3_sizeByWays_17 ⟨Nat.le_of_ble_eq_true rfl, Nat.le_of_ble_eq_true rfl⟩ ⟨seqx_2 h_1 h_5, by rw [ef9, et9, cl8 hf9, cl8 ht9], rfl⟩
theorem hinX3_addDevice_X1 : ∀ w ∈ wsX10, w ∈ wsX3_addDevice := by decide +kernel
theorem hinX3_addDevice_X3 : ∀ w ∈ wsX30, w ∈ wsX3_addDevice := by decide +kernel
def rmX3_addDevice : Room := { frames := 7, cells := 2, slots := 12, locals := 112 }
set_option maxHeartbeats 4000000 in
set_option maxRecDepth 100000 in
theorem k_X3_addDevice (l : Launch) (hfl : l.stackTraces = false) (D : va_G) (cy : Nat → ClassId) (a : Nat → Nat) (A : Nat → Prop) (X : va_W) (V : XV) (k v : Int32) {n : Nat} (hn : V 0 4 = nI n) (hn10 : n ≤ 10) : vx_Met l yX3_addDevice wsX3_addDevice rmX3_addDevice (va_Pc [.ref (a 0), .int k, .int v] (xPre D (tyC cy) A (cW cy a X V))) (va_Qi (fun (r : Int32) (u : XV) => addDeviceX V k v = none ∧ r = addV V n k v (9 + n) 0 ∧ u = addV V n k v) (fun u t => xPost D (tyC cy) A (cW cy a X u) t) A) (xX D (tyC cy) A (cW cy a X V) (addDeviceX V k v)) 2 12 A := by
  refine x_metX (own := RX3) (by decide) rfl rfl (Nat.le_of_ble_eq_true rfl) rfl ?_
  intro p e s m below meth c hout C hE
  refine x_iload_n (i := 1) C dX3_addDevice_0 rfl rfl ?_
  refine x_if_lt C 9 dX3_addDevice_1 (by decide) (fun c_1 => ?_) (fun c_1 => ?_)
  · exact x_throw (cls := xIO) (text := "no such kind") hout hfl C hE rfl (by decide +kernel) (by decide +kernel) (by decide) (by decide +kernel) (by decide +kernel) (by decide +kernel) dX3_addDevice_9 dX3_addDevice_12 dX3_addDevice_13 dX3_addDevice_15 dX3_addDevice_18 ⟨Nat.le_of_ble_eq_true rfl, Nat.le_of_ble_eq_true rfl, Nat.le_of_ble_eq_true rfl, Nat.le_of_ble_eq_true rfl⟩ ⟨Nat.le_of_ble_eq_true rfl, Nat.le_of_ble_eq_true rfl⟩ (seqx_1 (by simp [nKx, c_1]))
  refine x_iload_n (i := 1) C dX3_addDevice_4 rfl rfl ?_
  refine x_iconst (v := 4) C dX3_addDevice_5 (by decide) ?_
  refine x_icmp_lt C 19 dX3_addDevice_6 (by decide) (fun c_6 => ?_) (fun c_6 => ?_)
  · refine x_iload_n (i := 2) C dX3_addDevice_19 rfl rfl ?_
    refine x_callSvX hout C hE (k_X3_needVersion l hfl D _ A _ _) (va_cwS 1 C.2.2.2.2.1 gX3_addDevice_X3_needVersion rfl rfl rfl (by decide +kernel) ⟨Nat.le_of_ble_eq_true rfl, Nat.le_of_ble_eq_true rfl⟩)  rfl rfl (Nat.le_of_ble_eq_true rfl) dX3_addDevice_20 ⟨Nat.le_of_ble_eq_true rfl, Nat.le_of_ble_eq_true rfl⟩ ⟨Nat.le_of_ble_eq_true rfl, Nat.le_of_ble_eq_true rfl⟩ (fun E h9 => seqx_2 (by simp [nKx, c_1, c_6]) (seqx_1 h9)) (fun u_20 h_20 => ?_)
    cases u_20
    refine x_aload_n (i := 0) C dX3_addDevice_23 rfl rfl ?_
    refine x_getR C 4 (by decide) hinX3_addDevice_X3 (by decide +kernel) dX3_addDevice_24 ?_
    refine x_bipush (v := 10) C dX3_addDevice_27 (by decide) ?_
    refine x_icmp_lt C 42 dX3_addDevice_29 (by decide) (fun c_29 => ?_) (fun c_29 => ?_)
    · refine x_aload_n (i := 0) C dX3_addDevice_42 rfl rfl ?_
      refine x_getRr C 0 (by decide) hinX3_addDevice_X3 (by decide +kernel) dX3_addDevice_43 ?_
      refine x_iload_n (i := 2) C dX3_addDevice_46 rfl rfl ?_
      refine x_ialdC C (Or.inl rfl) (nVx_in h_20) rfl dX3_addDevice_47 ?_
      refine x_iload_n (i := 1) C dX3_addDevice_48 rfl rfl ?_
      refine x_callSi C hE (k_X3_has l D _ A _ _ _) (va_cwS 2 C.2.2.2.2.1 gX3_addDevice_X3_has rfl rfl rfl (by decide +kernel) ⟨Nat.le_of_ble_eq_true rfl, Nat.le_of_ble_eq_true rfl⟩)  rfl rfl (Nat.le_of_ble_eq_true rfl) dX3_addDevice_49 ⟨Nat.le_of_ble_eq_true rfl, Nat.le_of_ble_eq_true rfl⟩ (fun r_49 u_49 h_49 => ?_)
      subst h_49
      refine x_if_ne C 65 dX3_addDevice_52 (by decide) (fun c_52 => ?_) (fun c_52 => ?_)
      · refine x_aload_n (i := 0) C dX3_addDevice_65 rfl rfl ?_
        refine x_getRr C 2 (by decide) hinX3_addDevice_X3 (by decide +kernel) dX3_addDevice_66 ?_
        refine x_aload_n (i := 0) C dX3_addDevice_69 rfl rfl ?_
        refine x_getR C 4 (by decide) hinX3_addDevice_X3 (by decide +kernel) dX3_addDevice_70 ?_
        have hn9 : n < 10 := by
          have h9 := c_29
          rw [hn] at h9
          exact (nI_ltI (b := 10) (by omega) (by decide)).mp h9
        refine x_aaldF (j := n) C (by rw [hn]; exact vp_in_nI hn9 (by decide)) (by rw [hn]; exact nI_clamp (by omega)) dX3_addDevice_73 ?_
        refine x_astore_n (i := 3) C dX3_addDevice_74 rfl (by decide) ?_
        refine x_aload_n (i := 3) C dX3_addDevice_75 rfl rfl ?_
        refine x_iload_n (i := 1) C dX3_addDevice_76 rfl rfl ?_
        refine x_putD C 1 (by omega) (by decide) (by decide) hinX3_addDevice_X1 (by decide +kernel) dX3_addDevice_77 ?_
        refine x_aload_n (i := 3) C dX3_addDevice_80 rfl rfl ?_
        refine x_iload_n (i := 2) C dX3_addDevice_81 rfl rfl ?_
        refine x_putD C 2 (by omega) (by decide) (by decide) hinX3_addDevice_X1 (by decide +kernel) dX3_addDevice_82 ?_
        refine x_aload_n (i := 0) C dX3_addDevice_85 rfl rfl ?_
        refine x_dup C dX3_addDevice_86 rfl ?_
        refine x_getR C 4 (by decide) hinX3_addDevice_X3 (by decide +kernel) dX3_addDevice_87 ?_
        refine x_iconst (v := 1) C dX3_addDevice_90 (by decide) ?_
        refine x_iadd C dX3_addDevice_91 ?_
        refine x_putR C 4 (by decide) hinX3_addDevice_X3 (by decide +kernel) dX3_addDevice_92 ?_
        refine x_aload_n (i := 3) C dX3_addDevice_95 rfl rfl ?_
        refine x_getD C 0 (by omega) (by decide) hinX3_addDevice_X1 (by decide +kernel) dX3_addDevice_96 ?_
        exact x_iretX  C dX3_addDevice_99 ⟨Nat.le_of_ble_eq_true rfl, Nat.le_of_ble_eq_true rfl⟩ ⟨seqx_2 (by simp [nKx, c_1, c_6]) (seqx_2 h_20 ((if_pos c_29).trans (if_pos (b2i_n0 c_52)))), rfl, rfl⟩
      exact x_throw (cls := xIS) (text := "the version may not run on the kind") hout hfl C hE rfl (by decide +kernel) (by decide +kernel) (by decide) (by decide +kernel) (by decide +kernel) (by decide +kernel) dX3_addDevice_55 dX3_addDevice_58 dX3_addDevice_59 dX3_addDevice_61 dX3_addDevice_64 ⟨Nat.le_of_ble_eq_true rfl, Nat.le_of_ble_eq_true rfl, Nat.le_of_ble_eq_true rfl, Nat.le_of_ble_eq_true rfl⟩ ⟨Nat.le_of_ble_eq_true rfl, Nat.le_of_ble_eq_true rfl⟩ (seqx_2 (by simp [nKx, c_1, c_6]) (seqx_2 h_20 ((if_pos c_29).trans (if_neg (b2i_z c_52)))))
    exact x_throw (cls := xIS) (text := "no room for another device") hout hfl C hE rfl (by decide +kernel) (by decide +kernel) (by decide) (by decide +kernel) (by decide +kernel) (by decide +kernel) dX3_addDevice_32 dX3_addDevice_35 dX3_addDevice_36 dX3_addDevice_38 dX3_addDevice_41 ⟨Nat.le_of_ble_eq_true rfl, Nat.le_of_ble_eq_true rfl, Nat.le_of_ble_eq_true rfl, Nat.le_of_ble_eq_true rfl⟩ ⟨Nat.le_of_ble_eq_true rfl, Nat.le_of_ble_eq_true rfl⟩ (seqx_2 (by simp [nKx, c_1, c_6]) (seqx_2 h_20 (if_neg c_29)))
  exact x_throw (cls := xIO) (text := "no such kind") hout hfl C hE rfl (by decide +kernel) (by decide +kernel) (by decide) (by decide +kernel) (by decide +kernel) (by decide +kernel) dX3_addDevice_9 dX3_addDevice_12 dX3_addDevice_13 dX3_addDevice_15 dX3_addDevice_18 ⟨Nat.le_of_ble_eq_true rfl, Nat.le_of_ble_eq_true rfl, Nat.le_of_ble_eq_true rfl, Nat.le_of_ble_eq_true rfl⟩ ⟨Nat.le_of_ble_eq_true rfl, Nat.le_of_ble_eq_true rfl⟩ (seqx_1 (by simp [nKx, c_1, c_6]))
theorem hinX3_charge_X1 : ∀ w ∈ wsX10, w ∈ wsX3_charge := by decide +kernel
def rmX3_charge : Room := { frames := 7, cells := 2, slots := 12, locals := 114 }
set_option maxHeartbeats 4000000 in
set_option maxRecDepth 100000 in
theorem k_X3_charge (l : Launch) (hfl : l.stackTraces = false) (D : va_G) (cy : Nat → ClassId) (a : Nat → Nat) (A : Nat → Prop) (X : va_W) (V : XV) (d z : Int32) (hn : (V 0 4).toInt ≤ 10) : vx_Met l yX3_charge wsX3_charge rmX3_charge (va_Pc [.ref (a 0), .int d, .int z] (xPre D (tyC cy) A (cW cy a X V))) (va_Qi (fun (r : Int32) (u : XV) => chargeX V d z = none ∧ r = V (9 + d.toNatClampNeg) 3 ∧ u = xs V (9 + d.toNatClampNeg) 3 z) (fun u t => xPost D (tyC cy) A (cW cy a X u) t) A) (xX D (tyC cy) A (cW cy a X V) (chargeX V d z)) 2 12 A := by
  refine x_metX (own := RX3) (by decide) rfl rfl (Nat.le_of_ble_eq_true rfl) rfl ?_
  intro p e s m below meth c hout C hE
  refine x_aload_n (i := 0) C dX3_charge_0 rfl rfl ?_
  refine x_iload_n (i := 1) C dX3_charge_1 rfl rfl ?_
  refine x_callVrX hout C hE (k_X3_deviceAt l hfl D cy a A X _ _ (by assumption)) (cwV 1 C.2.2.2.2.1 gX3_charge_X3_deviceAt rfl rfl rfl (by decide +kernel) ⟨Nat.le_of_ble_eq_true rfl, Nat.le_of_ble_eq_true rfl⟩) 0 (cW_R cy a X _) rfl rfl rfl rfl (Nat.le_of_ble_eq_true rfl) dX3_charge_2 ⟨Nat.le_of_ble_eq_true rfl, Nat.le_of_ble_eq_true rfl⟩ ⟨Nat.le_of_ble_eq_true rfl, Nat.le_of_ble_eq_true rfl⟩ (fun E h9 => seqx_1 h9) (fun u_2 v_2 h_2 hB_2 => ?_)
  obtain ⟨e_2, e9_2⟩ := h_2
  subst hB_2
  rw [e9_2]
  refine x_astore_n (i := 3) C dX3_charge_5 rfl (by decide) ?_
  refine x_iload_n (i := 2) C dX3_charge_6 rfl rfl ?_
  refine x_iconst (v := 0) C dX3_charge_7 (by decide) ?_
  refine x_bipush (v := 100) C dX3_charge_8 (by decide) ?_
  refine x_callSvX hout C hE (k_X3_needRange l hfl D _ A _ _ _ _) (va_cwS 3 C.2.2.2.2.1 gX3_charge_X3_needRange rfl rfl rfl (by decide +kernel) ⟨Nat.le_of_ble_eq_true rfl, Nat.le_of_ble_eq_true rfl⟩)  rfl rfl (Nat.le_of_ble_eq_true rfl) dX3_charge_10 ⟨Nat.le_of_ble_eq_true rfl, Nat.le_of_ble_eq_true rfl⟩ ⟨Nat.le_of_ble_eq_true rfl, Nat.le_of_ble_eq_true rfl⟩ (fun E h9 => seqx_2 e_2 h9) (fun u_10 h_10 => ?_)
  cases u_10
  refine x_aload_n (i := 3) C dX3_charge_13 rfl rfl ?_
  refine x_getD C 3 (by have := vp_at (nDx_in (N := 10) e_2 hn); omega) (by decide) hinX3_charge_X1 (by decide +kernel) dX3_charge_14 ?_
  refine x_istore (i := 4) C dX3_charge_17 (by decide) ?_
  refine x_aload_n (i := 3) C dX3_charge_19 rfl rfl ?_
  refine x_iload_n (i := 2) C dX3_charge_20 rfl rfl ?_
  refine x_putD C 3 (by have := vp_at (nDx_in (N := 10) e_2 hn); omega) (by decide) (by decide) hinX3_charge_X1 (by decide +kernel) dX3_charge_21 ?_
  refine x_iload (i := 4) C dX3_charge_24 rfl ?_
  exact x_iretX  C dX3_charge_26 ⟨Nat.le_of_ble_eq_true rfl, Nat.le_of_ble_eq_true rfl⟩ ⟨seqx_2 e_2 h_10, rfl, rfl⟩
theorem hinX3_setWindow_X1 : ∀ w ∈ wsX10, w ∈ wsX3_setWindow := by decide +kernel
def rmX3_setWindow : Room := { frames := 7, cells := 3, slots := 18, locals := 114 }
set_option maxHeartbeats 4000000 in
set_option maxRecDepth 100000 in
theorem k_X3_setWindow (l : Launch) (hfl : l.stackTraces = false) (D : va_G) (cy : Nat → ClassId) (a : Nat → Nat) (A : Nat → Prop) (X : va_W) (V : XV) (d f t : Int32) (hn : (V 0 4).toInt ≤ 10) : vx_Met l yX3_setWindow wsX3_setWindow rmX3_setWindow (va_Pc [.ref (a 0), .int d, .int f, .int t] (xPre D (tyC cy) A (cW cy a X V))) (va_Qv (fun (u : XV) => windowX V d f t = none ∧ u = xs (xs V (9 + d.toNatClampNeg) 4 f) (9 + d.toNatClampNeg) 5 t) (fun u t => xPost D (tyC cy) A (cW cy a X u) t) A) (xX D (tyC cy) A (cW cy a X V) (windowX V d f t)) 3 18 A := by
  refine x_metX (own := RX3) (by decide) rfl rfl (Nat.le_of_ble_eq_true rfl) rfl ?_
  intro p e s m below meth c hout C hE
  refine x_aload_n (i := 0) C dX3_setWindow_0 rfl rfl ?_
  refine x_iload_n (i := 1) C dX3_setWindow_1 rfl rfl ?_
  refine x_callVrX hout C hE (k_X3_deviceAt l hfl D cy a A X _ _ (by assumption)) (cwV 1 C.2.2.2.2.1 gX3_setWindow_X3_deviceAt rfl rfl rfl (by decide +kernel) ⟨Nat.le_of_ble_eq_true rfl, Nat.le_of_ble_eq_true rfl⟩) 0 (cW_R cy a X _) rfl rfl rfl rfl (Nat.le_of_ble_eq_true rfl) dX3_setWindow_2 ⟨Nat.le_of_ble_eq_true rfl, Nat.le_of_ble_eq_true rfl⟩ ⟨Nat.le_of_ble_eq_true rfl, Nat.le_of_ble_eq_true rfl⟩ (fun E h9 => seqx_1 h9) (fun u_2 v_2 h_2 hB_2 => ?_)
  obtain ⟨e_2, e9_2⟩ := h_2
  subst hB_2
  rw [e9_2]
  refine x_astore (i := 4) C dX3_setWindow_5 (by decide) ?_
  refine x_iload_n (i := 2) C dX3_setWindow_7 rfl rfl ?_
  refine x_iconst (v := 0) C dX3_setWindow_8 (by decide) ?_
  refine x_bipush (v := 23) C dX3_setWindow_9 (by decide) ?_
  refine x_callSvX hout C hE (k_X3_needRange l hfl D _ A _ _ _ _) (va_cwS 3 C.2.2.2.2.1 gX3_setWindow_X3_needRange rfl rfl rfl (by decide +kernel) ⟨Nat.le_of_ble_eq_true rfl, Nat.le_of_ble_eq_true rfl⟩)  rfl rfl (Nat.le_of_ble_eq_true rfl) dX3_setWindow_11 ⟨Nat.le_of_ble_eq_true rfl, Nat.le_of_ble_eq_true rfl⟩ ⟨Nat.le_of_ble_eq_true rfl, Nat.le_of_ble_eq_true rfl⟩ (fun E h9 => seqx_2 e_2 (seqx_1 h9)) (fun u_11 h_11 => ?_)
  cases u_11
  refine x_iload_n (i := 3) C dX3_setWindow_14 rfl rfl ?_
  refine x_iconst (v := 0) C dX3_setWindow_15 (by decide) ?_
  refine x_bipush (v := 23) C dX3_setWindow_16 (by decide) ?_
  refine x_callSvX hout C hE (k_X3_needRange l hfl D _ A _ _ _ _) (va_cwS 3 C.2.2.2.2.1 gX3_setWindow_X3_needRange rfl rfl rfl (by decide +kernel) ⟨Nat.le_of_ble_eq_true rfl, Nat.le_of_ble_eq_true rfl⟩)  rfl rfl (Nat.le_of_ble_eq_true rfl) dX3_setWindow_18 ⟨Nat.le_of_ble_eq_true rfl, Nat.le_of_ble_eq_true rfl⟩ ⟨Nat.le_of_ble_eq_true rfl, Nat.le_of_ble_eq_true rfl⟩ (fun E h9 => seqx_2 e_2 (seqx_2 h_11 h9)) (fun u_18 h_18 => ?_)
  cases u_18
  refine x_aload (i := 4) C dX3_setWindow_21 rfl ?_
  refine x_iload_n (i := 2) C dX3_setWindow_23 rfl rfl ?_
  refine x_putD C 4 (by have := vp_at (nDx_in (N := 10) e_2 hn); omega) (by decide) (by decide) hinX3_setWindow_X1 (by decide +kernel) dX3_setWindow_24 ?_
  refine x_aload (i := 4) C dX3_setWindow_27 rfl ?_
  refine x_iload_n (i := 3) C dX3_setWindow_29 rfl rfl ?_
  refine x_putD C 5 (by have := vp_at (nDx_in (N := 10) e_2 hn); omega) (by decide) (by decide) hinX3_setWindow_X1 (by decide +kernel) dX3_setWindow_30 ?_
  exact x_vretX  C dX3_setWindow_33 ⟨Nat.le_of_ble_eq_true rfl, Nat.le_of_ble_eq_true rfl⟩ ⟨seqx_2 e_2 (seqx_2 h_11 h_18), rfl⟩
theorem hinX3_state_X1 : ∀ w ∈ wsX10, w ∈ wsX3_state := by decide +kernel
def rmX3_state : Room := { frames := 7, cells := 1, slots := 6, locals := 113 }
set_option maxHeartbeats 4000000 in
set_option maxRecDepth 100000 in
theorem k_X3_state (l : Launch) (hfl : l.stackTraces = false) (D : va_G) (cy : Nat → ClassId) (a : Nat → Nat) (A : Nat → Prop) (X : va_W) (V : XV) (d : Int32) (hn : (V 0 4).toInt ≤ 10) : vx_Met l yX3_state wsX3_state rmX3_state (va_Pc [.ref (a 0), .int d] (xPre D (tyC cy) A (cW cy a X V))) (va_Qi (fun (r : Int32) (u : XV) => nDx V d = none ∧ r = V (9 + d.toNatClampNeg) 6 ∧ u = V) (fun u t => xPost D (tyC cy) A (cW cy a X u) t) A) (xX D (tyC cy) A (cW cy a X V) (nDx V d)) 1 6 A := by
  refine x_metX (own := RX3) (by decide) rfl rfl (Nat.le_of_ble_eq_true rfl) rfl ?_
  intro p e s m below meth c hout C hE
  refine x_aload_n (i := 0) C dX3_state_0 rfl rfl ?_
  refine x_iload_n (i := 1) C dX3_state_1 rfl rfl ?_
  refine x_callVrX hout C hE (k_X3_deviceAt l hfl D cy a A X _ _ (by assumption)) (cwV 1 C.2.2.2.2.1 gX3_state_X3_deviceAt rfl rfl rfl (by decide +kernel) ⟨Nat.le_of_ble_eq_true rfl, Nat.le_of_ble_eq_true rfl⟩) 0 (cW_R cy a X _) rfl rfl rfl rfl (Nat.le_of_ble_eq_true rfl) dX3_state_2 ⟨Nat.le_of_ble_eq_true rfl, Nat.le_of_ble_eq_true rfl⟩ ⟨Nat.le_of_ble_eq_true rfl, Nat.le_of_ble_eq_true rfl⟩ (fun E h9 => h9) (fun u_2 v_2 h_2 hB_2 => ?_)
  obtain ⟨e_2, e9_2⟩ := h_2
  subst hB_2
  rw [e9_2]
  refine x_getD C 6 (by have := vp_at (nDx_in (N := 10) e_2 hn); omega) (by decide) hinX3_state_X1 (by decide +kernel) dX3_state_5 ?_
  exact x_iretX  C dX3_state_8 ⟨Nat.le_of_ble_eq_true rfl, Nat.le_of_ble_eq_true rfl⟩ ⟨e_2, rfl, rfl⟩
theorem hinX3_version_X1 : ∀ w ∈ wsX10, w ∈ wsX3_version := by decide +kernel
def rmX3_version : Room := { frames := 7, cells := 1, slots := 6, locals := 113 }
set_option maxHeartbeats 4000000 in
set_option maxRecDepth 100000 in
theorem k_X3_version (l : Launch) (hfl : l.stackTraces = false) (D : va_G) (cy : Nat → ClassId) (a : Nat → Nat) (A : Nat → Prop) (X : va_W) (V : XV) (d : Int32) (hn : (V 0 4).toInt ≤ 10) : vx_Met l yX3_version wsX3_version rmX3_version (va_Pc [.ref (a 0), .int d] (xPre D (tyC cy) A (cW cy a X V))) (va_Qi (fun (r : Int32) (u : XV) => nDx V d = none ∧ r = V (9 + d.toNatClampNeg) 2 ∧ u = V) (fun u t => xPost D (tyC cy) A (cW cy a X u) t) A) (xX D (tyC cy) A (cW cy a X V) (nDx V d)) 1 6 A := by
  refine x_metX (own := RX3) (by decide) rfl rfl (Nat.le_of_ble_eq_true rfl) rfl ?_
  intro p e s m below meth c hout C hE
  refine x_aload_n (i := 0) C dX3_version_0 rfl rfl ?_
  refine x_iload_n (i := 1) C dX3_version_1 rfl rfl ?_
  refine x_callVrX hout C hE (k_X3_deviceAt l hfl D cy a A X _ _ (by assumption)) (cwV 1 C.2.2.2.2.1 gX3_version_X3_deviceAt rfl rfl rfl (by decide +kernel) ⟨Nat.le_of_ble_eq_true rfl, Nat.le_of_ble_eq_true rfl⟩) 0 (cW_R cy a X _) rfl rfl rfl rfl (Nat.le_of_ble_eq_true rfl) dX3_version_2 ⟨Nat.le_of_ble_eq_true rfl, Nat.le_of_ble_eq_true rfl⟩ ⟨Nat.le_of_ble_eq_true rfl, Nat.le_of_ble_eq_true rfl⟩ (fun E h9 => h9) (fun u_2 v_2 h_2 hB_2 => ?_)
  obtain ⟨e_2, e9_2⟩ := h_2
  subst hB_2
  rw [e9_2]
  refine x_getD C 2 (by have := vp_at (nDx_in (N := 10) e_2 hn); omega) (by decide) hinX3_version_X1 (by decide +kernel) dX3_version_5 ?_
  exact x_iretX  C dX3_version_8 ⟨Nat.le_of_ble_eq_true rfl, Nat.le_of_ble_eq_true rfl⟩ ⟨e_2, rfl, rfl⟩
theorem hinX3_campaignOf_X1 : ∀ w ∈ wsX10, w ∈ wsX3_campaignOf := by decide +kernel
def rmX3_campaignOf : Room := { frames := 7, cells := 1, slots := 6, locals := 113 }
set_option maxHeartbeats 4000000 in
set_option maxRecDepth 100000 in
theorem k_X3_campaignOf (l : Launch) (hfl : l.stackTraces = false) (D : va_G) (cy : Nat → ClassId) (a : Nat → Nat) (A : Nat → Prop) (X : va_W) (V : XV) (d : Int32) (hn : (V 0 4).toInt ≤ 10) : vx_Met l yX3_campaignOf wsX3_campaignOf rmX3_campaignOf (va_Pc [.ref (a 0), .int d] (xPre D (tyC cy) A (cW cy a X V))) (va_Qi (fun (r : Int32) (u : XV) => nDx V d = none ∧ r = V (9 + d.toNatClampNeg) 7 ∧ u = V) (fun u t => xPost D (tyC cy) A (cW cy a X u) t) A) (xX D (tyC cy) A (cW cy a X V) (nDx V d)) 1 6 A := by
  refine x_metX (own := RX3) (by decide) rfl rfl (Nat.le_of_ble_eq_true rfl) rfl ?_
  intro p e s m below meth c hout C hE
  refine x_aload_n (i := 0) C dX3_campaignOf_0 rfl rfl ?_
  refine x_iload_n (i := 1) C dX3_campaignOf_1 rfl rfl ?_
  refine x_callVrX hout C hE (k_X3_deviceAt l hfl D cy a A X _ _ (by assumption)) (cwV 1 C.2.2.2.2.1 gX3_campaignOf_X3_deviceAt rfl rfl rfl (by decide +kernel) ⟨Nat.le_of_ble_eq_true rfl, Nat.le_of_ble_eq_true rfl⟩) 0 (cW_R cy a X _) rfl rfl rfl rfl (Nat.le_of_ble_eq_true rfl) dX3_campaignOf_2 ⟨Nat.le_of_ble_eq_true rfl, Nat.le_of_ble_eq_true rfl⟩ ⟨Nat.le_of_ble_eq_true rfl, Nat.le_of_ble_eq_true rfl⟩ (fun E h9 => h9) (fun u_2 v_2 h_2 hB_2 => ?_)
  obtain ⟨e_2, e9_2⟩ := h_2
  subst hB_2
  rw [e9_2]
  refine x_getD C 7 (by have := vp_at (nDx_in (N := 10) e_2 hn); omega) (by decide) hinX3_campaignOf_X1 (by decide +kernel) dX3_campaignOf_5 ?_
  exact x_iretX  C dX3_campaignOf_8 ⟨Nat.le_of_ble_eq_true rfl, Nat.le_of_ble_eq_true rfl⟩ ⟨e_2, rfl, rfl⟩
theorem hinX3_toGo_X1 : ∀ w ∈ wsX10, w ∈ wsX3_toGo := by decide +kernel
def rmX3_toGo : Room := { frames := 7, cells := 1, slots := 6, locals := 113 }
set_option maxHeartbeats 4000000 in
set_option maxRecDepth 100000 in
theorem k_X3_toGo (l : Launch) (hfl : l.stackTraces = false) (D : va_G) (cy : Nat → ClassId) (a : Nat → Nat) (A : Nat → Prop) (X : va_W) (V : XV) (d : Int32) (hn : (V 0 4).toInt ≤ 10) : vx_Met l yX3_toGo wsX3_toGo rmX3_toGo (va_Pc [.ref (a 0), .int d] (xPre D (tyC cy) A (cW cy a X V))) (va_Qi (fun (r : Int32) (u : XV) => nDx V d = none ∧ r = V (9 + d.toNatClampNeg) 8 ∧ u = V) (fun u t => xPost D (tyC cy) A (cW cy a X u) t) A) (xX D (tyC cy) A (cW cy a X V) (nDx V d)) 1 6 A := by
  refine x_metX (own := RX3) (by decide) rfl rfl (Nat.le_of_ble_eq_true rfl) rfl ?_
  intro p e s m below meth c hout C hE
  refine x_aload_n (i := 0) C dX3_toGo_0 rfl rfl ?_
  refine x_iload_n (i := 1) C dX3_toGo_1 rfl rfl ?_
  refine x_callVrX hout C hE (k_X3_deviceAt l hfl D cy a A X _ _ (by assumption)) (cwV 1 C.2.2.2.2.1 gX3_toGo_X3_deviceAt rfl rfl rfl (by decide +kernel) ⟨Nat.le_of_ble_eq_true rfl, Nat.le_of_ble_eq_true rfl⟩) 0 (cW_R cy a X _) rfl rfl rfl rfl (Nat.le_of_ble_eq_true rfl) dX3_toGo_2 ⟨Nat.le_of_ble_eq_true rfl, Nat.le_of_ble_eq_true rfl⟩ ⟨Nat.le_of_ble_eq_true rfl, Nat.le_of_ble_eq_true rfl⟩ (fun E h9 => h9) (fun u_2 v_2 h_2 hB_2 => ?_)
  obtain ⟨e_2, e9_2⟩ := h_2
  subst hB_2
  rw [e9_2]
  refine x_getD C 8 (by have := vp_at (nDx_in (N := 10) e_2 hn); omega) (by decide) hinX3_toGo_X1 (by decide +kernel) dX3_toGo_5 ?_
  exact x_iretX  C dX3_toGo_8 ⟨Nat.le_of_ble_eq_true rfl, Nat.le_of_ble_eq_true rfl⟩ ⟨e_2, rfl, rfl⟩
theorem hinX3_battery_X1 : ∀ w ∈ wsX10, w ∈ wsX3_battery := by decide +kernel
def rmX3_battery : Room := { frames := 7, cells := 1, slots := 6, locals := 113 }
set_option maxHeartbeats 4000000 in
set_option maxRecDepth 100000 in
theorem k_X3_battery (l : Launch) (hfl : l.stackTraces = false) (D : va_G) (cy : Nat → ClassId) (a : Nat → Nat) (A : Nat → Prop) (X : va_W) (V : XV) (d : Int32) (hn : (V 0 4).toInt ≤ 10) : vx_Met l yX3_battery wsX3_battery rmX3_battery (va_Pc [.ref (a 0), .int d] (xPre D (tyC cy) A (cW cy a X V))) (va_Qi (fun (r : Int32) (u : XV) => nDx V d = none ∧ r = V (9 + d.toNatClampNeg) 3 ∧ u = V) (fun u t => xPost D (tyC cy) A (cW cy a X u) t) A) (xX D (tyC cy) A (cW cy a X V) (nDx V d)) 1 6 A := by
  refine x_metX (own := RX3) (by decide) rfl rfl (Nat.le_of_ble_eq_true rfl) rfl ?_
  intro p e s m below meth c hout C hE
  refine x_aload_n (i := 0) C dX3_battery_0 rfl rfl ?_
  refine x_iload_n (i := 1) C dX3_battery_1 rfl rfl ?_
  refine x_callVrX hout C hE (k_X3_deviceAt l hfl D cy a A X _ _ (by assumption)) (cwV 1 C.2.2.2.2.1 gX3_battery_X3_deviceAt rfl rfl rfl (by decide +kernel) ⟨Nat.le_of_ble_eq_true rfl, Nat.le_of_ble_eq_true rfl⟩) 0 (cW_R cy a X _) rfl rfl rfl rfl (Nat.le_of_ble_eq_true rfl) dX3_battery_2 ⟨Nat.le_of_ble_eq_true rfl, Nat.le_of_ble_eq_true rfl⟩ ⟨Nat.le_of_ble_eq_true rfl, Nat.le_of_ble_eq_true rfl⟩ (fun E h9 => h9) (fun u_2 v_2 h_2 hB_2 => ?_)
  obtain ⟨e_2, e9_2⟩ := h_2
  subst hB_2
  rw [e9_2]
  refine x_getD C 3 (by have := vp_at (nDx_in (N := 10) e_2 hn); omega) (by decide) hinX3_battery_X1 (by decide +kernel) dX3_battery_5 ?_
  exact x_iretX  C dX3_battery_8 ⟨Nat.le_of_ble_eq_true rfl, Nat.le_of_ble_eq_true rfl⟩ ⟨e_2, rfl, rfl⟩
theorem hinX3_devices_X3 : ∀ w ∈ wsX30, w ∈ wsX3_devices := by decide +kernel
def rmX3_devices : Room := { frames := 0, cells := 0, slots := 0, locals := 0 }
set_option maxHeartbeats 4000000 in
set_option maxRecDepth 100000 in
theorem k_X3_devices (l : Launch) (D : va_G) (cy : Nat → ClassId) (a : Nat → Nat) (A : Nat → Prop) (X : va_W) (V : XV)   : Met l yX3_devices wsX3_devices rmX3_devices (va_Pc [.ref (a 0)] (xPre D (tyC cy) A (cW cy a X V))) (va_Qi (fun (r : Int32) (u : XV) => r = V 0 4 ∧ u = V) (fun u t => xPost D (tyC cy) A (cW cy a X u) t) A) 0 0 A := by
  refine x_met (own := RX3) (by decide) rfl rfl (Nat.le_of_ble_eq_true rfl) rfl ?_
  intro p e s m below meth c hnm C hE
  refine x_aload_n (i := 0) C dX3_devices_0 rfl rfl ?_
  refine x_getR C 4 (by decide) hinX3_devices_X3 (by decide +kernel) dX3_devices_1 ?_
  exact x_iret  C dX3_devices_4 ⟨Nat.le_of_ble_eq_true rfl, Nat.le_of_ble_eq_true rfl⟩ ⟨rfl, rfl⟩
theorem hinX3_report_X0 : ∀ w ∈ wsX00, w ∈ wsX3_report := by decide +kernel
theorem hinX3_report_X1 : ∀ w ∈ wsX10, w ∈ wsX3_report := by decide +kernel
def rmX3_report : Room := { frames := 8, cells := 3, slots := 18, locals := 134 }
set_option maxHeartbeats 4000000 in
set_option maxRecDepth 100000 in
theorem k_X3_report (l : Launch) (hfl : l.stackTraces = false) (D : va_G) (cy : Nat → ClassId) (a : Nat → Nat) (A : Nat → Prop) (X : va_W) (V : XV) (d z : Int32) (hn : (V 0 4).toInt ≤ 10) (hm : (V 0 5).toInt ≤ 6) : vx_Met l yX3_report wsX3_report rmX3_report (va_Pc [.ref (a 0), .int d, .int z] (xPre D (tyC cy) A (cW cy a X V))) (va_Qi (fun (r : Int32) (u : XV) => reportX V d = none ∧ r = reportV V (9 + d.toNatClampNeg) (19 + (V (9 + d.toNatClampNeg) 7).toNatClampNeg) z (9 + d.toNatClampNeg) 2 ∧ u = reportV V (9 + d.toNatClampNeg) (19 + (V (9 + d.toNatClampNeg) 7).toNatClampNeg) z) (fun u t => xPost D (tyC cy) A (cW cy a X u) t) A) (xX D (tyC cy) A (cW cy a X V) (reportX V d)) 3 18 A := by
  refine x_metX (own := RX3) (by decide) rfl rfl (Nat.le_of_ble_eq_true rfl) rfl ?_
  intro p e s m below meth c hout C hE
  refine x_aload_n (i := 0) C dX3_report_0 rfl rfl ?_
  refine x_iload_n (i := 1) C dX3_report_1 rfl rfl ?_
  refine x_callVrX hout C hE (k_X3_deviceAt l hfl D cy a A X _ _ (by assumption)) (cwV 1 C.2.2.2.2.1 gX3_report_X3_deviceAt rfl rfl rfl (by decide +kernel) ⟨Nat.le_of_ble_eq_true rfl, Nat.le_of_ble_eq_true rfl⟩) 0 (cW_R cy a X _) rfl rfl rfl rfl (Nat.le_of_ble_eq_true rfl) dX3_report_2 ⟨Nat.le_of_ble_eq_true rfl, Nat.le_of_ble_eq_true rfl⟩ ⟨Nat.le_of_ble_eq_true rfl, Nat.le_of_ble_eq_true rfl⟩ (fun E h9 => seqx_1 h9) (fun u_2 v_2 h_2 hB_2 => ?_)
  obtain ⟨e_2, e9_2⟩ := h_2
  subst hB_2
  rw [e9_2]
  refine x_astore_n (i := 3) C dX3_report_5 rfl (by decide) ?_
  refine x_aload_n (i := 3) C dX3_report_6 rfl rfl ?_
  refine x_getD C 6 (by have := vp_at (nDx_in (N := 10) e_2 hn); omega) (by decide) hinX3_report_X1 (by decide +kernel) dX3_report_7 ?_
  refine x_iconst (v := 2) C dX3_report_10 (by decide) ?_
  refine x_icmp_eq C 24 dX3_report_11 (by decide) (fun c_11 => ?_) (fun c_11 => ?_)
  · refine x_aload_n (i := 0) C dX3_report_24 rfl rfl ?_
    refine x_aload_n (i := 3) C dX3_report_25 rfl rfl ?_
    refine x_getD C 7 (by have := vp_at (nDx_in (N := 10) e_2 hn); omega) (by decide) hinX3_report_X1 (by decide +kernel) dX3_report_26 ?_
    refine x_callVrX hout C hE (k_X3_campaignAt l hfl D cy a A X _ _ (by assumption)) (cwV 1 C.2.2.2.2.1 gX3_report_X3_campaignAt rfl rfl rfl (by decide +kernel) ⟨Nat.le_of_ble_eq_true rfl, Nat.le_of_ble_eq_true rfl⟩) 0 (cW_R cy a X _) rfl rfl rfl rfl (Nat.le_of_ble_eq_true rfl) dX3_report_29 ⟨Nat.le_of_ble_eq_true rfl, Nat.le_of_ble_eq_true rfl⟩ ⟨Nat.le_of_ble_eq_true rfl, Nat.le_of_ble_eq_true rfl⟩ (fun E h9 => seqx_2 e_2 ((if_pos c_11).trans h9)) (fun u_29 v_29 h_29 hB_29 => ?_)
    obtain ⟨e_29, e9_29⟩ := h_29
    subst hB_29
    rw [e9_29]
    refine x_astore (i := 4) C dX3_report_32 (by decide) ?_
    refine x_iload_n (i := 2) C dX3_report_34 rfl rfl ?_
    refine x_if_eq C 47 dX3_report_35 (by decide) (fun c_35 => ?_) (fun c_35 => ?_)
    · refine x_aload_n (i := 3) C dX3_report_47 rfl rfl ?_
      refine x_iconst (v := 0) C dX3_report_48 (by decide) ?_
      refine x_putD C 6 (by have := vp_at (nDx_in (N := 10) e_2 hn); omega) (by decide) (by decide) hinX3_report_X1 (by decide +kernel) dX3_report_49 ?_
      refine x_aload_n (i := 3) C dX3_report_52 rfl rfl ?_
      refine x_iconst (v := (-1)) C dX3_report_53 (by decide) ?_
      refine x_putD C 7 (by have := vp_at (nDx_in (N := 10) e_2 hn); omega) (by decide) (by decide) hinX3_report_X1 (by decide +kernel) dX3_report_54 ?_
      refine x_aload (i := 4) C dX3_report_57 rfl ?_
      refine x_aload_n (i := 3) C dX3_report_59 rfl rfl ?_
      refine x_iload_n (i := 2) C dX3_report_60 rfl rfl ?_
      refine x_callVv C hE (k_X0_countReport l D cy a A X _ _ (by have := vp_at (nCx_in (N := 6) e_29 hm); omega) (by have := vp_at (nDx_in (N := 10) e_2 hn); omega)) (cwV 2 C.2.2.2.2.1 gX3_report_X0_countReport rfl rfl rfl (by decide +kernel) ⟨Nat.le_of_ble_eq_true rfl, Nat.le_of_ble_eq_true rfl⟩) _ (cW_K cy a X _ (by have := vp_at (nCx_in (N := 6) e_29 hm); omega)) rfl rfl rfl rfl (Nat.le_of_ble_eq_true rfl) dX3_report_61 ⟨Nat.le_of_ble_eq_true rfl, Nat.le_of_ble_eq_true rfl⟩ (fun u_61 h_61 => ?_)
      rw [h_61]
      refine x_aload (i := 4) C dX3_report_64 rfl ?_
      refine x_callVv C hE (k_X0_judgeRing l D cy a A X _ (by have := vp_at (nCx_in (N := 6) e_29 hm); omega)) (cwV 0 C.2.2.2.2.1 gX3_report_X0_judgeRing rfl rfl rfl (by decide +kernel) ⟨Nat.le_of_ble_eq_true rfl, Nat.le_of_ble_eq_true rfl⟩) _ (cW_K cy a X _ (by have := vp_at (nCx_in (N := 6) e_29 hm); omega)) rfl rfl rfl rfl (Nat.le_of_ble_eq_true rfl) dX3_report_66 ⟨Nat.le_of_ble_eq_true rfl, Nat.le_of_ble_eq_true rfl⟩ (fun u_66 h_66 => ?_)
      rw [h_66]
      refine x_aload_n (i := 3) C dX3_report_69 rfl rfl ?_
      refine x_getD C 2 (by have := vp_at (nDx_in (N := 10) e_2 hn); omega) (by decide) hinX3_report_X1 (by decide +kernel) dX3_report_70 ?_
      exact x_iretX  C dX3_report_73 ⟨Nat.le_of_ble_eq_true rfl, Nat.le_of_ble_eq_true rfl⟩ ⟨seqx_2 e_2 ((if_pos c_11).trans e_29), by unfold reportV reportV0; rw [if_pos c_35], by unfold reportV reportV0; rw [if_pos c_35]⟩
    refine x_aload_n (i := 3) C dX3_report_38 rfl rfl ?_
    refine x_aload (i := 4) C dX3_report_39 rfl ?_
    refine x_getK C 1 (by have := vp_at (nCx_in (N := 6) e_29 hm); omega) (by decide) hinX3_report_X0 (by decide +kernel) dX3_report_41 ?_
    refine x_putD C 2 (by have := vp_at (nDx_in (N := 10) e_2 hn); omega) (by decide) (by decide) hinX3_report_X1 (by decide +kernel) dX3_report_44 ?_
    refine x_aload_n (i := 3) C dX3_report_47 rfl rfl ?_
    refine x_iconst (v := 0) C dX3_report_48 (by decide) ?_
    refine x_putD C 6 (by have := vp_at (nDx_in (N := 10) e_2 hn); omega) (by decide) (by decide) hinX3_report_X1 (by decide +kernel) dX3_report_49 ?_
    refine x_aload_n (i := 3) C dX3_report_52 rfl rfl ?_
    refine x_iconst (v := (-1)) C dX3_report_53 (by decide) ?_
    refine x_putD C 7 (by have := vp_at (nDx_in (N := 10) e_2 hn); omega) (by decide) (by decide) hinX3_report_X1 (by decide +kernel) dX3_report_54 ?_
    refine x_aload (i := 4) C dX3_report_57 rfl ?_
    refine x_aload_n (i := 3) C dX3_report_59 rfl rfl ?_
    refine x_iload_n (i := 2) C dX3_report_60 rfl rfl ?_
    refine x_callVv C hE (k_X0_countReport l D cy a A X _ _ (by have := vp_at (nCx_in (N := 6) e_29 hm); omega) (by have := vp_at (nDx_in (N := 10) e_2 hn); omega)) (cwV 2 C.2.2.2.2.1 gX3_report_X0_countReport rfl rfl rfl (by decide +kernel) ⟨Nat.le_of_ble_eq_true rfl, Nat.le_of_ble_eq_true rfl⟩) _ (cW_K cy a X _ (by have := vp_at (nCx_in (N := 6) e_29 hm); omega)) rfl rfl rfl rfl (Nat.le_of_ble_eq_true rfl) dX3_report_61 ⟨Nat.le_of_ble_eq_true rfl, Nat.le_of_ble_eq_true rfl⟩ (fun u_61 h_61 => ?_)
    rw [h_61]
    refine x_aload (i := 4) C dX3_report_64 rfl ?_
    refine x_callVv C hE (k_X0_judgeRing l D cy a A X _ (by have := vp_at (nCx_in (N := 6) e_29 hm); omega)) (cwV 0 C.2.2.2.2.1 gX3_report_X0_judgeRing rfl rfl rfl (by decide +kernel) ⟨Nat.le_of_ble_eq_true rfl, Nat.le_of_ble_eq_true rfl⟩) _ (cW_K cy a X _ (by have := vp_at (nCx_in (N := 6) e_29 hm); omega)) rfl rfl rfl rfl (Nat.le_of_ble_eq_true rfl) dX3_report_66 ⟨Nat.le_of_ble_eq_true rfl, Nat.le_of_ble_eq_true rfl⟩ (fun u_66 h_66 => ?_)
    rw [h_66]
    refine x_aload_n (i := 3) C dX3_report_69 rfl rfl ?_
    refine x_getD C 2 (by have := vp_at (nDx_in (N := 10) e_2 hn); omega) (by decide) hinX3_report_X1 (by decide +kernel) dX3_report_70 ?_
    exact x_iretX  C dX3_report_73 ⟨Nat.le_of_ble_eq_true rfl, Nat.le_of_ble_eq_true rfl⟩ ⟨seqx_2 e_2 ((if_pos c_11).trans e_29), by unfold reportV reportV0; rw [if_neg c_35], by unfold reportV reportV0; rw [if_neg c_35]⟩
  exact x_throw (cls := xIS) (text := "the device is not on trial") hout hfl C hE rfl (by decide +kernel) (by decide +kernel) (by decide) (by decide +kernel) (by decide +kernel) (by decide +kernel) dX3_report_14 dX3_report_17 dX3_report_18 dX3_report_20 dX3_report_23 ⟨Nat.le_of_ble_eq_true rfl, Nat.le_of_ble_eq_true rfl, Nat.le_of_ble_eq_true rfl, Nat.le_of_ble_eq_true rfl⟩ ⟨Nat.le_of_ble_eq_true rfl, Nat.le_of_ble_eq_true rfl⟩ (seqx_2 e_2 (if_neg c_11))
theorem hinX3_begin_X0 : ∀ w ∈ wsX00, w ∈ wsX3_begin := by decide +kernel
theorem hinX3_begin_X3 : ∀ w ∈ wsX30, w ∈ wsX3_begin := by decide +kernel
def rmX3_begin : Room := { frames := 8, cells := 6, slots := 36, locals := 134 }
set_option maxHeartbeats 4000000 in
set_option maxRecDepth 100000 in
theorem k_X3_begin (l : Launch) (hfl : l.stackTraces = false) (D : va_G) (cy : Nat → ClassId) (a : Nat → Nat) (A : Nat → Prop) (X : va_W) (V : XV) (t k vs rep : Int32) {n : Nat} (hm : V 0 5 = nI n) (hm6 : n ≤ 6) : vx_Met l yX3_begin wsX3_begin rmX3_begin (va_Pc [.ref (a 0), .int t, .int k, .int vs, .int rep] (xPre D (tyC cy) A (cW cy a X V))) (va_Qi (fun (r : Int32) (u : XV) => beginX V t k vs rep = none ∧ r = beginV V n t k vs rep (19 + n) 0 ∧ u = beginV V n t k vs rep) (fun u t => xPost D (tyC cy) A (cW cy a X u) t) A) (xX D (tyC cy) A (cW cy a X V) (beginX V t k vs rep)) 6 36 A := by
  refine x_metX (own := RX3) (by decide) rfl rfl (Nat.le_of_ble_eq_true rfl) rfl ?_
  intro p e s m below meth c hout C hE
  refine x_iload_n (i := 1) C dX3_begin_0 rfl rfl ?_
  refine x_callSvX hout C hE (k_X3_needVersion l hfl D _ A _ _) (va_cwS 1 C.2.2.2.2.1 gX3_begin_X3_needVersion rfl rfl rfl (by decide +kernel) ⟨Nat.le_of_ble_eq_true rfl, Nat.le_of_ble_eq_true rfl⟩)  rfl rfl (Nat.le_of_ble_eq_true rfl) dX3_begin_1 ⟨Nat.le_of_ble_eq_true rfl, Nat.le_of_ble_eq_true rfl⟩ ⟨Nat.le_of_ble_eq_true rfl, Nat.le_of_ble_eq_true rfl⟩ (fun E h9 => seqx_1 h9) (fun u_1 h_1 => ?_)
  cases u_1
  refine x_iload (i := 4) C dX3_begin_4 rfl ?_
  refine x_iconst (v := (-1)) C dX3_begin_6 (by decide) ?_
  refine x_icmp_eq C 16 dX3_begin_7 (by decide) (fun c_7 => ?_) (fun c_7 => ?_)
  · refine x_iload_n (i := 2) C dX3_begin_16 rfl rfl ?_
    refine x_iconst (v := 0) C dX3_begin_17 (by decide) ?_
    refine x_bipush (v := 15) C dX3_begin_18 (by decide) ?_
    refine x_callSvX hout C hE (k_X3_needRange l hfl D _ A _ _ _ _) (va_cwS 3 C.2.2.2.2.1 gX3_begin_X3_needRange rfl rfl rfl (by decide +kernel) ⟨Nat.le_of_ble_eq_true rfl, Nat.le_of_ble_eq_true rfl⟩)  rfl rfl (Nat.le_of_ble_eq_true rfl) dX3_begin_20 ⟨Nat.le_of_ble_eq_true rfl, Nat.le_of_ble_eq_true rfl⟩ ⟨Nat.le_of_ble_eq_true rfl, Nat.le_of_ble_eq_true rfl⟩ (fun E h9 => seqx_2 h_1 (seqx_2 (if_pos c_7) (seqx_1 h9))) (fun u_20 h_20 => ?_)
    cases u_20
    refine x_iload_n (i := 3) C dX3_begin_23 rfl rfl ?_
    refine x_iconst (v := 0) C dX3_begin_24 (by decide) ?_
    refine x_sipush (v := 255) C dX3_begin_25 (by decide) ?_
    refine x_callSvX hout C hE (k_X3_needRange l hfl D _ A _ _ _ _) (va_cwS 3 C.2.2.2.2.1 gX3_begin_X3_needRange rfl rfl rfl (by decide +kernel) ⟨Nat.le_of_ble_eq_true rfl, Nat.le_of_ble_eq_true rfl⟩)  rfl rfl (Nat.le_of_ble_eq_true rfl) dX3_begin_28 ⟨Nat.le_of_ble_eq_true rfl, Nat.le_of_ble_eq_true rfl⟩ ⟨Nat.le_of_ble_eq_true rfl, Nat.le_of_ble_eq_true rfl⟩ (fun E h9 => seqx_2 h_1 (seqx_2 (if_pos c_7) (seqx_2 h_20 (seqx_1 h9)))) (fun u_28 h_28 => ?_)
    cases u_28
    refine x_aload_n (i := 0) C dX3_begin_31 rfl rfl ?_
    refine x_getR C 5 (by decide) hinX3_begin_X3 (by decide +kernel) dX3_begin_32 ?_
    refine x_bipush (v := 6) C dX3_begin_35 (by decide) ?_
    refine x_icmp_lt C 50 dX3_begin_37 (by decide) (fun c_37 => ?_) (fun c_37 => ?_)
    · refine x_iload (i := 4) C dX3_begin_50 rfl ?_
      refine x_iconst (v := (-1)) C dX3_begin_52 (by decide) ?_
      refine x_icmp_eq C 66 dX3_begin_53 (by decide) (fun c_53 => ?_) (fun c_53 => absurd c_7 c_53)
      refine x_aload_n (i := 0) C dX3_begin_66 rfl rfl ?_
      refine x_getRr C 3 (by decide) hinX3_begin_X3 (by decide +kernel) dX3_begin_67 ?_
      refine x_aload_n (i := 0) C dX3_begin_70 rfl rfl ?_
      refine x_getR C 5 (by decide) hinX3_begin_X3 (by decide +kernel) dX3_begin_71 ?_
      have hn9 : n < 6 := by
        have h9 := c_37
        rw [hm] at h9
        exact (nI_ltI (b := 6) (by omega) (by decide)).mp h9
      have e9 : V 0 5 = nI n := hm
      rw [e9]
      refine x_aaldQ (j := n) C (vp_in_nI hn9 (by decide)) (nI_clamp (by omega)) dX3_begin_74 ?_
      refine x_astore (i := 5) C dX3_begin_75 (by decide) ?_
      refine x_aload (i := 5) C dX3_begin_77 rfl ?_
      refine x_iload_n (i := 1) C dX3_begin_79 rfl rfl ?_
      refine x_putK C 1 (by omega) (by decide) (by decide) hinX3_begin_X0 (by decide +kernel) dX3_begin_80 ?_
      refine x_aload (i := 5) C dX3_begin_83 rfl ?_
      refine x_iload_n (i := 2) C dX3_begin_85 rfl rfl ?_
      refine x_putK C 2 (by omega) (by decide) (by decide) hinX3_begin_X0 (by decide +kernel) dX3_begin_86 ?_
      refine x_aload (i := 5) C dX3_begin_89 rfl ?_
      refine x_iload_n (i := 3) C dX3_begin_91 rfl rfl ?_
      refine x_putK C 3 (by omega) (by decide) (by decide) hinX3_begin_X0 (by decide +kernel) dX3_begin_92 ?_
      refine x_aload_n (i := 0) C dX3_begin_95 rfl rfl ?_
      refine x_dup C dX3_begin_96 rfl ?_
      refine x_getR C 5 (by decide) hinX3_begin_X3 (by decide +kernel) dX3_begin_97 ?_
      refine x_iconst (v := 1) C dX3_begin_100 (by decide) ?_
      refine x_iadd C dX3_begin_101 ?_
      refine x_putR C 5 (by decide) hinX3_begin_X3 (by decide +kernel) dX3_begin_102 ?_
      refine x_aload (i := 5) C dX3_begin_105 rfl ?_
      refine x_getK C 0 (by omega) (by decide) hinX3_begin_X0 (by decide +kernel) dX3_begin_107 ?_
      exact x_iretX  C dX3_begin_110 ⟨Nat.le_of_ble_eq_true rfl, Nat.le_of_ble_eq_true rfl⟩ ⟨seqx_2 h_1 (seqx_2 (if_pos c_7) (seqx_2 h_20 (seqx_2 h_28 (if_pos c_37)))), by unfold beginV beginV1 beginV0; rw [if_pos c_7], by unfold beginV beginV1 beginV0; rw [if_pos c_7]⟩
    exact x_throw (cls := xIS) (text := "no room for another campaign") hout hfl C hE rfl (by decide +kernel) (by decide +kernel) (by decide) (by decide +kernel) (by decide +kernel) (by decide +kernel) dX3_begin_40 dX3_begin_43 dX3_begin_44 dX3_begin_46 dX3_begin_49 ⟨Nat.le_of_ble_eq_true rfl, Nat.le_of_ble_eq_true rfl, Nat.le_of_ble_eq_true rfl, Nat.le_of_ble_eq_true rfl⟩ ⟨Nat.le_of_ble_eq_true rfl, Nat.le_of_ble_eq_true rfl⟩ (seqx_2 h_1 (seqx_2 (if_pos c_7) (seqx_2 h_20 (seqx_2 h_28 (if_neg c_37)))))
  refine x_aload_n (i := 0) C dX3_begin_10 rfl rfl ?_
  refine x_iload (i := 4) C dX3_begin_11 rfl ?_
  refine x_callVvX hout C hE (k_X3_needCampaign l hfl D cy a A X _ _) (cwV 1 C.2.2.2.2.1 gX3_begin_X3_needCampaign rfl rfl rfl (by decide +kernel) ⟨Nat.le_of_ble_eq_true rfl, Nat.le_of_ble_eq_true rfl⟩) 0 (cW_R cy a X _) rfl rfl rfl rfl (Nat.le_of_ble_eq_true rfl) dX3_begin_13 ⟨Nat.le_of_ble_eq_true rfl, Nat.le_of_ble_eq_true rfl⟩ ⟨Nat.le_of_ble_eq_true rfl, Nat.le_of_ble_eq_true rfl⟩ (fun E h9 => seqx_2 h_1 (seqx_1 ((if_neg c_7).trans h9))) (fun u_13 h_13 => ?_)
  obtain ⟨e_13, e9_13⟩ := h_13
  rw [e9_13]
  refine x_iload_n (i := 2) C dX3_begin_16 rfl rfl ?_
  refine x_iconst (v := 0) C dX3_begin_17 (by decide) ?_
  refine x_bipush (v := 15) C dX3_begin_18 (by decide) ?_
  refine x_callSvX hout C hE (k_X3_needRange l hfl D _ A _ _ _ _) (va_cwS 3 C.2.2.2.2.1 gX3_begin_X3_needRange rfl rfl rfl (by decide +kernel) ⟨Nat.le_of_ble_eq_true rfl, Nat.le_of_ble_eq_true rfl⟩)  rfl rfl (Nat.le_of_ble_eq_true rfl) dX3_begin_20 ⟨Nat.le_of_ble_eq_true rfl, Nat.le_of_ble_eq_true rfl⟩ ⟨Nat.le_of_ble_eq_true rfl, Nat.le_of_ble_eq_true rfl⟩ (fun E h9 => seqx_2 h_1 (seqx_2 ((if_neg c_7).trans e_13) (seqx_1 h9))) (fun u_20 h_20 => ?_)
  cases u_20
  refine x_iload_n (i := 3) C dX3_begin_23 rfl rfl ?_
  refine x_iconst (v := 0) C dX3_begin_24 (by decide) ?_
  refine x_sipush (v := 255) C dX3_begin_25 (by decide) ?_
  refine x_callSvX hout C hE (k_X3_needRange l hfl D _ A _ _ _ _) (va_cwS 3 C.2.2.2.2.1 gX3_begin_X3_needRange rfl rfl rfl (by decide +kernel) ⟨Nat.le_of_ble_eq_true rfl, Nat.le_of_ble_eq_true rfl⟩)  rfl rfl (Nat.le_of_ble_eq_true rfl) dX3_begin_28 ⟨Nat.le_of_ble_eq_true rfl, Nat.le_of_ble_eq_true rfl⟩ ⟨Nat.le_of_ble_eq_true rfl, Nat.le_of_ble_eq_true rfl⟩ (fun E h9 => seqx_2 h_1 (seqx_2 ((if_neg c_7).trans e_13) (seqx_2 h_20 (seqx_1 h9)))) (fun u_28 h_28 => ?_)
  cases u_28
  refine x_aload_n (i := 0) C dX3_begin_31 rfl rfl ?_
  refine x_getR C 5 (by decide) hinX3_begin_X3 (by decide +kernel) dX3_begin_32 ?_
  refine x_bipush (v := 6) C dX3_begin_35 (by decide) ?_
  refine x_icmp_lt C 50 dX3_begin_37 (by decide) (fun c_37 => ?_) (fun c_37 => ?_)
  · refine x_iload (i := 4) C dX3_begin_50 rfl ?_
    refine x_iconst (v := (-1)) C dX3_begin_52 (by decide) ?_
    refine x_icmp_eq C 66 dX3_begin_53 (by decide) (fun c_53 => absurd c_53 c_7) (fun c_53 => ?_)
    refine x_aload_n (i := 0) C dX3_begin_56 rfl rfl ?_
    refine x_iload (i := 4) C dX3_begin_57 rfl ?_
    refine x_callVrX hout C hE (k_X3_campaignAt l hfl D cy a A X _ _ (toI10 hm hm6 (by decide))) (cwV 1 C.2.2.2.2.1 gX3_begin_X3_campaignAt rfl rfl rfl (by decide +kernel) ⟨Nat.le_of_ble_eq_true rfl, Nat.le_of_ble_eq_true rfl⟩) 0 (cW_R cy a X _) rfl rfl rfl rfl (Nat.le_of_ble_eq_true rfl) dX3_begin_59 ⟨Nat.le_of_ble_eq_true rfl, Nat.le_of_ble_eq_true rfl⟩ ⟨Nat.le_of_ble_eq_true rfl, Nat.le_of_ble_eq_true rfl⟩ (fun E h9 => absurd (e_13.symm.trans h9) (by intro z; cases z)) (fun u_59 v_59 h_59 hB_59 => ?_)
    obtain ⟨e_59, e9_59⟩ := h_59
    subst hB_59
    rw [e9_59]
    refine x_iconst (v := 0) C dX3_begin_62 (by decide) ?_
    refine x_putKz C (by have := vp_at (nCx_in (N := 6) e_13 (toI10 hm hm6 (by decide))); omega) rfl rfl hinX3_begin_X0 (by decide +kernel) dX3_begin_63 ?_
    refine x_aload_n (i := 0) C dX3_begin_66 rfl rfl ?_
    refine x_getRr C 3 (by decide) hinX3_begin_X3 (by decide +kernel) dX3_begin_67 ?_
    refine x_aload_n (i := 0) C dX3_begin_70 rfl rfl ?_
    refine x_getR C 5 (by decide) hinX3_begin_X3 (by decide +kernel) dX3_begin_71 ?_
    have hn9 : n < 6 := by
      have h9 := c_37
      rw [hm] at h9
      exact (nI_ltI (b := 6) (by omega) (by decide)).mp h9
    have e9 : xs V (19 + rep.toNatClampNeg) 8 0 0 5 = nI n := by rw [xs_get _ _ (by omega), hm]
    rw [e9]
    refine x_aaldQ (j := n) C (vp_in_nI hn9 (by decide)) (nI_clamp (by omega)) dX3_begin_74 ?_
    refine x_astore (i := 5) C dX3_begin_75 (by decide) ?_
    refine x_aload (i := 5) C dX3_begin_77 rfl ?_
    refine x_iload_n (i := 1) C dX3_begin_79 rfl rfl ?_
    refine x_putK C 1 (by omega) (by decide) (by decide) hinX3_begin_X0 (by decide +kernel) dX3_begin_80 ?_
    refine x_aload (i := 5) C dX3_begin_83 rfl ?_
    refine x_iload_n (i := 2) C dX3_begin_85 rfl rfl ?_
    refine x_putK C 2 (by omega) (by decide) (by decide) hinX3_begin_X0 (by decide +kernel) dX3_begin_86 ?_
    refine x_aload (i := 5) C dX3_begin_89 rfl ?_
    refine x_iload_n (i := 3) C dX3_begin_91 rfl rfl ?_
    refine x_putK C 3 (by omega) (by decide) (by decide) hinX3_begin_X0 (by decide +kernel) dX3_begin_92 ?_
    refine x_aload_n (i := 0) C dX3_begin_95 rfl rfl ?_
    refine x_dup C dX3_begin_96 rfl ?_
    refine x_getR C 5 (by decide) hinX3_begin_X3 (by decide +kernel) dX3_begin_97 ?_
    refine x_iconst (v := 1) C dX3_begin_100 (by decide) ?_
    refine x_iadd C dX3_begin_101 ?_
    refine x_putR C 5 (by decide) hinX3_begin_X3 (by decide +kernel) dX3_begin_102 ?_
    refine x_aload (i := 5) C dX3_begin_105 rfl ?_
    refine x_getK C 0 (by omega) (by decide) hinX3_begin_X0 (by decide +kernel) dX3_begin_107 ?_
    exact x_iretX  C dX3_begin_110 ⟨Nat.le_of_ble_eq_true rfl, Nat.le_of_ble_eq_true rfl⟩ ⟨seqx_2 h_1 (seqx_2 ((if_neg c_7).trans e_13) (seqx_2 h_20 (seqx_2 h_28 (if_pos c_37)))), by unfold beginV beginV1 beginV0; rw [if_neg c_7], by unfold beginV beginV1 beginV0; rw [if_neg c_7]⟩
  exact x_throw (cls := xIS) (text := "no room for another campaign") hout hfl C hE rfl (by decide +kernel) (by decide +kernel) (by decide) (by decide +kernel) (by decide +kernel) (by decide +kernel) dX3_begin_40 dX3_begin_43 dX3_begin_44 dX3_begin_46 dX3_begin_49 ⟨Nat.le_of_ble_eq_true rfl, Nat.le_of_ble_eq_true rfl, Nat.le_of_ble_eq_true rfl, Nat.le_of_ble_eq_true rfl⟩ ⟨Nat.le_of_ble_eq_true rfl, Nat.le_of_ble_eq_true rfl⟩ (seqx_2 h_1 (seqx_2 ((if_neg c_7).trans e_13) (seqx_2 h_20 (seqx_2 h_28 (if_neg c_37)))))
theorem hinX3_setRules_X0 : ∀ w ∈ wsX00, w ∈ wsX3_setRules := by decide +kernel
def rmX3_setRules : Room := { frames := 8, cells := 5, slots := 30, locals := 134 }
set_option maxHeartbeats 4000000 in
set_option maxRecDepth 100000 in
theorem k_X3_setRules (l : Launch) (hfl : l.stackTraces = false) (D : va_G) (cy : Nat → ClassId) (a : Nat → Nat) (A : Nat → Prop) (X : va_W) (V : XV) (c9 f s9 n9 th : Int32) (hm : (V 0 5).toInt ≤ 6) : vx_Met l yX3_setRules wsX3_setRules rmX3_setRules (va_Pc [.ref (a 0), .int c9, .int f, .int s9, .int n9, .int th] (xPre D (tyC cy) A (cW cy a X V))) (va_Qv (fun (u : XV) => rulesX V c9 f s9 n9 th = none ∧ u = rulesV V (19 + c9.toNatClampNeg) f s9 n9 th) (fun u t => xPost D (tyC cy) A (cW cy a X u) t) A) (xX D (tyC cy) A (cW cy a X V) (rulesX V c9 f s9 n9 th)) 5 30 A := by
  refine x_metX (own := RX3) (by decide) rfl rfl (Nat.le_of_ble_eq_true rfl) rfl ?_
  intro p e s m below meth c hout C hE
  refine x_aload_n (i := 0) C dX3_setRules_0 rfl rfl ?_
  refine x_iload_n (i := 1) C dX3_setRules_1 rfl rfl ?_
  refine x_callVrX hout C hE (k_X3_campaignAt l hfl D cy a A X _ _ (by assumption)) (cwV 1 C.2.2.2.2.1 gX3_setRules_X3_campaignAt rfl rfl rfl (by decide +kernel) ⟨Nat.le_of_ble_eq_true rfl, Nat.le_of_ble_eq_true rfl⟩) 0 (cW_R cy a X _) rfl rfl rfl rfl (Nat.le_of_ble_eq_true rfl) dX3_setRules_2 ⟨Nat.le_of_ble_eq_true rfl, Nat.le_of_ble_eq_true rfl⟩ ⟨Nat.le_of_ble_eq_true rfl, Nat.le_of_ble_eq_true rfl⟩ (fun E h9 => seqx_1 h9) (fun u_2 v_2 h_2 hB_2 => ?_)
  obtain ⟨e_2, e9_2⟩ := h_2
  subst hB_2
  rw [e9_2]
  refine x_astore (i := 6) C dX3_setRules_5 (by decide) ?_
  refine x_iload_n (i := 2) C dX3_setRules_7 rfl rfl ?_
  refine x_iconst (v := 0) C dX3_setRules_8 (by decide) ?_
  refine x_bipush (v := 100) C dX3_setRules_9 (by decide) ?_
  refine x_callSvX hout C hE (k_X3_needRange l hfl D _ A _ _ _ _) (va_cwS 3 C.2.2.2.2.1 gX3_setRules_X3_needRange rfl rfl rfl (by decide +kernel) ⟨Nat.le_of_ble_eq_true rfl, Nat.le_of_ble_eq_true rfl⟩)  rfl rfl (Nat.le_of_ble_eq_true rfl) dX3_setRules_11 ⟨Nat.le_of_ble_eq_true rfl, Nat.le_of_ble_eq_true rfl⟩ ⟨Nat.le_of_ble_eq_true rfl, Nat.le_of_ble_eq_true rfl⟩ (fun E h9 => seqx_2 e_2 (seqx_1 h9)) (fun u_11 h_11 => ?_)
  cases u_11
  refine x_iload_n (i := 3) C dX3_setRules_14 rfl rfl ?_
  refine x_iload_n (i := 2) C dX3_setRules_15 rfl rfl ?_
  refine x_bipush (v := 100) C dX3_setRules_16 (by decide) ?_
  refine x_callSvX hout C hE (k_X3_needRange l hfl D _ A _ _ _ _) (va_cwS 3 C.2.2.2.2.1 gX3_setRules_X3_needRange rfl rfl rfl (by decide +kernel) ⟨Nat.le_of_ble_eq_true rfl, Nat.le_of_ble_eq_true rfl⟩)  rfl rfl (Nat.le_of_ble_eq_true rfl) dX3_setRules_18 ⟨Nat.le_of_ble_eq_true rfl, Nat.le_of_ble_eq_true rfl⟩ ⟨Nat.le_of_ble_eq_true rfl, Nat.le_of_ble_eq_true rfl⟩ (fun E h9 => seqx_2 e_2 (seqx_2 h_11 (seqx_1 h9))) (fun u_18 h_18 => ?_)
  cases u_18
  refine x_iload (i := 4) C dX3_setRules_21 rfl ?_
  refine x_iconst (v := 1) C dX3_setRules_23 (by decide) ?_
  refine x_bipush (v := 10) C dX3_setRules_24 (by decide) ?_
  refine x_callSvX hout C hE (k_X3_needRange l hfl D _ A _ _ _ _) (va_cwS 3 C.2.2.2.2.1 gX3_setRules_X3_needRange rfl rfl rfl (by decide +kernel) ⟨Nat.le_of_ble_eq_true rfl, Nat.le_of_ble_eq_true rfl⟩)  rfl rfl (Nat.le_of_ble_eq_true rfl) dX3_setRules_26 ⟨Nat.le_of_ble_eq_true rfl, Nat.le_of_ble_eq_true rfl⟩ ⟨Nat.le_of_ble_eq_true rfl, Nat.le_of_ble_eq_true rfl⟩ (fun E h9 => seqx_2 e_2 (seqx_2 h_11 (seqx_2 h_18 (seqx_1 h9)))) (fun u_26 h_26 => ?_)
  cases u_26
  refine x_iload (i := 5) C dX3_setRules_29 rfl ?_
  refine x_iconst (v := 0) C dX3_setRules_31 (by decide) ?_
  refine x_sipush (v := 1000) C dX3_setRules_32 (by decide) ?_
  refine x_callSvX hout C hE (k_X3_needRange l hfl D _ A _ _ _ _) (va_cwS 3 C.2.2.2.2.1 gX3_setRules_X3_needRange rfl rfl rfl (by decide +kernel) ⟨Nat.le_of_ble_eq_true rfl, Nat.le_of_ble_eq_true rfl⟩)  rfl rfl (Nat.le_of_ble_eq_true rfl) dX3_setRules_35 ⟨Nat.le_of_ble_eq_true rfl, Nat.le_of_ble_eq_true rfl⟩ ⟨Nat.le_of_ble_eq_true rfl, Nat.le_of_ble_eq_true rfl⟩ (fun E h9 => seqx_2 e_2 (seqx_2 h_11 (seqx_2 h_18 (seqx_2 h_26 h9)))) (fun u_35 h_35 => ?_)
  cases u_35
  refine x_aload (i := 6) C dX3_setRules_38 rfl ?_
  refine x_iload_n (i := 2) C dX3_setRules_40 rfl rfl ?_
  refine x_putK C 4 (by have := vp_at (nCx_in (N := 6) e_2 hm); omega) (by decide) (by decide) hinX3_setRules_X0 (by decide +kernel) dX3_setRules_41 ?_
  refine x_aload (i := 6) C dX3_setRules_44 rfl ?_
  refine x_iload_n (i := 3) C dX3_setRules_46 rfl rfl ?_
  refine x_putK C 5 (by have := vp_at (nCx_in (N := 6) e_2 hm); omega) (by decide) (by decide) hinX3_setRules_X0 (by decide +kernel) dX3_setRules_47 ?_
  refine x_aload (i := 6) C dX3_setRules_50 rfl ?_
  refine x_iload (i := 4) C dX3_setRules_52 rfl ?_
  refine x_putK C 6 (by have := vp_at (nCx_in (N := 6) e_2 hm); omega) (by decide) (by decide) hinX3_setRules_X0 (by decide +kernel) dX3_setRules_54 ?_
  refine x_aload (i := 6) C dX3_setRules_57 rfl ?_
  refine x_iload (i := 5) C dX3_setRules_59 rfl ?_
  refine x_putK C 7 (by have := vp_at (nCx_in (N := 6) e_2 hm); omega) (by decide) (by decide) hinX3_setRules_X0 (by decide +kernel) dX3_setRules_61 ?_
  exact x_vretX  C dX3_setRules_64 ⟨Nat.le_of_ble_eq_true rfl, Nat.le_of_ble_eq_true rfl⟩ ⟨seqx_2 e_2 (seqx_2 h_11 (seqx_2 h_18 (seqx_2 h_26 h_35))), rfl⟩
theorem hinX3_toggle_X0 : ∀ w ∈ wsX00, w ∈ wsX3_toggle := by decide +kernel
def rmX3_toggle : Room := { frames := 8, cells := 1, slots := 6, locals := 134 }
set_option maxHeartbeats 4000000 in
set_option maxRecDepth 100000 in
theorem k_X3_toggle (l : Launch) (hfl : l.stackTraces = false) (D : va_G) (cy : Nat → ClassId) (a : Nat → Nat) (A : Nat → Prop) (X : va_W) (V : XV) (c9 : Int32) (hm : (V 0 5).toInt ≤ 6) : vx_Met l yX3_toggle wsX3_toggle rmX3_toggle (va_Pc [.ref (a 0), .int c9] (xPre D (tyC cy) A (cW cy a X V))) (va_Qi (fun (r : Int32) (u : XV) => nCx V c9 = none ∧ r = toggleV V (19 + c9.toNatClampNeg) (19 + c9.toNatClampNeg) 8 ∧ u = toggleV V (19 + c9.toNatClampNeg)) (fun u t => xPost D (tyC cy) A (cW cy a X u) t) A) (xX D (tyC cy) A (cW cy a X V) (nCx V c9)) 1 6 A := by
  refine x_metX (own := RX3) (by decide) rfl rfl (Nat.le_of_ble_eq_true rfl) rfl ?_
  intro p e s m below meth c hout C hE
  refine x_aload_n (i := 0) C dX3_toggle_0 rfl rfl ?_
  refine x_iload_n (i := 1) C dX3_toggle_1 rfl rfl ?_
  refine x_callVrX hout C hE (k_X3_campaignAt l hfl D cy a A X _ _ (by assumption)) (cwV 1 C.2.2.2.2.1 gX3_toggle_X3_campaignAt rfl rfl rfl (by decide +kernel) ⟨Nat.le_of_ble_eq_true rfl, Nat.le_of_ble_eq_true rfl⟩) 0 (cW_R cy a X _) rfl rfl rfl rfl (Nat.le_of_ble_eq_true rfl) dX3_toggle_2 ⟨Nat.le_of_ble_eq_true rfl, Nat.le_of_ble_eq_true rfl⟩ ⟨Nat.le_of_ble_eq_true rfl, Nat.le_of_ble_eq_true rfl⟩ (fun E h9 => h9) (fun u_2 v_2 h_2 hB_2 => ?_)
  obtain ⟨e_2, e9_2⟩ := h_2
  subst hB_2
  rw [e9_2]
  refine x_astore_n (i := 2) C dX3_toggle_5 rfl (by decide) ?_
  refine x_aload_n (i := 2) C dX3_toggle_6 rfl rfl ?_
  refine x_aload_n (i := 2) C dX3_toggle_7 rfl rfl ?_
  refine x_getK C 8 (by have := vp_at (nCx_in (N := 6) e_2 hm); omega) (by decide) hinX3_toggle_X0 (by decide +kernel) dX3_toggle_8 ?_
  refine x_if_ne C 18 dX3_toggle_11 (by decide) (fun c_11 => ?_) (fun c_11 => ?_)
  · refine x_iconst (v := 0) C dX3_toggle_18 (by decide) ?_
    refine x_putKz C (by have := vp_at (nCx_in (N := 6) e_2 hm); omega) rfl rfl hinX3_toggle_X0 (by decide +kernel) dX3_toggle_19 ?_
    refine x_aload_n (i := 2) C dX3_toggle_22 rfl rfl ?_
    refine x_getK C 8 (by have := vp_at (nCx_in (N := 6) e_2 hm); omega) (by decide) hinX3_toggle_X0 (by decide +kernel) dX3_toggle_23 ?_
    refine x_if_eq C 37 dX3_toggle_26 (by decide) (fun c_26 => ?_) (fun c_26 => absurd (xs_self V _ 8 0) c_26)
    refine x_aload_n (i := 2) C dX3_toggle_37 rfl rfl ?_
    refine x_getK C 8 (by have := vp_at (nCx_in (N := 6) e_2 hm); omega) (by decide) hinX3_toggle_X0 (by decide +kernel) dX3_toggle_38 ?_
    exact x_zretX  C dX3_toggle_41 ⟨Nat.le_of_ble_eq_true rfl, Nat.le_of_ble_eq_true rfl⟩ (nz (Or.inl (xs_self V _ 8 0))) ⟨e_2, by unfold toggleV; rw [if_neg c_11], by unfold toggleV; rw [if_neg c_11]⟩
  refine x_iconst (v := 1) C dX3_toggle_14 (by decide) ?_
  refine x_goto C 19 dX3_toggle_15 (by decide) ?_
  refine x_putKz C (by have := vp_at (nCx_in (N := 6) e_2 hm); omega) rfl rfl hinX3_toggle_X0 (by decide +kernel) dX3_toggle_19 ?_
  refine x_aload_n (i := 2) C dX3_toggle_22 rfl rfl ?_
  refine x_getK C 8 (by have := vp_at (nCx_in (N := 6) e_2 hm); omega) (by decide) hinX3_toggle_X0 (by decide +kernel) dX3_toggle_23 ?_
  refine x_if_eq C 37 dX3_toggle_26 (by decide) (fun c_26 => absurd c_26 (by rw [xs_self]; decide)) (fun c_26 => ?_)
  refine x_aload_n (i := 2) C dX3_toggle_29 rfl rfl ?_
  refine x_aload_n (i := 2) C dX3_toggle_30 rfl rfl ?_
  refine x_getK C 9 (by have := vp_at (nCx_in (N := 6) e_2 hm); omega) (by decide) hinX3_toggle_X0 (by decide +kernel) dX3_toggle_31 ?_
  refine x_callVv C hE (k_X0_beginRing l D cy a A X _ _ (by have := vp_at (nCx_in (N := 6) e_2 hm); omega)) (cwV 1 C.2.2.2.2.1 gX3_toggle_X0_beginRing rfl rfl rfl (by decide +kernel) ⟨Nat.le_of_ble_eq_true rfl, Nat.le_of_ble_eq_true rfl⟩) _ (cW_K cy a X _ (by have := vp_at (nCx_in (N := 6) e_2 hm); omega)) rfl rfl rfl rfl (Nat.le_of_ble_eq_true rfl) dX3_toggle_34 ⟨Nat.le_of_ble_eq_true rfl, Nat.le_of_ble_eq_true rfl⟩ (fun u_34 h_34 => ?_)
  rw [h_34]
  refine x_aload_n (i := 2) C dX3_toggle_37 rfl rfl ?_
  refine x_getK C 8 (by have := vp_at (nCx_in (N := 6) e_2 hm); omega) (by decide) hinX3_toggle_X0 (by decide +kernel) dX3_toggle_38 ?_
  exact x_zretX  C dX3_toggle_41 ⟨Nat.le_of_ble_eq_true rfl, Nat.le_of_ble_eq_true rfl⟩ (nz (Or.inr (by unfold ringV; rw [xs_get _ _ (by omega), xs_get _ _ (by omega), xs_get _ _ (by omega), xs_self]))) ⟨e_2, by unfold toggleV; rw [if_pos c_11], by unfold toggleV; rw [if_pos c_11]⟩
theorem hinX3_isActive_X0 : ∀ w ∈ wsX00, w ∈ wsX3_isActive := by decide +kernel
def rmX3_isActive : Room := { frames := 8, cells := 1, slots := 6, locals := 134 }
set_option maxHeartbeats 4000000 in
set_option maxRecDepth 100000 in
theorem k_X3_isActive (l : Launch) (hfl : l.stackTraces = false) (D : va_G) (cy : Nat → ClassId) (a : Nat → Nat) (A : Nat → Prop) (X : va_W) (V : XV) (c9 : Int32) (hm : (V 0 5).toInt ≤ 6) (hz : ∀ q, 19 ≤ q ∧ q < 25 → V q 8 = 0 ∨ V q 8 = 1) : vx_Met l yX3_isActive wsX3_isActive rmX3_isActive (va_Pc [.ref (a 0), .int c9] (xPre D (tyC cy) A (cW cy a X V))) (va_Qi (fun (r : Int32) (u : XV) => nCx V c9 = none ∧ r = V (19 + c9.toNatClampNeg) 8 ∧ u = V) (fun u t => xPost D (tyC cy) A (cW cy a X u) t) A) (xX D (tyC cy) A (cW cy a X V) (nCx V c9)) 1 6 A := by
  refine x_metX (own := RX3) (by decide) rfl rfl (Nat.le_of_ble_eq_true rfl) rfl ?_
  intro p e s m below meth c hout C hE
  refine x_aload_n (i := 0) C dX3_isActive_0 rfl rfl ?_
  refine x_iload_n (i := 1) C dX3_isActive_1 rfl rfl ?_
  refine x_callVrX hout C hE (k_X3_campaignAt l hfl D cy a A X _ _ (by assumption)) (cwV 1 C.2.2.2.2.1 gX3_isActive_X3_campaignAt rfl rfl rfl (by decide +kernel) ⟨Nat.le_of_ble_eq_true rfl, Nat.le_of_ble_eq_true rfl⟩) 0 (cW_R cy a X _) rfl rfl rfl rfl (Nat.le_of_ble_eq_true rfl) dX3_isActive_2 ⟨Nat.le_of_ble_eq_true rfl, Nat.le_of_ble_eq_true rfl⟩ ⟨Nat.le_of_ble_eq_true rfl, Nat.le_of_ble_eq_true rfl⟩ (fun E h9 => h9) (fun u_2 v_2 h_2 hB_2 => ?_)
  obtain ⟨e_2, e9_2⟩ := h_2
  subst hB_2
  rw [e9_2]
  refine x_getK C 8 (by have := vp_at (nCx_in (N := 6) e_2 hm); omega) (by decide) hinX3_isActive_X0 (by decide +kernel) dX3_isActive_5 ?_
  exact x_zretX  C dX3_isActive_8 ⟨Nat.le_of_ble_eq_true rfl, Nat.le_of_ble_eq_true rfl⟩ (nz (hz _ (by have := vp_at (nCx_in (N := 6) e_2 hm); omega))) ⟨e_2, rfl, rfl⟩
theorem hinX3_ring_X0 : ∀ w ∈ wsX00, w ∈ wsX3_ring := by decide +kernel
def rmX3_ring : Room := { frames := 8, cells := 1, slots := 6, locals := 134 }
set_option maxHeartbeats 4000000 in
set_option maxRecDepth 100000 in
theorem k_X3_ring (l : Launch) (hfl : l.stackTraces = false) (D : va_G) (cy : Nat → ClassId) (a : Nat → Nat) (A : Nat → Prop) (X : va_W) (V : XV) (c9 : Int32) (hm : (V 0 5).toInt ≤ 6) : vx_Met l yX3_ring wsX3_ring rmX3_ring (va_Pc [.ref (a 0), .int c9] (xPre D (tyC cy) A (cW cy a X V))) (va_Qi (fun (r : Int32) (u : XV) => nCx V c9 = none ∧ r = V (19 + c9.toNatClampNeg) 9 ∧ u = V) (fun u t => xPost D (tyC cy) A (cW cy a X u) t) A) (xX D (tyC cy) A (cW cy a X V) (nCx V c9)) 1 6 A := by
  refine x_metX (own := RX3) (by decide) rfl rfl (Nat.le_of_ble_eq_true rfl) rfl ?_
  intro p e s m below meth c hout C hE
  refine x_aload_n (i := 0) C dX3_ring_0 rfl rfl ?_
  refine x_iload_n (i := 1) C dX3_ring_1 rfl rfl ?_
  refine x_callVrX hout C hE (k_X3_campaignAt l hfl D cy a A X _ _ (by assumption)) (cwV 1 C.2.2.2.2.1 gX3_ring_X3_campaignAt rfl rfl rfl (by decide +kernel) ⟨Nat.le_of_ble_eq_true rfl, Nat.le_of_ble_eq_true rfl⟩) 0 (cW_R cy a X _) rfl rfl rfl rfl (Nat.le_of_ble_eq_true rfl) dX3_ring_2 ⟨Nat.le_of_ble_eq_true rfl, Nat.le_of_ble_eq_true rfl⟩ ⟨Nat.le_of_ble_eq_true rfl, Nat.le_of_ble_eq_true rfl⟩ (fun E h9 => h9) (fun u_2 v_2 h_2 hB_2 => ?_)
  obtain ⟨e_2, e9_2⟩ := h_2
  subst hB_2
  rw [e9_2]
  refine x_getK C 9 (by have := vp_at (nCx_in (N := 6) e_2 hm); omega) (by decide) hinX3_ring_X0 (by decide +kernel) dX3_ring_5 ?_
  exact x_iretX  C dX3_ring_8 ⟨Nat.le_of_ble_eq_true rfl, Nat.le_of_ble_eq_true rfl⟩ ⟨e_2, rfl, rfl⟩
theorem hinX3_reports_X0 : ∀ w ∈ wsX00, w ∈ wsX3_reports := by decide +kernel
def rmX3_reports : Room := { frames := 8, cells := 1, slots := 6, locals := 134 }
set_option maxHeartbeats 4000000 in
set_option maxRecDepth 100000 in
theorem k_X3_reports (l : Launch) (hfl : l.stackTraces = false) (D : va_G) (cy : Nat → ClassId) (a : Nat → Nat) (A : Nat → Prop) (X : va_W) (V : XV) (c9 : Int32) (hm : (V 0 5).toInt ≤ 6) : vx_Met l yX3_reports wsX3_reports rmX3_reports (va_Pc [.ref (a 0), .int c9] (xPre D (tyC cy) A (cW cy a X V))) (va_Qi (fun (r : Int32) (u : XV) => nCx V c9 = none ∧ r = V (19 + c9.toNatClampNeg) 10 ∧ u = V) (fun u t => xPost D (tyC cy) A (cW cy a X u) t) A) (xX D (tyC cy) A (cW cy a X V) (nCx V c9)) 1 6 A := by
  refine x_metX (own := RX3) (by decide) rfl rfl (Nat.le_of_ble_eq_true rfl) rfl ?_
  intro p e s m below meth c hout C hE
  refine x_aload_n (i := 0) C dX3_reports_0 rfl rfl ?_
  refine x_iload_n (i := 1) C dX3_reports_1 rfl rfl ?_
  refine x_callVrX hout C hE (k_X3_campaignAt l hfl D cy a A X _ _ (by assumption)) (cwV 1 C.2.2.2.2.1 gX3_reports_X3_campaignAt rfl rfl rfl (by decide +kernel) ⟨Nat.le_of_ble_eq_true rfl, Nat.le_of_ble_eq_true rfl⟩) 0 (cW_R cy a X _) rfl rfl rfl rfl (Nat.le_of_ble_eq_true rfl) dX3_reports_2 ⟨Nat.le_of_ble_eq_true rfl, Nat.le_of_ble_eq_true rfl⟩ ⟨Nat.le_of_ble_eq_true rfl, Nat.le_of_ble_eq_true rfl⟩ (fun E h9 => h9) (fun u_2 v_2 h_2 hB_2 => ?_)
  obtain ⟨e_2, e9_2⟩ := h_2
  subst hB_2
  rw [e9_2]
  refine x_getK C 10 (by have := vp_at (nCx_in (N := 6) e_2 hm); omega) (by decide) hinX3_reports_X0 (by decide +kernel) dX3_reports_5 ?_
  exact x_iretX  C dX3_reports_8 ⟨Nat.le_of_ble_eq_true rfl, Nat.le_of_ble_eq_true rfl⟩ ⟨e_2, rfl, rfl⟩
theorem hinX3_mayTake_X0 : ∀ w ∈ wsX00, w ∈ wsX3_mayTake := by decide +kernel
theorem hinX3_mayTake_X1 : ∀ w ∈ wsX10, w ∈ wsX3_mayTake := by decide +kernel
theorem hinX3_mayTake_X3 : ∀ w ∈ wsX30, w ∈ wsX3_mayTake := by decide +kernel
def rmX3_mayTake : Room := { frames := 2, cells := 0, slots := 0, locals := 46 }
set_option maxHeartbeats 4000000 in
set_option maxRecDepth 100000 in
theorem k_X3_mayTake (l : Launch) (D : va_G) (cy : Nat → ClassId) (a : Nat → Nat) (A : Nat → Prop) (X : va_W) (V : XV) {p0 q0 : Nat} (hp : 9 ≤ p0 ∧ p0 < 19) (hq : 19 ≤ q0 ∧ q0 < 25) (hs : safeV V) : Met l yX3_mayTake wsX3_mayTake rmX3_mayTake (va_Pc [.ref (a 0), .ref (a p0), .ref (a q0)] (xPre D (tyC cy) A (cW cy a X V))) (va_Qi (fun (r : Int32) (u : XV) => r = b2i (mayTakeB V p0 q0) ∧ u = V) (fun u t => xPost D (tyC cy) A (cW cy a X u) t) A) 0 0 A := by
  refine x_met (own := RX3) (by decide) rfl rfl (Nat.le_of_ble_eq_true rfl) rfl ?_
  intro p e s m below meth c hnm C hE
  refine x_aload_n (i := 1) C dX3_mayTake_0 rfl rfl ?_
  refine x_getD C 6 (by omega) (by decide) hinX3_mayTake_X1 (by decide +kernel) dX3_mayTake_1 ?_
  refine x_if_ne C 57 dX3_mayTake_4 (by decide) (fun c_4 => ?_) (fun c_4 => ?_)
  · refine x_iconst (v := 0) C dX3_mayTake_57 (by decide) ?_
    exact x_zret  C dX3_mayTake_58 ⟨Nat.le_of_ble_eq_true rfl, Nat.le_of_ble_eq_true rfl⟩ rfl ⟨by (try simp only [b2i_0] at *); simp [mayTakeB, b2i, c_4], rfl⟩
  refine x_aload_n (i := 2) C dX3_mayTake_7 rfl rfl ?_
  refine x_aload_n (i := 1) C dX3_mayTake_8 rfl rfl ?_
  refine x_callVi C hE (k_X0_isFor l D cy a A X _ (by omega) (by omega)) (cwV 1 C.2.2.2.2.1 gX3_mayTake_X0_isFor rfl rfl rfl (by decide +kernel) ⟨Nat.le_of_ble_eq_true rfl, Nat.le_of_ble_eq_true rfl⟩) _ (cW_K cy a X _ (by omega)) rfl rfl rfl rfl (Nat.le_of_ble_eq_true rfl) dX3_mayTake_9 ⟨Nat.le_of_ble_eq_true rfl, Nat.le_of_ble_eq_true rfl⟩ (fun r_9 u_9 h_9 => ?_)
  obtain ⟨e8_9, e9_9⟩ := h_9
  rw [e8_9, e9_9]
  refine x_if_eq C 57 dX3_mayTake_12 (by decide) (fun c_12 => ?_) (fun c_12 => ?_)
  · refine x_iconst (v := 0) C dX3_mayTake_57 (by decide) ?_
    exact x_zret  C dX3_mayTake_58 ⟨Nat.le_of_ble_eq_true rfl, Nat.le_of_ble_eq_true rfl⟩ rfl ⟨by (try simp only [b2i_0] at *); simp [mayTakeB, b2i, c_4, c_12], rfl⟩
  refine x_aload_n (i := 0) C dX3_mayTake_15 rfl rfl ?_
  refine x_getRr C 0 (by decide) hinX3_mayTake_X3 (by decide +kernel) dX3_mayTake_16 ?_
  refine x_aload_n (i := 2) C dX3_mayTake_19 rfl rfl ?_
  refine x_getK C 1 (by omega) (by decide) hinX3_mayTake_X0 (by decide +kernel) dX3_mayTake_20 ?_
  refine x_ialdC C (Or.inl rfl) (hs.2 _ hq) rfl dX3_mayTake_23 ?_
  refine x_aload_n (i := 1) C dX3_mayTake_24 rfl rfl ?_
  refine x_getD C 1 (by omega) (by decide) hinX3_mayTake_X1 (by decide +kernel) dX3_mayTake_25 ?_
  refine x_callSi C hE (k_X3_has l D _ A _ _ _) (va_cwS 2 C.2.2.2.2.1 gX3_mayTake_X3_has rfl rfl rfl (by decide +kernel) ⟨Nat.le_of_ble_eq_true rfl, Nat.le_of_ble_eq_true rfl⟩)  rfl rfl (Nat.le_of_ble_eq_true rfl) dX3_mayTake_28 ⟨Nat.le_of_ble_eq_true rfl, Nat.le_of_ble_eq_true rfl⟩ (fun r_28 u_28 h_28 => ?_)
  subst h_28
  refine x_if_eq C 57 dX3_mayTake_31 (by decide) (fun c_31 => ?_) (fun c_31 => ?_)
  · refine x_iconst (v := 0) C dX3_mayTake_57 (by decide) ?_
    exact x_zret  C dX3_mayTake_58 ⟨Nat.le_of_ble_eq_true rfl, Nat.le_of_ble_eq_true rfl⟩ rfl ⟨by (try simp only [b2i_0] at *); simp [mayTakeB, b2i, c_4, c_12, c_31], rfl⟩
  refine x_aload_n (i := 0) C dX3_mayTake_34 rfl rfl ?_
  refine x_getRr C 1 (by decide) hinX3_mayTake_X3 (by decide +kernel) dX3_mayTake_35 ?_
  refine x_aload_n (i := 1) C dX3_mayTake_38 rfl rfl ?_
  refine x_getD C 2 (by omega) (by decide) hinX3_mayTake_X1 (by decide +kernel) dX3_mayTake_39 ?_
  refine x_aload_n (i := 2) C dX3_mayTake_42 rfl rfl ?_
  refine x_getK C 1 (by omega) (by decide) hinX3_mayTake_X0 (by decide +kernel) dX3_mayTake_43 ?_
  refine x_callVi C hE (k_X2_leastBytes l D cy a A X _ _ _ (hs.1 _ hp) (hs.2 _ hq)) (cwV 2 C.2.2.2.2.1 gX3_mayTake_X2_leastBytes rfl rfl rfl (by decide +kernel) ⟨Nat.le_of_ble_eq_true rfl, Nat.le_of_ble_eq_true rfl⟩) 2 (cW_W cy a X _) rfl rfl rfl rfl (Nat.le_of_ble_eq_true rfl) dX3_mayTake_46 ⟨Nat.le_of_ble_eq_true rfl, Nat.le_of_ble_eq_true rfl⟩ (fun r_46 u_46 h_46 => ?_)
  obtain ⟨e8_46, e9_46⟩ := h_46
  rw [e8_46, e9_46]
  refine x_iconst (v := (-1)) C dX3_mayTake_49 (by decide) ?_
  refine x_icmp_eq C 57 dX3_mayTake_50 (by decide) (fun c_50 => ?_) (fun c_50 => ?_)
  · refine x_iconst (v := 0) C dX3_mayTake_57 (by decide) ?_
    exact x_zret  C dX3_mayTake_58 ⟨Nat.le_of_ble_eq_true rfl, Nat.le_of_ble_eq_true rfl⟩ rfl ⟨by (try simp only [b2i_0] at *); simp [mayTakeB, b2i, c_4, c_12, c_31, c_50], rfl⟩
  refine x_iconst (v := 1) C dX3_mayTake_53 (by decide) ?_
  refine x_goto C 58 dX3_mayTake_54 (by decide) ?_
  exact x_zret  C dX3_mayTake_58 ⟨Nat.le_of_ble_eq_true rfl, Nat.le_of_ble_eq_true rfl⟩ rfl ⟨by (try simp only [b2i_0] at *); simp [mayTakeB, b2i, c_4, c_12, c_31, c_50], rfl⟩
theorem hinX3_eligible_X3 : ∀ w ∈ wsX30, w ∈ wsX3_eligible := by decide +kernel
def rmX3_eligible : Room := { frames := 8, cells := 1, slots := 6, locals := 134 }
set_option maxHeartbeats 4000000 in
set_option maxRecDepth 100000 in
theorem k_X3_eligible (l : Launch) (hfl : l.stackTraces = false) (D : va_G) (cy : Nat → ClassId) (a : Nat → Nat) (A : Nat → Prop) (X : va_W) (V : XV) (c9 : Int32) {n : Nat} (hn : V 0 4 = nI n) (hn10 : n ≤ 10) (hm : (V 0 5).toInt ≤ 6) (hs : safeV V) : vx_Met l yX3_eligible wsX3_eligible rmX3_eligible (va_Pc [.ref (a 0), .int c9] (xPre D (tyC cy) A (cW cy a X V))) (va_Qi (fun (r : Int32) (u : XV) => nCx V c9 = none ∧ r = elI V (19 + c9.toNatClampNeg) n ∧ u = V) (fun u t => xPost D (tyC cy) A (cW cy a X u) t) A) (xX D (tyC cy) A (cW cy a X V) (nCx V c9)) 1 6 A := by
  refine x_metX (own := RX3) (by decide) rfl rfl (Nat.le_of_ble_eq_true rfl) rfl ?_
  intro p e s m below meth c hout C hE
  refine x_aload_n (i := 0) C dX3_eligible_0 rfl rfl ?_
  refine x_iload_n (i := 1) C dX3_eligible_1 rfl rfl ?_
  refine x_callVrX hout C hE (k_X3_campaignAt l hfl D cy a A X _ _ (by assumption)) (cwV 1 C.2.2.2.2.1 gX3_eligible_X3_campaignAt rfl rfl rfl (by decide +kernel) ⟨Nat.le_of_ble_eq_true rfl, Nat.le_of_ble_eq_true rfl⟩) 0 (cW_R cy a X _) rfl rfl rfl rfl (Nat.le_of_ble_eq_true rfl) dX3_eligible_2 ⟨Nat.le_of_ble_eq_true rfl, Nat.le_of_ble_eq_true rfl⟩ ⟨Nat.le_of_ble_eq_true rfl, Nat.le_of_ble_eq_true rfl⟩ (fun E h9 => h9) (fun u_2 v_2 h_2 hB_2 => ?_)
  obtain ⟨e_2, e9_2⟩ := h_2
  subst hB_2
  rw [e9_2]
  refine x_astore_n (i := 2) C dX3_eligible_5 rfl (by decide) ?_
  refine x_iconst (v := 0) C dX3_eligible_6 (by decide) ?_
  refine x_istore_n (i := 3) C dX3_eligible_7 rfl (by decide) ?_
  refine x_iconst (v := 0) C dX3_eligible_8 (by decide) ?_
  refine x_istore (i := 4) C dX3_eligible_9 (by decide) ?_
  refine x_subm (lv' := [(4, .int (nI 0)), (3, .int (elI V (19 + c9.toNatClampNeg) 0)), (2, .ref (a (19 + c9.toNatClampNeg))), (0, .ref (a 0)), (1, .int c9)]) ?_ rfl
  refine x_count (N := n) (fun d => xA p l e rmX3_eligible s m _ below meth c D A 5 (0 + 1) (0 + 6) _ 11 [(4, .int (nI d)), (3, .int (elI V (19 + c9.toNatClampNeg) d)), (2, .ref (a (19 + c9.toNatClampNeg))), (0, .ref (a 0)), (1, .int c9)] [] (cW cy a X V)) ?_ ?_
  · refine x_iload (i := 4) C dX3_eligible_11 rfl ?_
    refine x_aload_n (i := 0) C dX3_eligible_13 rfl rfl ?_
    refine x_getR C 4 (by decide) hinX3_eligible_X3 (by decide +kernel) dX3_eligible_14 ?_
    refine x_icmp_ge C 48 dX3_eligible_17 (by decide) (fun c_17 => ?_) (fun c_17 => absurd (by rw [hn]; exact nI_le (Nat.le_refl _) (by omega)) c_17)
    refine x_iload_n (i := 3) C dX3_eligible_48 rfl rfl ?_
    exact x_iretX  C dX3_eligible_49 ⟨Nat.le_of_ble_eq_true rfl, Nat.le_of_ble_eq_true rfl⟩ ⟨e_2, rfl, rfl⟩
  intro d hd ihd
  refine x_iload (i := 4) C dX3_eligible_11 rfl ?_
  refine x_aload_n (i := 0) C dX3_eligible_13 rfl rfl ?_
  refine x_getR C 4 (by decide) hinX3_eligible_X3 (by decide +kernel) dX3_eligible_14 ?_
  refine x_icmp_ge C 48 dX3_eligible_17 (by decide) (fun c_17 => absurd c_17 (by rw [hn]; exact nI_ge hd (by omega))) (fun c_17 => ?_)
  refine x_aload_n (i := 0) C dX3_eligible_20 rfl rfl ?_
  refine x_aload_n (i := 0) C dX3_eligible_21 rfl rfl ?_
  refine x_getRr C 2 (by decide) hinX3_eligible_X3 (by decide +kernel) dX3_eligible_22 ?_
  refine x_iload (i := 4) C dX3_eligible_25 rfl ?_
  refine x_aaldF (j := d) C (vp_in_nI (by omega) (by decide)) (nI_clamp (by omega)) dX3_eligible_27 ?_
  refine x_aload_n (i := 2) C dX3_eligible_28 rfl rfl ?_
  refine x_callVi C hE (k_X3_mayTake l D cy a A X _ (by omega) (by have := vp_at (nCx_in (N := 6) e_2 hm); omega) hs) (cwV 2 C.2.2.2.2.1 gX3_eligible_X3_mayTake rfl rfl rfl (by decide +kernel) ⟨Nat.le_of_ble_eq_true rfl, Nat.le_of_ble_eq_true rfl⟩) 0 (cW_R cy a X _) rfl rfl rfl rfl (Nat.le_of_ble_eq_true rfl) dX3_eligible_29 ⟨Nat.le_of_ble_eq_true rfl, Nat.le_of_ble_eq_true rfl⟩ (fun r_29 u_29 h_29 => ?_)
  obtain ⟨e8_29, e9_29⟩ := h_29
  rw [e8_29, e9_29]
  refine x_if_eq C 42 dX3_eligible_32 (by decide) (fun c_32 => ?_) (fun c_32 => ?_)
  · refine x_iinc (v := nI (d + 1)) C dX3_eligible_42 rfl (inc1 d) ?_
    refine x_goto C 11 dX3_eligible_45 (by decide) ?_
    first | (have e9 : elI V (19 + c9.toNatClampNeg) (d + 1) = elI V (19 + c9.toNatClampNeg) d := if_neg (b2i_z c_32); rw [e9] at ihd; exact x_subm ihd rfl) | (have e9 : elI V (19 + c9.toNatClampNeg) (d + 1) = elI V (19 + c9.toNatClampNeg) d ||| (1 <<< (nI d &&& 31)) := if_pos (b2i_n0 c_32); rw [e9] at ihd; exact x_subm ihd rfl)
  refine x_iload_n (i := 3) C dX3_eligible_35 rfl rfl ?_
  refine x_iconst (v := 1) C dX3_eligible_36 (by decide) ?_
  refine x_iload (i := 4) C dX3_eligible_37 rfl ?_
  refine x_ishl C dX3_eligible_39 ?_
  refine x_ior C dX3_eligible_40 ?_
  refine x_istore_n (i := 3) C dX3_eligible_41 rfl (by decide) ?_
  refine x_iinc (v := nI (d + 1)) C dX3_eligible_42 rfl (inc1 d) ?_
  refine x_goto C 11 dX3_eligible_45 (by decide) ?_
  first | (have e9 : elI V (19 + c9.toNatClampNeg) (d + 1) = elI V (19 + c9.toNatClampNeg) d := if_neg (b2i_z c_32); rw [e9] at ihd; exact x_subm ihd rfl) | (have e9 : elI V (19 + c9.toNatClampNeg) (d + 1) = elI V (19 + c9.toNatClampNeg) d ||| (1 <<< (nI d &&& 31)) := if_pos (b2i_n0 c_32); rw [e9] at ihd; exact x_subm ihd rfl)
