/-! ===== BEGIN small: what the small methods of the class answer and do, and their contracts ===== -/
def b2i (b : Bool) : Int32 := match b with
  | true => 1
  | false => 0
theorem b2i_0 (b : Bool) : (b2i b = 0) ↔ (b = false) := by cases b <;> decide
theorem b2i_1 (b : Bool) : (b2i b = 1) ↔ (b = true) := by cases b <;> decide
def hasB (s m : Int32) : Bool := decide ((s >>> (m &&& 31)) &&& 1 = 1)
def inWinB (V : XV) (p : Nat) (h : Int32) : Bool := if V p 5 < V p 4 then (decide (V p 4 ≤ h) || !decide (V p 5 < h)) else (!decide (h < V p 4) && !decide (V p 5 < h))
def canLoadB (V : XV) (p : Nat) (h : Int32) : Bool := decide (V p 6 = 1) && (inWinB V p h && !decide (V p 3 < 20))
def takeV (V : XV) (p q : Nat) (z : Int32) : XV := xs (xs (xs V p 6 1) p 7 (xs V p 6 1 q 0)) p 8 z
def loadV0 (V : XV) (p : Nat) : XV := xs (xs V p 8 (if 0 < V p 8 - 100 then V p 8 - 100 else 0)) p 3 (xs V p 8 (if 0 < V p 8 - 100 then V p 8 - 100 else 0) p 3 - 1)
def loadV (V : XV) (p : Nat) : XV := if loadV0 V p p 8 = 0 then xs (loadV0 V p) p 6 2 else loadV0 V p
def drawI (V : XV) (q p : Nat) : Int32 := (V p 0 * 37 + V q 0 * 11 + 13) - (V p 0 * 37 + V q 0 * 11 + 13) / 100 * 100
def shareI (V : XV) (q : Nat) : Int32 := if V q 9 = 0 then V q 4 else if V q 9 = 1 then V q 5 else 100
def isForB (V : XV) (q p : Nat) : Bool := !decide (V q 8 = 0) && (hasB (V q 2) (V p 1) && (hasB (V q 3) (V p 2) && (!decide (V p 2 = V q 1) && (!decide (shareI V q ≤ drawI V q p) && !hasB (V q 12) (V p 0)))))
def countV0 (V : XV) (q p : Nat) : XV := xs (xs V q 12 (V q 12 ||| (1 <<< (V p 0 &&& 31)))) q 10 (xs V q 12 (V q 12 ||| (1 <<< (V p 0 &&& 31))) q 10 + 1)
def countV (V : XV) (q p : Nat) (well : Int32) : XV := if well = 0 then xs (countV0 V q p) q 11 (countV0 V q p q 11 + 1) else countV0 V q p
def ringV (V : XV) (q : Nat) (r : Int32) : XV := xs (xs (xs V q 9 r) q 10 0) q 11 0
def judgeV (V : XV) (q : Nat) : XV := if V q 8 = 0 then V else if V q 6 ≤ V q 10 then (if V q 11 * 1000 ≤ V q 10 * V q 7 then (if V q 9 = 2 then V else ringV V q (V q 9 + 1)) else xs V q 8 0) else V
def nVx (v : Int32) : Option String := if v < 0 then some xIO else if v < 8 then none else some xIO
def nRx (v lo hi : Int32) : Option String := if v < lo then some xIA else if v ≤ hi then none else some xIA
def nBx (v : Int32) : Option String := if v = -1 then none else nRx v 1 100000
def nCx (V : XV) (v : Int32) : Option String := if v < 0 then some xIO else if v < V 0 5 then none else some xIO
def nDx (V : XV) (v : Int32) : Option String := if v < 0 then some xIO else if v < V 0 4 then none else some xIO
def orFarI (v : Int32) : Int32 := if v = -1 then 1000000 else v
def orNoneI (v : Int32) : Int32 := if v < 1000000 then v else -1
def minI (x y : Int32) : Int32 := if y < x then y else x
def lbI (V : XV) (f t : Int32) : Int32 := if f = t then 0 else orNoneI (minI (V (33 + f.toNatClampNeg) t.toNatClampNeg) (V 8 t.toNatClampNeg))
theorem vp_lt {v n : Int32} {N : Nat} (h0 : ¬ v < 0) (h : v < n) (hn : n.toInt ≤ N) : vp_in v N := by
  rw [vp_in_iff]
  have h1 := Int32.lt_iff_toInt_lt.mp h
  have h2 : ¬ v.toInt < 0 := fun z => h0 (Int32.lt_iff_toInt_lt.mpr z)
  omega
theorem nVx_in {v : Int32} (h : nVx v = none) : vp_in v 8 := by
  unfold nVx at h
  by_cases h0 : v < 0
  · rw [if_pos h0] at h; cases h
  · rw [if_neg h0] at h
    by_cases h8 : v < 8
    · exact vp_lt h0 h8 (by decide)
    · rw [if_neg h8] at h; cases h
theorem nDx_in {V : XV} {v : Int32} {N : Nat} (h : nDx V v = none) (hn : (V 0 4).toInt ≤ N) : vp_in v N := by
  unfold nDx at h
  by_cases h0 : v < 0
  · rw [if_pos h0] at h; cases h
  · rw [if_neg h0] at h
    by_cases h8 : v < V 0 4
    · exact vp_lt h0 h8 hn
    · rw [if_neg h8] at h; cases h
theorem nCx_in {V : XV} {v : Int32} {N : Nat} (h : nCx V v = none) (hn : (V 0 5).toInt ≤ N) : vp_in v N := by
  unfold nCx at h
  by_cases h0 : v < 0
  · rw [if_pos h0] at h; cases h
  · rw [if_neg h0] at h
    by_cases h8 : v < V 0 5
    · exact vp_lt h0 h8 hn
    · rw [if_neg h8] at h; cases h
theorem vp_at {v : Int32} {n : Nat} (h : vp_in v n) : v.toNatClampNeg < n := Nat.not_le.mp fun q => h (Or.inr q)
def rmX3_has : Room := { frames := 0, cells := 0, slots := 0, locals := 0 }
set_option maxHeartbeats 4000000 in
set_option maxRecDepth 100000 in
theorem k_X3_has (l : Launch) (D : va_G) (tys : List (ClassId × FieldType)) (A : Nat → Prop) (ws : va_W) (x y : Int32) : Met l yX3_has wsX3_has rmX3_has (va_Pc [.int x, .int y] (xPre D tys A ws)) (va_Qi (fun (r : Int32) (_ : Unit) => r = b2i (hasB x y)) (fun _ t => xPost D tys A ws t) A) 0 0 A := by
  refine x_met (own := RX3) (by decide) rfl rfl (Nat.le_of_ble_eq_true rfl) rfl ?_
  intro p e s m below meth c hnm C hE
  refine x_iload_n (i := 0) C dX3_has_0 rfl rfl ?_
  refine x_iload_n (i := 1) C dX3_has_1 rfl rfl ?_
  refine x_ishr C dX3_has_2 ?_
  refine x_iconst (v := 1) C dX3_has_3 (by decide) ?_
  refine x_iand C dX3_has_4 ?_
  refine x_iconst (v := 1) C dX3_has_5 (by decide) ?_
  refine x_icmp_ne C 13 dX3_has_6 (by decide) (fun c_6 => ?_) (fun c_6 => ?_)
  · refine x_iconst (v := 0) C dX3_has_13 (by decide) ?_
    exact x_zret (u := ()) C dX3_has_14 ⟨Nat.le_of_ble_eq_true rfl, Nat.le_of_ble_eq_true rfl⟩ rfl (by simp [hasB, b2i, c_6])
  refine x_iconst (v := 1) C dX3_has_9 (by decide) ?_
  refine x_goto C 14 dX3_has_10 (by decide) ?_
  exact x_zret (u := ()) C dX3_has_14 ⟨Nat.le_of_ble_eq_true rfl, Nat.le_of_ble_eq_true rfl⟩ rfl (by simp [hasB, b2i, c_6])
def rmX2_orFar : Room := { frames := 0, cells := 0, slots := 0, locals := 0 }
set_option maxHeartbeats 4000000 in
set_option maxRecDepth 100000 in
theorem k_X2_orFar (l : Launch) (D : va_G) (tys : List (ClassId × FieldType)) (A : Nat → Prop) (ws : va_W) (x : Int32) : Met l yX2_orFar wsX2_orFar rmX2_orFar (va_Pc [.int x] (xPre D tys A ws)) (va_Qi (fun (r : Int32) (_ : Unit) => r = orFarI x) (fun _ t => xPost D tys A ws t) A) 0 0 A := by
  refine x_met (own := RX2) (by decide) rfl rfl (Nat.le_of_ble_eq_true rfl) rfl ?_
  intro p e s m below meth c hnm C hE
  refine x_iload_n (i := 0) C dX2_orFar_0 rfl rfl ?_
  refine x_iconst (v := (-1)) C dX2_orFar_1 (by decide) ?_
  refine x_icmp_ne C 10 dX2_orFar_2 (by decide) (fun c_2 => ?_) (fun c_2 => ?_)
  · refine x_iload_n (i := 0) C dX2_orFar_10 rfl rfl ?_
    exact x_iret (u := ()) C dX2_orFar_11 ⟨Nat.le_of_ble_eq_true rfl, Nat.le_of_ble_eq_true rfl⟩ (by simp [orFarI, c_2])
  refine x_ldc (v := 1000000) C (by decide +kernel) dX2_orFar_5 ?_
  refine x_goto C 11 dX2_orFar_7 (by decide) ?_
  exact x_iret (u := ()) C dX2_orFar_11 ⟨Nat.le_of_ble_eq_true rfl, Nat.le_of_ble_eq_true rfl⟩ (by simp [orFarI, c_2])
def rmX2_orNone : Room := { frames := 0, cells := 0, slots := 0, locals := 0 }
set_option maxHeartbeats 4000000 in
set_option maxRecDepth 100000 in
theorem k_X2_orNone (l : Launch) (D : va_G) (tys : List (ClassId × FieldType)) (A : Nat → Prop) (ws : va_W) (x : Int32) : Met l yX2_orNone wsX2_orNone rmX2_orNone (va_Pc [.int x] (xPre D tys A ws)) (va_Qi (fun (r : Int32) (_ : Unit) => r = orNoneI x) (fun _ t => xPost D tys A ws t) A) 0 0 A := by
  refine x_met (own := RX2) (by decide) rfl rfl (Nat.le_of_ble_eq_true rfl) rfl ?_
  intro p e s m below meth c hnm C hE
  refine x_iload_n (i := 0) C dX2_orNone_0 rfl rfl ?_
  refine x_ldc (v := 1000000) C (by decide +kernel) dX2_orNone_1 ?_
  refine x_icmp_lt C 10 dX2_orNone_3 (by decide) (fun c_3 => ?_) (fun c_3 => ?_)
  · refine x_iload_n (i := 0) C dX2_orNone_10 rfl rfl ?_
    exact x_iret (u := ()) C dX2_orNone_11 ⟨Nat.le_of_ble_eq_true rfl, Nat.le_of_ble_eq_true rfl⟩ (by simp [orNoneI, c_3])
  refine x_iconst (v := (-1)) C dX2_orNone_6 (by decide) ?_
  refine x_goto C 11 dX2_orNone_7 (by decide) ?_
  exact x_iret (u := ()) C dX2_orNone_11 ⟨Nat.le_of_ble_eq_true rfl, Nat.le_of_ble_eq_true rfl⟩ (by simp [orNoneI, c_3])
def rmX3_needVersion : Room := { frames := 6, cells := 1, slots := 6, locals := 92 }
set_option maxHeartbeats 4000000 in
set_option maxRecDepth 100000 in
theorem k_X3_needVersion (l : Launch) (hfl : l.stackTraces = false) (D : va_G) (tys : List (ClassId × FieldType)) (A : Nat → Prop) (ws : va_W) (x : Int32) : vx_Met l yX3_needVersion wsX3_needVersion rmX3_needVersion (va_Pc [.int x] (xPre D tys A ws)) (va_Qv (fun (_ : Unit) => nVx x = none) (fun _ t => xPost D tys A ws t) A) (xX D tys A ws (nVx x)) 1 6 A := by
  refine x_metX (own := RX3) (by decide) rfl rfl (Nat.le_of_ble_eq_true rfl) rfl ?_
  intro p e s m below meth c hout C hE
  refine x_iload_n (i := 0) C dX3_needVersion_0 rfl rfl ?_
  refine x_if_lt C 10 dX3_needVersion_1 (by decide) (fun c_1 => ?_) (fun c_1 => ?_)
  · exact x_throw (cls := xIO) (text := "no such version") hout hfl C hE rfl (by decide +kernel) (by decide +kernel) (by decide) (by decide +kernel) (by decide +kernel) (by decide +kernel) dX3_needVersion_10 dX3_needVersion_13 dX3_needVersion_14 dX3_needVersion_16 dX3_needVersion_19 ⟨Nat.le_of_ble_eq_true rfl, Nat.le_of_ble_eq_true rfl, Nat.le_of_ble_eq_true rfl, Nat.le_of_ble_eq_true rfl⟩ ⟨Nat.le_of_ble_eq_true rfl, Nat.le_of_ble_eq_true rfl⟩ (by simp [nVx, c_1])
  refine x_iload_n (i := 0) C dX3_needVersion_4 rfl rfl ?_
  refine x_bipush (v := 8) C dX3_needVersion_5 (by decide) ?_
  refine x_icmp_lt C 20 dX3_needVersion_7 (by decide) (fun c_7 => ?_) (fun c_7 => ?_)
  · exact x_vretX (u := ()) C dX3_needVersion_20 ⟨Nat.le_of_ble_eq_true rfl, Nat.le_of_ble_eq_true rfl⟩ (by simp [nVx, c_1, c_7])
  exact x_throw (cls := xIO) (text := "no such version") hout hfl C hE rfl (by decide +kernel) (by decide +kernel) (by decide) (by decide +kernel) (by decide +kernel) (by decide +kernel) dX3_needVersion_10 dX3_needVersion_13 dX3_needVersion_14 dX3_needVersion_16 dX3_needVersion_19 ⟨Nat.le_of_ble_eq_true rfl, Nat.le_of_ble_eq_true rfl, Nat.le_of_ble_eq_true rfl, Nat.le_of_ble_eq_true rfl⟩ ⟨Nat.le_of_ble_eq_true rfl, Nat.le_of_ble_eq_true rfl⟩ (by simp [nVx, c_1, c_7])
def rmX3_needRange : Room := { frames := 6, cells := 1, slots := 6, locals := 92 }
set_option maxHeartbeats 4000000 in
set_option maxRecDepth 100000 in
theorem k_X3_needRange (l : Launch) (hfl : l.stackTraces = false) (D : va_G) (tys : List (ClassId × FieldType)) (A : Nat → Prop) (ws : va_W) (x lo hi : Int32) : vx_Met l yX3_needRange wsX3_needRange rmX3_needRange (va_Pc [.int x, .int lo, .int hi] (xPre D tys A ws)) (va_Qv (fun (_ : Unit) => nRx x lo hi = none) (fun _ t => xPost D tys A ws t) A) (xX D tys A ws (nRx x lo hi)) 1 6 A := by
  refine x_metX (own := RX3) (by decide) rfl rfl (Nat.le_of_ble_eq_true rfl) rfl ?_
  intro p e s m below meth c hout C hE
  refine x_iload_n (i := 0) C dX3_needRange_0 rfl rfl ?_
  refine x_iload_n (i := 1) C dX3_needRange_1 rfl rfl ?_
  refine x_icmp_lt C 10 dX3_needRange_2 (by decide) (fun c_2 => ?_) (fun c_2 => ?_)
  · exact x_throw (cls := xIA) (text := "a value is out of range") hout hfl C hE rfl (by decide +kernel) (by decide +kernel) (by decide) (by decide +kernel) (by decide +kernel) (by decide +kernel) dX3_needRange_10 dX3_needRange_13 dX3_needRange_14 dX3_needRange_16 dX3_needRange_19 ⟨Nat.le_of_ble_eq_true rfl, Nat.le_of_ble_eq_true rfl, Nat.le_of_ble_eq_true rfl, Nat.le_of_ble_eq_true rfl⟩ ⟨Nat.le_of_ble_eq_true rfl, Nat.le_of_ble_eq_true rfl⟩ (by simp [nRx, c_2])
  refine x_iload_n (i := 0) C dX3_needRange_5 rfl rfl ?_
  refine x_iload_n (i := 2) C dX3_needRange_6 rfl rfl ?_
  refine x_icmp_le C 20 dX3_needRange_7 (by decide) (fun c_7 => ?_) (fun c_7 => ?_)
  · exact x_vretX (u := ()) C dX3_needRange_20 ⟨Nat.le_of_ble_eq_true rfl, Nat.le_of_ble_eq_true rfl⟩ (by simp [nRx, c_2, c_7])
  exact x_throw (cls := xIA) (text := "a value is out of range") hout hfl C hE rfl (by decide +kernel) (by decide +kernel) (by decide) (by decide +kernel) (by decide +kernel) (by decide +kernel) dX3_needRange_10 dX3_needRange_13 dX3_needRange_14 dX3_needRange_16 dX3_needRange_19 ⟨Nat.le_of_ble_eq_true rfl, Nat.le_of_ble_eq_true rfl, Nat.le_of_ble_eq_true rfl, Nat.le_of_ble_eq_true rfl⟩ ⟨Nat.le_of_ble_eq_true rfl, Nat.le_of_ble_eq_true rfl⟩ (by simp [nRx, c_2, c_7])
def rmX3_needBytesOrNone : Room := { frames := 7, cells := 1, slots := 6, locals := 114 }
set_option maxHeartbeats 4000000 in
set_option maxRecDepth 100000 in
theorem k_X3_needBytesOrNone (l : Launch) (hfl : l.stackTraces = false) (D : va_G) (tys : List (ClassId × FieldType)) (A : Nat → Prop) (ws : va_W) (x : Int32) : vx_Met l yX3_needBytesOrNone wsX3_needBytesOrNone rmX3_needBytesOrNone (va_Pc [.int x] (xPre D tys A ws)) (va_Qv (fun (_ : Unit) => nBx x = none) (fun _ t => xPost D tys A ws t) A) (xX D tys A ws (nBx x)) 1 6 A := by
  refine x_metX (own := RX3) (by decide) rfl rfl (Nat.le_of_ble_eq_true rfl) rfl ?_
  intro p e s m below meth c hout C hE
  refine x_iload_n (i := 0) C dX3_needBytesOrNone_0 rfl rfl ?_
  refine x_iconst (v := (-1)) C dX3_needBytesOrNone_1 (by decide) ?_
  refine x_icmp_eq C 12 dX3_needBytesOrNone_2 (by decide) (fun c_2 => ?_) (fun c_2 => ?_)
  · exact x_vretX (u := ()) C dX3_needBytesOrNone_12 ⟨Nat.le_of_ble_eq_true rfl, Nat.le_of_ble_eq_true rfl⟩ (by simp_all [nBx])
  refine x_iload_n (i := 0) C dX3_needBytesOrNone_5 rfl rfl ?_
  refine x_iconst (v := 1) C dX3_needBytesOrNone_6 (by decide) ?_
  refine x_ldc (v := 100000) C (by decide +kernel) dX3_needBytesOrNone_7 ?_
  refine x_callSvX hout C hE (k_X3_needRange l hfl D _ A _ _ _ _) (va_cwS 3 C.2.2.2.2.1 gX3_needBytesOrNone_X3_needRange rfl rfl rfl (by decide +kernel) ⟨Nat.le_of_ble_eq_true rfl, Nat.le_of_ble_eq_true rfl⟩)  rfl rfl (Nat.le_of_ble_eq_true rfl) dX3_needBytesOrNone_9 ⟨Nat.le_of_ble_eq_true rfl, Nat.le_of_ble_eq_true rfl⟩ ⟨Nat.le_of_ble_eq_true rfl, Nat.le_of_ble_eq_true rfl⟩ (fun E h9 => by simp [nBx, c_2, h9]) (fun u_9 h_9 => ?_)
  cases u_9
  exact x_vretX (u := ()) C dX3_needBytesOrNone_12 ⟨Nat.le_of_ble_eq_true rfl, Nat.le_of_ble_eq_true rfl⟩ (by simp_all [nBx])
theorem hinX1_isInWindow_X1 : ∀ w ∈ wsX10, w ∈ wsX1_isInWindow := by decide +kernel
def rmX1_isInWindow : Room := { frames := 0, cells := 0, slots := 0, locals := 0 }
set_option maxHeartbeats 4000000 in
set_option maxRecDepth 100000 in
theorem k_X1_isInWindow (l : Launch) (D : va_G) (cy : Nat → ClassId) (a : Nat → Nat) (A : Nat → Prop) (X : va_W) (V : XV) {p0 : Nat} (h : Int32) (hp : 9 ≤ p0 ∧ p0 < 19) : Met l yX1_isInWindow wsX1_isInWindow rmX1_isInWindow (va_Pc [.ref (a p0), .int h] (xPre D (tyC cy) A (cW cy a X V))) (va_Qi (fun (r : Int32) (u : XV) => r = b2i (inWinB V p0 h) ∧ u = V) (fun u t => xPost D (tyC cy) A (cW cy a X u) t) A) 0 0 A := by
  refine x_met (own := RX1) (by decide) rfl rfl (Nat.le_of_ble_eq_true rfl) rfl ?_
  intro p e s m below meth c hnm C hE
  refine x_aload_n (i := 0) C dX1_isInWindow_0 rfl rfl ?_
  refine x_getD C 4 (by omega) (by decide) hinX1_isInWindow_X1 (by decide +kernel) dX1_isInWindow_1 ?_
  refine x_aload_n (i := 0) C dX1_isInWindow_4 rfl rfl ?_
  refine x_getD C 5 (by omega) (by decide) hinX1_isInWindow_X1 (by decide +kernel) dX1_isInWindow_5 ?_
  refine x_icmp_gt C 33 dX1_isInWindow_8 (by decide) (fun c_8 => ?_) (fun c_8 => ?_)
  · refine x_aload_n (i := 0) C dX1_isInWindow_33 rfl rfl ?_
    refine x_getD C 4 (by omega) (by decide) hinX1_isInWindow_X1 (by decide +kernel) dX1_isInWindow_34 ?_
    refine x_iload_n (i := 1) C dX1_isInWindow_37 rfl rfl ?_
    refine x_icmp_le C 49 dX1_isInWindow_38 (by decide) (fun c_38 => ?_) (fun c_38 => ?_)
    · refine x_iconst (v := 1) C dX1_isInWindow_49 (by decide) ?_
      refine x_goto C 54 dX1_isInWindow_50 (by decide) ?_
      exact x_zret  C dX1_isInWindow_54 ⟨Nat.le_of_ble_eq_true rfl, Nat.le_of_ble_eq_true rfl⟩ rfl ⟨by simp [inWinB, b2i, c_8, c_38], rfl⟩
    refine x_iload_n (i := 1) C dX1_isInWindow_41 rfl rfl ?_
    refine x_aload_n (i := 0) C dX1_isInWindow_42 rfl rfl ?_
    refine x_getD C 5 (by omega) (by decide) hinX1_isInWindow_X1 (by decide +kernel) dX1_isInWindow_43 ?_
    refine x_icmp_gt C 53 dX1_isInWindow_46 (by decide) (fun c_46 => ?_) (fun c_46 => ?_)
    · refine x_iconst (v := 0) C dX1_isInWindow_53 (by decide) ?_
      exact x_zret  C dX1_isInWindow_54 ⟨Nat.le_of_ble_eq_true rfl, Nat.le_of_ble_eq_true rfl⟩ rfl ⟨by simp [inWinB, b2i, c_8, c_38, c_46], rfl⟩
    refine x_iconst (v := 1) C dX1_isInWindow_49 (by decide) ?_
    refine x_goto C 54 dX1_isInWindow_50 (by decide) ?_
    exact x_zret  C dX1_isInWindow_54 ⟨Nat.le_of_ble_eq_true rfl, Nat.le_of_ble_eq_true rfl⟩ rfl ⟨by simp [inWinB, b2i, c_8, c_38, c_46], rfl⟩
  refine x_aload_n (i := 0) C dX1_isInWindow_11 rfl rfl ?_
  refine x_getD C 4 (by omega) (by decide) hinX1_isInWindow_X1 (by decide +kernel) dX1_isInWindow_12 ?_
  refine x_iload_n (i := 1) C dX1_isInWindow_15 rfl rfl ?_
  refine x_icmp_gt C 31 dX1_isInWindow_16 (by decide) (fun c_16 => ?_) (fun c_16 => ?_)
  · refine x_iconst (v := 0) C dX1_isInWindow_31 (by decide) ?_
    exact x_zret  C dX1_isInWindow_32 ⟨Nat.le_of_ble_eq_true rfl, Nat.le_of_ble_eq_true rfl⟩ rfl ⟨by simp [inWinB, b2i, c_8, c_16], rfl⟩
  refine x_iload_n (i := 1) C dX1_isInWindow_19 rfl rfl ?_
  refine x_aload_n (i := 0) C dX1_isInWindow_20 rfl rfl ?_
  refine x_getD C 5 (by omega) (by decide) hinX1_isInWindow_X1 (by decide +kernel) dX1_isInWindow_21 ?_
  refine x_icmp_gt C 31 dX1_isInWindow_24 (by decide) (fun c_24 => ?_) (fun c_24 => ?_)
  · refine x_iconst (v := 0) C dX1_isInWindow_31 (by decide) ?_
    exact x_zret  C dX1_isInWindow_32 ⟨Nat.le_of_ble_eq_true rfl, Nat.le_of_ble_eq_true rfl⟩ rfl ⟨by simp [inWinB, b2i, c_8, c_16, c_24], rfl⟩
  refine x_iconst (v := 1) C dX1_isInWindow_27 (by decide) ?_
  refine x_goto C 32 dX1_isInWindow_28 (by decide) ?_
  exact x_zret  C dX1_isInWindow_32 ⟨Nat.le_of_ble_eq_true rfl, Nat.le_of_ble_eq_true rfl⟩ rfl ⟨by simp [inWinB, b2i, c_8, c_16, c_24], rfl⟩
theorem hinX1_canLoad_X1 : ∀ w ∈ wsX10, w ∈ wsX1_canLoad := by decide +kernel
def rmX1_canLoad : Room := { frames := 1, cells := 0, slots := 0, locals := 21 }
set_option maxHeartbeats 4000000 in
set_option maxRecDepth 100000 in
theorem k_X1_canLoad (l : Launch) (D : va_G) (cy : Nat → ClassId) (a : Nat → Nat) (A : Nat → Prop) (X : va_W) (V : XV) {p0 : Nat} (h : Int32) (hp : 9 ≤ p0 ∧ p0 < 19) : Met l yX1_canLoad wsX1_canLoad rmX1_canLoad (va_Pc [.ref (a p0), .int h] (xPre D (tyC cy) A (cW cy a X V))) (va_Qi (fun (r : Int32) (u : XV) => r = b2i (canLoadB V p0 h) ∧ u = V) (fun u t => xPost D (tyC cy) A (cW cy a X u) t) A) 0 0 A := by
  refine x_met (own := RX1) (by decide) rfl rfl (Nat.le_of_ble_eq_true rfl) rfl ?_
  intro p e s m below meth c hnm C hE
  refine x_aload_n (i := 0) C dX1_canLoad_0 rfl rfl ?_
  refine x_getD C 6 (by omega) (by decide) hinX1_canLoad_X1 (by decide +kernel) dX1_canLoad_1 ?_
  refine x_iconst (v := 1) C dX1_canLoad_4 (by decide) ?_
  refine x_icmp_ne C 29 dX1_canLoad_5 (by decide) (fun c_5 => ?_) (fun c_5 => ?_)
  · refine x_iconst (v := 0) C dX1_canLoad_29 (by decide) ?_
    exact x_zret  C dX1_canLoad_30 ⟨Nat.le_of_ble_eq_true rfl, Nat.le_of_ble_eq_true rfl⟩ rfl ⟨by simp [canLoadB, b2i, b2i_0, c_5] <;> simp_all [b2i_0], rfl⟩
  refine x_aload_n (i := 0) C dX1_canLoad_8 rfl rfl ?_
  refine x_iload_n (i := 1) C dX1_canLoad_9 rfl rfl ?_
  refine x_callVi C hE (k_X1_isInWindow l D cy a A X _ _ (by omega)) (cwV 1 C.2.2.2.2.1 gX1_canLoad_X1_isInWindow rfl rfl rfl (by decide +kernel) ⟨Nat.le_of_ble_eq_true rfl, Nat.le_of_ble_eq_true rfl⟩) _ (cW_D cy a X _ (by omega)) rfl rfl rfl rfl (Nat.le_of_ble_eq_true rfl) dX1_canLoad_10 ⟨Nat.le_of_ble_eq_true rfl, Nat.le_of_ble_eq_true rfl⟩ (fun r_10 u_10 h_10 => ?_)
  obtain ⟨e8_10, e9_10⟩ := h_10
  rw [e8_10, e9_10]
  refine x_if_eq C 29 dX1_canLoad_13 (by decide) (fun c_13 => ?_) (fun c_13 => ?_)
  · refine x_iconst (v := 0) C dX1_canLoad_29 (by decide) ?_
    exact x_zret  C dX1_canLoad_30 ⟨Nat.le_of_ble_eq_true rfl, Nat.le_of_ble_eq_true rfl⟩ rfl ⟨by simp [canLoadB, b2i, b2i_0, c_5, c_13] <;> simp_all [b2i_0], rfl⟩
  refine x_aload_n (i := 0) C dX1_canLoad_16 rfl rfl ?_
  refine x_getD C 3 (by omega) (by decide) hinX1_canLoad_X1 (by decide +kernel) dX1_canLoad_17 ?_
  refine x_bipush (v := 20) C dX1_canLoad_20 (by decide) ?_
  refine x_icmp_lt C 29 dX1_canLoad_22 (by decide) (fun c_22 => ?_) (fun c_22 => ?_)
  · refine x_iconst (v := 0) C dX1_canLoad_29 (by decide) ?_
    exact x_zret  C dX1_canLoad_30 ⟨Nat.le_of_ble_eq_true rfl, Nat.le_of_ble_eq_true rfl⟩ rfl ⟨by simp [canLoadB, b2i, b2i_0, c_5, c_13, c_22] <;> simp_all [b2i_0], rfl⟩
  refine x_iconst (v := 1) C dX1_canLoad_25 (by decide) ?_
  refine x_goto C 30 dX1_canLoad_26 (by decide) ?_
  exact x_zret  C dX1_canLoad_30 ⟨Nat.le_of_ble_eq_true rfl, Nat.le_of_ble_eq_true rfl⟩ rfl ⟨by simp [canLoadB, b2i, b2i_0, c_5, c_13, c_22] <;> simp_all [b2i_0], rfl⟩
theorem hinX1_take_X0 : ∀ w ∈ wsX00, w ∈ wsX1_take := by decide +kernel
theorem hinX1_take_X1 : ∀ w ∈ wsX10, w ∈ wsX1_take := by decide +kernel
def rmX1_take : Room := { frames := 0, cells := 0, slots := 0, locals := 0 }
set_option maxHeartbeats 4000000 in
set_option maxRecDepth 100000 in
theorem k_X1_take (l : Launch) (D : va_G) (cy : Nat → ClassId) (a : Nat → Nat) (A : Nat → Prop) (X : va_W) (V : XV) {p0 q0 : Nat} (z : Int32) (hp : 9 ≤ p0 ∧ p0 < 19) (hq : 19 ≤ q0 ∧ q0 < 25) : Met l yX1_take wsX1_take rmX1_take (va_Pc [.ref (a p0), .ref (a q0), .int z] (xPre D (tyC cy) A (cW cy a X V))) (va_Qv (fun (u : XV) => u = takeV V p0 q0 z) (fun u t => xPost D (tyC cy) A (cW cy a X u) t) A) 0 0 A := by
  refine x_met (own := RX1) (by decide) rfl rfl (Nat.le_of_ble_eq_true rfl) rfl ?_
  intro p e s m below meth c hnm C hE
  refine x_aload_n (i := 0) C dX1_take_0 rfl rfl ?_
  refine x_iconst (v := 1) C dX1_take_1 (by decide) ?_
  refine x_putD C 6 (by omega) (by decide) (by decide) hinX1_take_X1 (by decide +kernel) dX1_take_2 ?_
  refine x_aload_n (i := 0) C dX1_take_5 rfl rfl ?_
  refine x_aload_n (i := 1) C dX1_take_6 rfl rfl ?_
  refine x_getK C 0 (by omega) (by decide) hinX1_take_X0 (by decide +kernel) dX1_take_7 ?_
  refine x_putD C 7 (by omega) (by decide) (by decide) hinX1_take_X1 (by decide +kernel) dX1_take_10 ?_
  refine x_aload_n (i := 0) C dX1_take_13 rfl rfl ?_
  refine x_iload_n (i := 2) C dX1_take_14 rfl rfl ?_
  refine x_putD C 8 (by omega) (by decide) (by decide) hinX1_take_X1 (by decide +kernel) dX1_take_15 ?_
  exact x_vret  C dX1_take_18 ⟨Nat.le_of_ble_eq_true rfl, Nat.le_of_ble_eq_true rfl⟩ rfl
theorem hinX1_load_X1 : ∀ w ∈ wsX10, w ∈ wsX1_load := by decide +kernel
def rmX1_load : Room := { frames := 1, cells := 0, slots := 0, locals := 24 }
set_option maxHeartbeats 4000000 in
set_option maxRecDepth 100000 in
theorem k_X1_load (l : Launch) (D : va_G) (cy : Nat → ClassId) (a : Nat → Nat) (A : Nat → Prop) (X : va_W) (V : XV) {p0 : Nat} (hp : 9 ≤ p0 ∧ p0 < 19) : Met l yX1_load wsX1_load rmX1_load (va_Pc [.ref (a p0)] (xPre D (tyC cy) A (cW cy a X V))) (va_Qv (fun (u : XV) => u = loadV V p0) (fun u t => xPost D (tyC cy) A (cW cy a X u) t) A) 0 0 A := by
  refine x_met (own := RX1) (by decide) rfl rfl (Nat.le_of_ble_eq_true rfl) rfl ?_
  intro p e s m below meth c hnm C hE
  refine x_aload_n (i := 0) C dX1_load_0 rfl rfl ?_
  refine x_iconst (v := 0) C dX1_load_1 (by decide) ?_
  refine x_aload_n (i := 0) C dX1_load_2 rfl rfl ?_
  refine x_getD C 8 (by omega) (by decide) hinX1_load_X1 (by decide +kernel) dX1_load_3 ?_
  refine x_bipush (v := 100) C dX1_load_6 (by decide) ?_
  refine x_isub C dX1_load_8 ?_
  refine x_max C (by decide +kernel) (by decide +kernel) (by decide +kernel) (by decide +kernel) ⟨Nat.le_of_ble_eq_true rfl, Nat.le_of_ble_eq_true rfl, Nat.le_of_ble_eq_true rfl, Nat.le_of_ble_eq_true rfl⟩ dX1_load_9 rfl ?_
  refine x_putD C 8 (by omega) (by decide) (by decide) hinX1_load_X1 (by decide +kernel) dX1_load_12 ?_
  refine x_aload_n (i := 0) C dX1_load_15 rfl rfl ?_
  refine x_dup C dX1_load_16 rfl ?_
  refine x_getD C 3 (by omega) (by decide) hinX1_load_X1 (by decide +kernel) dX1_load_17 ?_
  refine x_iconst (v := 1) C dX1_load_20 (by decide) ?_
  refine x_isub C dX1_load_21 ?_
  refine x_putD C 3 (by omega) (by decide) (by decide) hinX1_load_X1 (by decide +kernel) dX1_load_22 ?_
  refine x_aload_n (i := 0) C dX1_load_25 rfl rfl ?_
  refine x_getD C 8 (by omega) (by decide) hinX1_load_X1 (by decide +kernel) dX1_load_26 ?_
  refine x_if_ne C 37 dX1_load_29 (by decide) (fun c_29 => ?_) (fun c_29 => ?_)
  · exact x_vret  C dX1_load_37 ⟨Nat.le_of_ble_eq_true rfl, Nat.le_of_ble_eq_true rfl⟩ (by unfold loadV; first | exact (if_pos c_29).symm | exact (if_neg c_29).symm)
  refine x_aload_n (i := 0) C dX1_load_32 rfl rfl ?_
  refine x_iconst (v := 2) C dX1_load_33 (by decide) ?_
  refine x_putD C 6 (by omega) (by decide) (by decide) hinX1_load_X1 (by decide +kernel) dX1_load_34 ?_
  exact x_vret  C dX1_load_37 ⟨Nat.le_of_ble_eq_true rfl, Nat.le_of_ble_eq_true rfl⟩ (by unfold loadV; first | exact (if_pos c_29).symm | exact (if_neg c_29).symm)
theorem hinX0_drawOf_X0 : ∀ w ∈ wsX00, w ∈ wsX0_drawOf := by decide +kernel
theorem hinX0_drawOf_X1 : ∀ w ∈ wsX10, w ∈ wsX0_drawOf := by decide +kernel
def rmX0_drawOf : Room := { frames := 0, cells := 0, slots := 0, locals := 0 }
set_option maxHeartbeats 4000000 in
set_option maxRecDepth 100000 in
theorem k_X0_drawOf (l : Launch) (D : va_G) (cy : Nat → ClassId) (a : Nat → Nat) (A : Nat → Prop) (X : va_W) (V : XV) {q0 p0 : Nat} (hq : 19 ≤ q0 ∧ q0 < 25) (hp : 9 ≤ p0 ∧ p0 < 19) : Met l yX0_drawOf wsX0_drawOf rmX0_drawOf (va_Pc [.ref (a q0), .ref (a p0)] (xPre D (tyC cy) A (cW cy a X V))) (va_Qi (fun (r : Int32) (u : XV) => r = drawI V q0 p0 ∧ u = V) (fun u t => xPost D (tyC cy) A (cW cy a X u) t) A) 0 0 A := by
  refine x_met (own := RX0) (by decide) rfl rfl (Nat.le_of_ble_eq_true rfl) rfl ?_
  intro p e s m below meth c hnm C hE
  refine x_aload_n (i := 1) C dX0_drawOf_0 rfl rfl ?_
  refine x_getD C 0 (by omega) (by decide) hinX0_drawOf_X1 (by decide +kernel) dX0_drawOf_1 ?_
  refine x_bipush (v := 37) C dX0_drawOf_4 (by decide) ?_
  refine x_imul C dX0_drawOf_6 ?_
  refine x_aload_n (i := 0) C dX0_drawOf_7 rfl rfl ?_
  refine x_getK C 0 (by omega) (by decide) hinX0_drawOf_X0 (by decide +kernel) dX0_drawOf_8 ?_
  refine x_bipush (v := 11) C dX0_drawOf_11 (by decide) ?_
  refine x_imul C dX0_drawOf_13 ?_
  refine x_iadd C dX0_drawOf_14 ?_
  refine x_bipush (v := 13) C dX0_drawOf_15 (by decide) ?_
  refine x_iadd C dX0_drawOf_17 ?_
  refine x_bipush (v := 100) C dX0_drawOf_18 (by decide) ?_
  refine x_irem C dX0_drawOf_20 (by decide) ?_
  exact x_iret  C dX0_drawOf_21 ⟨Nat.le_of_ble_eq_true rfl, Nat.le_of_ble_eq_true rfl⟩ ⟨rfl, rfl⟩
theorem hinX0_share_X0 : ∀ w ∈ wsX00, w ∈ wsX0_share := by decide +kernel
def rmX0_share : Room := { frames := 0, cells := 0, slots := 0, locals := 0 }
set_option maxHeartbeats 4000000 in
set_option maxRecDepth 100000 in
theorem k_X0_share (l : Launch) (D : va_G) (cy : Nat → ClassId) (a : Nat → Nat) (A : Nat → Prop) (X : va_W) (V : XV) {q0 : Nat} (hq : 19 ≤ q0 ∧ q0 < 25) : Met l yX0_share wsX0_share rmX0_share (va_Pc [.ref (a q0)] (xPre D (tyC cy) A (cW cy a X V))) (va_Qi (fun (r : Int32) (u : XV) => r = shareI V q0 ∧ u = V) (fun u t => xPost D (tyC cy) A (cW cy a X u) t) A) 0 0 A := by
  refine x_met (own := RX0) (by decide) rfl rfl (Nat.le_of_ble_eq_true rfl) rfl ?_
  intro p e s m below meth c hnm C hE
  refine x_aload_n (i := 0) C dX0_share_0 rfl rfl ?_
  refine x_getK C 9 (by omega) (by decide) hinX0_share_X0 (by decide +kernel) dX0_share_1 ?_
  refine x_if_ne C 12 dX0_share_4 (by decide) (fun c_4 => ?_) (fun c_4 => ?_)
  · refine x_aload_n (i := 0) C dX0_share_12 rfl rfl ?_
    refine x_getK C 9 (by omega) (by decide) hinX0_share_X0 (by decide +kernel) dX0_share_13 ?_
    refine x_iconst (v := 1) C dX0_share_16 (by decide) ?_
    refine x_icmp_ne C 27 dX0_share_17 (by decide) (fun c_17 => ?_) (fun c_17 => ?_)
    · refine x_bipush (v := 100) C dX0_share_27 (by decide) ?_
      exact x_iret  C dX0_share_29 ⟨Nat.le_of_ble_eq_true rfl, Nat.le_of_ble_eq_true rfl⟩ ⟨by simp [shareI, c_4, c_17], rfl⟩
    refine x_aload_n (i := 0) C dX0_share_20 rfl rfl ?_
    refine x_getK C 5 (by omega) (by decide) hinX0_share_X0 (by decide +kernel) dX0_share_21 ?_
    refine x_goto C 29 dX0_share_24 (by decide) ?_
    exact x_iret  C dX0_share_29 ⟨Nat.le_of_ble_eq_true rfl, Nat.le_of_ble_eq_true rfl⟩ ⟨by simp [shareI, c_4, c_17], rfl⟩
  refine x_aload_n (i := 0) C dX0_share_7 rfl rfl ?_
  refine x_getK C 4 (by omega) (by decide) hinX0_share_X0 (by decide +kernel) dX0_share_8 ?_
  exact x_iret  C dX0_share_11 ⟨Nat.le_of_ble_eq_true rfl, Nat.le_of_ble_eq_true rfl⟩ ⟨by simp [shareI, c_4], rfl⟩
theorem hinX0_isFor_X0 : ∀ w ∈ wsX00, w ∈ wsX0_isFor := by decide +kernel
theorem hinX0_isFor_X1 : ∀ w ∈ wsX10, w ∈ wsX0_isFor := by decide +kernel
def rmX0_isFor : Room := { frames := 1, cells := 0, slots := 0, locals := 21 }
set_option maxHeartbeats 4000000 in
set_option maxRecDepth 100000 in
theorem k_X0_isFor (l : Launch) (D : va_G) (cy : Nat → ClassId) (a : Nat → Nat) (A : Nat → Prop) (X : va_W) (V : XV) {q0 p0 : Nat} (hq : 19 ≤ q0 ∧ q0 < 25) (hp : 9 ≤ p0 ∧ p0 < 19) : Met l yX0_isFor wsX0_isFor rmX0_isFor (va_Pc [.ref (a q0), .ref (a p0)] (xPre D (tyC cy) A (cW cy a X V))) (va_Qi (fun (r : Int32) (u : XV) => r = b2i (isForB V q0 p0) ∧ u = V) (fun u t => xPost D (tyC cy) A (cW cy a X u) t) A) 0 0 A := by
  refine x_met (own := RX0) (by decide) rfl rfl (Nat.le_of_ble_eq_true rfl) rfl ?_
  intro p e s m below meth c hnm C hE
  refine x_aload_n (i := 0) C dX0_isFor_0 rfl rfl ?_
  refine x_getK C 8 (by omega) (by decide) hinX0_isFor_X0 (by decide +kernel) dX0_isFor_1 ?_
  refine x_if_eq C 76 dX0_isFor_4 (by decide) (fun c_4 => ?_) (fun c_4 => ?_)
  · refine x_iconst (v := 0) C dX0_isFor_76 (by decide) ?_
    exact x_zret  C dX0_isFor_77 ⟨Nat.le_of_ble_eq_true rfl, Nat.le_of_ble_eq_true rfl⟩ rfl ⟨by (try simp only [b2i_0] at *); simp [isForB, b2i, c_4], rfl⟩
  refine x_aload_n (i := 0) C dX0_isFor_7 rfl rfl ?_
  refine x_getK C 2 (by omega) (by decide) hinX0_isFor_X0 (by decide +kernel) dX0_isFor_8 ?_
  refine x_aload_n (i := 1) C dX0_isFor_11 rfl rfl ?_
  refine x_getD C 1 (by omega) (by decide) hinX0_isFor_X1 (by decide +kernel) dX0_isFor_12 ?_
  refine x_callNi C hE (k_X3_has l D _ A _ _ _) (⟨va_cnB (host := "Ringroll") 2 C.2.2.2.2.1 ggX0_isFor_X3_has rfl rfl rfl (hE.1 _ (List.mem_of_getElem? (i := 1) rfl)) (C.2.2.2.2.1 _ (by decide +kernel)) (by decide +kernel) ⟨Nat.le_of_ble_eq_true rfl, Nat.le_of_ble_eq_true rfl⟩, C.2.2.2.2.1 _ (by decide +kernel), trivial⟩)  rfl rfl (Nat.le_of_ble_eq_true rfl) dX0_isFor_15 ⟨Nat.le_of_ble_eq_true rfl, Nat.le_of_ble_eq_true rfl⟩ (fun r_15 u_15 h_15 => ?_)
  subst h_15
  refine x_if_eq C 76 dX0_isFor_18 (by decide) (fun c_18 => ?_) (fun c_18 => ?_)
  · refine x_iconst (v := 0) C dX0_isFor_76 (by decide) ?_
    exact x_zret  C dX0_isFor_77 ⟨Nat.le_of_ble_eq_true rfl, Nat.le_of_ble_eq_true rfl⟩ rfl ⟨by (try simp only [b2i_0] at *); simp [isForB, b2i, c_4, c_18], rfl⟩
  refine x_aload_n (i := 0) C dX0_isFor_21 rfl rfl ?_
  refine x_getK C 3 (by omega) (by decide) hinX0_isFor_X0 (by decide +kernel) dX0_isFor_22 ?_
  refine x_aload_n (i := 1) C dX0_isFor_25 rfl rfl ?_
  refine x_getD C 2 (by omega) (by decide) hinX0_isFor_X1 (by decide +kernel) dX0_isFor_26 ?_
  refine x_callNi C hE (k_X3_has l D _ A _ _ _) (⟨va_cnB (host := "Ringroll") 2 C.2.2.2.2.1 ggX0_isFor_X3_has rfl rfl rfl (hE.1 _ (List.mem_of_getElem? (i := 1) rfl)) (C.2.2.2.2.1 _ (by decide +kernel)) (by decide +kernel) ⟨Nat.le_of_ble_eq_true rfl, Nat.le_of_ble_eq_true rfl⟩, C.2.2.2.2.1 _ (by decide +kernel), trivial⟩)  rfl rfl (Nat.le_of_ble_eq_true rfl) dX0_isFor_29 ⟨Nat.le_of_ble_eq_true rfl, Nat.le_of_ble_eq_true rfl⟩ (fun r_29 u_29 h_29 => ?_)
  subst h_29
  refine x_if_eq C 76 dX0_isFor_32 (by decide) (fun c_32 => ?_) (fun c_32 => ?_)
  · refine x_iconst (v := 0) C dX0_isFor_76 (by decide) ?_
    exact x_zret  C dX0_isFor_77 ⟨Nat.le_of_ble_eq_true rfl, Nat.le_of_ble_eq_true rfl⟩ rfl ⟨by (try simp only [b2i_0] at *); simp [isForB, b2i, c_4, c_18, c_32], rfl⟩
  refine x_aload_n (i := 1) C dX0_isFor_35 rfl rfl ?_
  refine x_getD C 2 (by omega) (by decide) hinX0_isFor_X1 (by decide +kernel) dX0_isFor_36 ?_
  refine x_aload_n (i := 0) C dX0_isFor_39 rfl rfl ?_
  refine x_getK C 1 (by omega) (by decide) hinX0_isFor_X0 (by decide +kernel) dX0_isFor_40 ?_
  refine x_icmp_eq C 76 dX0_isFor_43 (by decide) (fun c_43 => ?_) (fun c_43 => ?_)
  · refine x_iconst (v := 0) C dX0_isFor_76 (by decide) ?_
    exact x_zret  C dX0_isFor_77 ⟨Nat.le_of_ble_eq_true rfl, Nat.le_of_ble_eq_true rfl⟩ rfl ⟨by (try simp only [b2i_0] at *); simp [isForB, b2i, c_4, c_18, c_32, c_43], rfl⟩
  refine x_aload_n (i := 0) C dX0_isFor_46 rfl rfl ?_
  refine x_aload_n (i := 1) C dX0_isFor_47 rfl rfl ?_
  refine x_callVi C hE (k_X0_drawOf l D cy a A X _ (by omega) (by omega)) (cwV 1 C.2.2.2.2.1 gX0_isFor_X0_drawOf rfl rfl rfl (by decide +kernel) ⟨Nat.le_of_ble_eq_true rfl, Nat.le_of_ble_eq_true rfl⟩) _ (cW_K cy a X _ (by omega)) rfl rfl rfl rfl (Nat.le_of_ble_eq_true rfl) dX0_isFor_48 ⟨Nat.le_of_ble_eq_true rfl, Nat.le_of_ble_eq_true rfl⟩ (fun r_48 u_48 h_48 => ?_)
  obtain ⟨e8_48, e9_48⟩ := h_48
  rw [e8_48, e9_48]
  refine x_aload_n (i := 0) C dX0_isFor_51 rfl rfl ?_
  refine x_callVi C hE (k_X0_share l D cy a A X _ (by omega)) (cwV 0 C.2.2.2.2.1 gX0_isFor_X0_share rfl rfl rfl (by decide +kernel) ⟨Nat.le_of_ble_eq_true rfl, Nat.le_of_ble_eq_true rfl⟩) _ (cW_K cy a X _ (by omega)) rfl rfl rfl rfl (Nat.le_of_ble_eq_true rfl) dX0_isFor_52 ⟨Nat.le_of_ble_eq_true rfl, Nat.le_of_ble_eq_true rfl⟩ (fun r_52 u_52 h_52 => ?_)
  obtain ⟨e8_52, e9_52⟩ := h_52
  rw [e8_52, e9_52]
  refine x_icmp_ge C 76 dX0_isFor_55 (by decide) (fun c_55 => ?_) (fun c_55 => ?_)
  · refine x_iconst (v := 0) C dX0_isFor_76 (by decide) ?_
    exact x_zret  C dX0_isFor_77 ⟨Nat.le_of_ble_eq_true rfl, Nat.le_of_ble_eq_true rfl⟩ rfl ⟨by (try simp only [b2i_0] at *); simp [isForB, b2i, c_4, c_18, c_32, c_43, c_55], rfl⟩
  refine x_aload_n (i := 0) C dX0_isFor_58 rfl rfl ?_
  refine x_getK C 12 (by omega) (by decide) hinX0_isFor_X0 (by decide +kernel) dX0_isFor_59 ?_
  refine x_aload_n (i := 1) C dX0_isFor_62 rfl rfl ?_
  refine x_getD C 0 (by omega) (by decide) hinX0_isFor_X1 (by decide +kernel) dX0_isFor_63 ?_
  refine x_callNi C hE (k_X3_has l D _ A _ _ _) (⟨va_cnB (host := "Ringroll") 2 C.2.2.2.2.1 ggX0_isFor_X3_has rfl rfl rfl (hE.1 _ (List.mem_of_getElem? (i := 1) rfl)) (C.2.2.2.2.1 _ (by decide +kernel)) (by decide +kernel) ⟨Nat.le_of_ble_eq_true rfl, Nat.le_of_ble_eq_true rfl⟩, C.2.2.2.2.1 _ (by decide +kernel), trivial⟩)  rfl rfl (Nat.le_of_ble_eq_true rfl) dX0_isFor_66 ⟨Nat.le_of_ble_eq_true rfl, Nat.le_of_ble_eq_true rfl⟩ (fun r_66 u_66 h_66 => ?_)
  subst h_66
  refine x_if_ne C 76 dX0_isFor_69 (by decide) (fun c_69 => ?_) (fun c_69 => ?_)
  · refine x_iconst (v := 0) C dX0_isFor_76 (by decide) ?_
    exact x_zret  C dX0_isFor_77 ⟨Nat.le_of_ble_eq_true rfl, Nat.le_of_ble_eq_true rfl⟩ rfl ⟨by (try simp only [b2i_0] at *); simp [isForB, b2i, c_4, c_18, c_32, c_43, c_55, c_69], rfl⟩
  refine x_iconst (v := 1) C dX0_isFor_72 (by decide) ?_
  refine x_goto C 77 dX0_isFor_73 (by decide) ?_
  exact x_zret  C dX0_isFor_77 ⟨Nat.le_of_ble_eq_true rfl, Nat.le_of_ble_eq_true rfl⟩ rfl ⟨by (try simp only [b2i_0] at *); simp [isForB, b2i, c_4, c_18, c_32, c_43, c_55, c_69], rfl⟩
theorem hinX0_countReport_X0 : ∀ w ∈ wsX00, w ∈ wsX0_countReport := by decide +kernel
theorem hinX0_countReport_X1 : ∀ w ∈ wsX10, w ∈ wsX0_countReport := by decide +kernel
def rmX0_countReport : Room := { frames := 0, cells := 0, slots := 0, locals := 0 }
set_option maxHeartbeats 4000000 in
set_option maxRecDepth 100000 in
theorem k_X0_countReport (l : Launch) (D : va_G) (cy : Nat → ClassId) (a : Nat → Nat) (A : Nat → Prop) (X : va_W) (V : XV) {q0 p0 : Nat} (z : Int32) (hq : 19 ≤ q0 ∧ q0 < 25) (hp : 9 ≤ p0 ∧ p0 < 19) : Met l yX0_countReport wsX0_countReport rmX0_countReport (va_Pc [.ref (a q0), .ref (a p0), .int z] (xPre D (tyC cy) A (cW cy a X V))) (va_Qv (fun (u : XV) => u = countV V q0 p0 z) (fun u t => xPost D (tyC cy) A (cW cy a X u) t) A) 0 0 A := by
  refine x_met (own := RX0) (by decide) rfl rfl (Nat.le_of_ble_eq_true rfl) rfl ?_
  intro p e s m below meth c hnm C hE
  refine x_aload_n (i := 0) C dX0_countReport_0 rfl rfl ?_
  refine x_dup C dX0_countReport_1 rfl ?_
  refine x_getK C 12 (by omega) (by decide) hinX0_countReport_X0 (by decide +kernel) dX0_countReport_2 ?_
  refine x_iconst (v := 1) C dX0_countReport_5 (by decide) ?_
  refine x_aload_n (i := 1) C dX0_countReport_6 rfl rfl ?_
  refine x_getD C 0 (by omega) (by decide) hinX0_countReport_X1 (by decide +kernel) dX0_countReport_7 ?_
  refine x_ishl C dX0_countReport_10 ?_
  refine x_ior C dX0_countReport_11 ?_
  refine x_putK C 12 (by omega) (by decide) (by decide) hinX0_countReport_X0 (by decide +kernel) dX0_countReport_12 ?_
  refine x_aload_n (i := 0) C dX0_countReport_15 rfl rfl ?_
  refine x_dup C dX0_countReport_16 rfl ?_
  refine x_getK C 10 (by omega) (by decide) hinX0_countReport_X0 (by decide +kernel) dX0_countReport_17 ?_
  refine x_iconst (v := 1) C dX0_countReport_20 (by decide) ?_
  refine x_iadd C dX0_countReport_21 ?_
  refine x_putK C 10 (by omega) (by decide) (by decide) hinX0_countReport_X0 (by decide +kernel) dX0_countReport_22 ?_
  refine x_iload_n (i := 2) C dX0_countReport_25 rfl rfl ?_
  refine x_if_ne C 39 dX0_countReport_26 (by decide) (fun c_26 => ?_) (fun c_26 => ?_)
  · exact x_vret  C dX0_countReport_39 ⟨Nat.le_of_ble_eq_true rfl, Nat.le_of_ble_eq_true rfl⟩ (by simp only [countV]; first | rw [if_pos c_26]; rfl | rw [if_neg c_26]; rfl)
  refine x_aload_n (i := 0) C dX0_countReport_29 rfl rfl ?_
  refine x_dup C dX0_countReport_30 rfl ?_
  refine x_getK C 11 (by omega) (by decide) hinX0_countReport_X0 (by decide +kernel) dX0_countReport_31 ?_
  refine x_iconst (v := 1) C dX0_countReport_34 (by decide) ?_
  refine x_iadd C dX0_countReport_35 ?_
  refine x_putK C 11 (by omega) (by decide) (by decide) hinX0_countReport_X0 (by decide +kernel) dX0_countReport_36 ?_
  exact x_vret  C dX0_countReport_39 ⟨Nat.le_of_ble_eq_true rfl, Nat.le_of_ble_eq_true rfl⟩ (by simp only [countV]; first | rw [if_pos c_26]; rfl | rw [if_neg c_26]; rfl)
theorem hinX0_beginRing_X0 : ∀ w ∈ wsX00, w ∈ wsX0_beginRing := by decide +kernel
def rmX0_beginRing : Room := { frames := 0, cells := 0, slots := 0, locals := 0 }
set_option maxHeartbeats 4000000 in
set_option maxRecDepth 100000 in
theorem k_X0_beginRing (l : Launch) (D : va_G) (cy : Nat → ClassId) (a : Nat → Nat) (A : Nat → Prop) (X : va_W) (V : XV) {q0 : Nat} (z : Int32) (hq : 19 ≤ q0 ∧ q0 < 25) : Met l yX0_beginRing wsX0_beginRing rmX0_beginRing (va_Pc [.ref (a q0), .int z] (xPre D (tyC cy) A (cW cy a X V))) (va_Qv (fun (u : XV) => u = ringV V q0 z) (fun u t => xPost D (tyC cy) A (cW cy a X u) t) A) 0 0 A := by
  refine x_met (own := RX0) (by decide) rfl rfl (Nat.le_of_ble_eq_true rfl) rfl ?_
  intro p e s m below meth c hnm C hE
  refine x_aload_n (i := 0) C dX0_beginRing_0 rfl rfl ?_
  refine x_iload_n (i := 1) C dX0_beginRing_1 rfl rfl ?_
  refine x_putK C 9 (by omega) (by decide) (by decide) hinX0_beginRing_X0 (by decide +kernel) dX0_beginRing_2 ?_
  refine x_aload_n (i := 0) C dX0_beginRing_5 rfl rfl ?_
  refine x_iconst (v := 0) C dX0_beginRing_6 (by decide) ?_
  refine x_putK C 10 (by omega) (by decide) (by decide) hinX0_beginRing_X0 (by decide +kernel) dX0_beginRing_7 ?_
  refine x_aload_n (i := 0) C dX0_beginRing_10 rfl rfl ?_
  refine x_iconst (v := 0) C dX0_beginRing_11 (by decide) ?_
  refine x_putK C 11 (by omega) (by decide) (by decide) hinX0_beginRing_X0 (by decide +kernel) dX0_beginRing_12 ?_
  exact x_vret  C dX0_beginRing_15 ⟨Nat.le_of_ble_eq_true rfl, Nat.le_of_ble_eq_true rfl⟩ rfl
theorem hinX0_judgeRing_X0 : ∀ w ∈ wsX00, w ∈ wsX0_judgeRing := by decide +kernel
def rmX0_judgeRing : Room := { frames := 1, cells := 0, slots := 0, locals := 21 }
set_option maxHeartbeats 4000000 in
set_option maxRecDepth 100000 in
theorem k_X0_judgeRing (l : Launch) (D : va_G) (cy : Nat → ClassId) (a : Nat → Nat) (A : Nat → Prop) (X : va_W) (V : XV) {q0 : Nat} (hq : 19 ≤ q0 ∧ q0 < 25) : Met l yX0_judgeRing wsX0_judgeRing rmX0_judgeRing (va_Pc [.ref (a q0)] (xPre D (tyC cy) A (cW cy a X V))) (va_Qv (fun (u : XV) => u = judgeV V q0) (fun u t => xPost D (tyC cy) A (cW cy a X u) t) A) 0 0 A := by
  refine x_met (own := RX0) (by decide) rfl rfl (Nat.le_of_ble_eq_true rfl) rfl ?_
  intro p e s m below meth c hnm C hE
  refine x_aload_n (i := 0) C dX0_judgeRing_0 rfl rfl ?_
  refine x_getK C 8 (by omega) (by decide) hinX0_judgeRing_X0 (by decide +kernel) dX0_judgeRing_1 ?_
  refine x_if_eq C 18 dX0_judgeRing_4 (by decide) (fun c_4 => ?_) (fun c_4 => ?_)
  · exact x_vret  C dX0_judgeRing_18 ⟨Nat.le_of_ble_eq_true rfl, Nat.le_of_ble_eq_true rfl⟩ (by simp [judgeV, c_4])
  refine x_aload_n (i := 0) C dX0_judgeRing_7 rfl rfl ?_
  refine x_getK C 10 (by omega) (by decide) hinX0_judgeRing_X0 (by decide +kernel) dX0_judgeRing_8 ?_
  refine x_aload_n (i := 0) C dX0_judgeRing_11 rfl rfl ?_
  refine x_getK C 6 (by omega) (by decide) hinX0_judgeRing_X0 (by decide +kernel) dX0_judgeRing_12 ?_
  refine x_icmp_ge C 19 dX0_judgeRing_15 (by decide) (fun c_15 => ?_) (fun c_15 => ?_)
  · refine x_aload_n (i := 0) C dX0_judgeRing_19 rfl rfl ?_
    refine x_getK C 11 (by omega) (by decide) hinX0_judgeRing_X0 (by decide +kernel) dX0_judgeRing_20 ?_
    refine x_sipush (v := 1000) C dX0_judgeRing_23 (by decide) ?_
    refine x_imul C dX0_judgeRing_26 ?_
    refine x_aload_n (i := 0) C dX0_judgeRing_27 rfl rfl ?_
    refine x_getK C 10 (by omega) (by decide) hinX0_judgeRing_X0 (by decide +kernel) dX0_judgeRing_28 ?_
    refine x_aload_n (i := 0) C dX0_judgeRing_31 rfl rfl ?_
    refine x_getK C 7 (by omega) (by decide) hinX0_judgeRing_X0 (by decide +kernel) dX0_judgeRing_32 ?_
    refine x_imul C dX0_judgeRing_35 ?_
    refine x_icmp_le C 47 dX0_judgeRing_36 (by decide) (fun c_36 => ?_) (fun c_36 => ?_)
    · refine x_aload_n (i := 0) C dX0_judgeRing_47 rfl rfl ?_
      refine x_getK C 9 (by omega) (by decide) hinX0_judgeRing_X0 (by decide +kernel) dX0_judgeRing_48 ?_
      refine x_iconst (v := 2) C dX0_judgeRing_51 (by decide) ?_
      refine x_icmp_eq C 65 dX0_judgeRing_52 (by decide) (fun c_52 => ?_) (fun c_52 => ?_)
      · exact x_vret  C dX0_judgeRing_65 ⟨Nat.le_of_ble_eq_true rfl, Nat.le_of_ble_eq_true rfl⟩ (by simp [judgeV, c_4, c_15, c_36, c_52])
      refine x_aload_n (i := 0) C dX0_judgeRing_55 rfl rfl ?_
      refine x_aload_n (i := 0) C dX0_judgeRing_56 rfl rfl ?_
      refine x_getK C 9 (by omega) (by decide) hinX0_judgeRing_X0 (by decide +kernel) dX0_judgeRing_57 ?_
      refine x_iconst (v := 1) C dX0_judgeRing_60 (by decide) ?_
      refine x_iadd C dX0_judgeRing_61 ?_
      refine x_callVv C hE (k_X0_beginRing l D cy a A X _ _ (by omega)) (cwV 1 C.2.2.2.2.1 gX0_judgeRing_X0_beginRing rfl rfl rfl (by decide +kernel) ⟨Nat.le_of_ble_eq_true rfl, Nat.le_of_ble_eq_true rfl⟩) _ (cW_K cy a X _ (by omega)) rfl rfl rfl rfl (Nat.le_of_ble_eq_true rfl) dX0_judgeRing_62 ⟨Nat.le_of_ble_eq_true rfl, Nat.le_of_ble_eq_true rfl⟩ (fun u_62 h_62 => ?_)
      rw [h_62]
      exact x_vret  C dX0_judgeRing_65 ⟨Nat.le_of_ble_eq_true rfl, Nat.le_of_ble_eq_true rfl⟩ (by simp [judgeV, c_4, c_15, c_36, c_52])
    refine x_aload_n (i := 0) C dX0_judgeRing_39 rfl rfl ?_
    refine x_iconst (v := 0) C dX0_judgeRing_40 (by decide) ?_
    refine x_putKz C (by omega) rfl rfl hinX0_judgeRing_X0 (by decide +kernel) dX0_judgeRing_41 ?_
    refine x_goto C 65 dX0_judgeRing_44 (by decide) ?_
    exact x_vret  C dX0_judgeRing_65 ⟨Nat.le_of_ble_eq_true rfl, Nat.le_of_ble_eq_true rfl⟩ (by simp [judgeV, c_4, c_15, c_36])
  exact x_vret  C dX0_judgeRing_18 ⟨Nat.le_of_ble_eq_true rfl, Nat.le_of_ble_eq_true rfl⟩ (by simp [judgeV, c_4, c_15])
theorem hinX2_leastBytes_X2 : ∀ w ∈ wsX20, w ∈ wsX2_leastBytes := by decide +kernel
def rmX2_leastBytes : Room := { frames := 1, cells := 0, slots := 0, locals := 24 }
set_option maxHeartbeats 4000000 in
set_option maxRecDepth 100000 in
theorem k_X2_leastBytes (l : Launch) (D : va_G) (cy : Nat → ClassId) (a : Nat → Nat) (A : Nat → Prop) (X : va_W) (V : XV) (f t : Int32) (hf : vp_in f 8) (ht : vp_in t 8) : Met l yX2_leastBytes wsX2_leastBytes rmX2_leastBytes (va_Pc [.ref (a 2), .int f, .int t] (xPre D (tyC cy) A (cW cy a X V))) (va_Qi (fun (r : Int32) (u : XV) => r = lbI V f t ∧ u = V) (fun u t => xPost D (tyC cy) A (cW cy a X u) t) A) 0 0 A := by
  refine x_met (own := RX2) (by decide) rfl rfl (Nat.le_of_ble_eq_true rfl) rfl ?_
  intro p e s m below meth c hnm C hE
  refine x_iload_n (i := 1) C dX2_leastBytes_0 rfl rfl ?_
  refine x_iload_n (i := 2) C dX2_leastBytes_1 rfl rfl ?_
  refine x_icmp_ne C 7 dX2_leastBytes_2 (by decide) (fun c_2 => ?_) (fun c_2 => ?_)
  · refine x_aload_n (i := 0) C dX2_leastBytes_7 rfl rfl ?_
    refine x_getWr C 2 (by decide) hinX2_leastBytes_X2 (by decide +kernel) dX2_leastBytes_8 ?_
    refine x_iload_n (i := 1) C dX2_leastBytes_11 rfl rfl ?_
    refine x_aaldLb C (by assumption) rfl dX2_leastBytes_12 ?_
    refine x_iload_n (i := 2) C dX2_leastBytes_13 rfl rfl ?_
    refine x_ialdC C (by have := vp_at hf; unfold cI; omega) (by assumption) rfl dX2_leastBytes_14 ?_
    refine x_aload_n (i := 0) C dX2_leastBytes_15 rfl rfl ?_
    refine x_getWr C 3 (by decide) hinX2_leastBytes_X2 (by decide +kernel) dX2_leastBytes_16 ?_
    refine x_iload_n (i := 2) C dX2_leastBytes_19 rfl rfl ?_
    refine x_ialdC C (by unfold cI; omega) (by assumption) rfl dX2_leastBytes_20 ?_
    refine x_min C (by decide +kernel) (by decide +kernel) (by decide +kernel) (by decide +kernel) ⟨Nat.le_of_ble_eq_true rfl, Nat.le_of_ble_eq_true rfl, Nat.le_of_ble_eq_true rfl, Nat.le_of_ble_eq_true rfl⟩ dX2_leastBytes_21 rfl ?_
    refine x_callSi C hE (k_X2_orNone l D _ A _ _) (va_cwS 1 C.2.2.2.2.1 gX2_leastBytes_X2_orNone rfl rfl rfl (by decide +kernel) ⟨Nat.le_of_ble_eq_true rfl, Nat.le_of_ble_eq_true rfl⟩)  rfl rfl (Nat.le_of_ble_eq_true rfl) dX2_leastBytes_24 ⟨Nat.le_of_ble_eq_true rfl, Nat.le_of_ble_eq_true rfl⟩ (fun r_24 u_24 h_24 => ?_)
    subst h_24
    exact x_iret  C dX2_leastBytes_27 ⟨Nat.le_of_ble_eq_true rfl, Nat.le_of_ble_eq_true rfl⟩ ⟨by simp [lbI, minI, c_2], rfl⟩
  refine x_iconst (v := 0) C dX2_leastBytes_5 (by decide) ?_
  exact x_iret  C dX2_leastBytes_6 ⟨Nat.le_of_ble_eq_true rfl, Nat.le_of_ble_eq_true rfl⟩ ⟨by simp [lbI, minI, c_2], rfl⟩
theorem hinX3_deviceAt_X3 : ∀ w ∈ wsX30, w ∈ wsX3_deviceAt := by decide +kernel
def rmX3_deviceAt : Room := { frames := 6, cells := 1, slots := 6, locals := 92 }
set_option maxHeartbeats 4000000 in
set_option maxRecDepth 100000 in
theorem k_X3_deviceAt (l : Launch) (hfl : l.stackTraces = false) (D : va_G) (cy : Nat → ClassId) (a : Nat → Nat) (A : Nat → Prop) (X : va_W) (V : XV) (z : Int32) (hn : (V 0 4).toInt ≤ 10) : vx_Met l yX3_deviceAt wsX3_deviceAt rmX3_deviceAt (va_Pc [.ref (a 0), .int z] (xPre D (tyC cy) A (cW cy a X V))) (va_Qr (fun (u : XV) => nDx V z = none ∧ u = V) (fun u v t => (fun (_ : XV) (v : Nat) => v = a (9 + z.toNatClampNeg)) u v ∧ xPost D (tyC cy) A (cW cy a X u) t) A) (xX D (tyC cy) A (cW cy a X V) (nDx V z)) 1 6 A := by
  refine x_metX (own := RX3) (by decide) rfl rfl (Nat.le_of_ble_eq_true rfl) rfl ?_
  intro p e s m below meth c hout C hE
  refine x_iload_n (i := 1) C dX3_deviceAt_0 rfl rfl ?_
  refine x_if_lt C 12 dX3_deviceAt_1 (by decide) (fun c_1 => ?_) (fun c_1 => ?_)
  · exact x_throw (cls := xIO) (text := "no such device") hout hfl C hE rfl (by decide +kernel) (by decide +kernel) (by decide) (by decide +kernel) (by decide +kernel) (by decide +kernel) dX3_deviceAt_12 dX3_deviceAt_15 dX3_deviceAt_16 dX3_deviceAt_18 dX3_deviceAt_21 ⟨Nat.le_of_ble_eq_true rfl, Nat.le_of_ble_eq_true rfl, Nat.le_of_ble_eq_true rfl, Nat.le_of_ble_eq_true rfl⟩ ⟨Nat.le_of_ble_eq_true rfl, Nat.le_of_ble_eq_true rfl⟩ (by simp [nDx, c_1])
  refine x_iload_n (i := 1) C dX3_deviceAt_4 rfl rfl ?_
  refine x_aload_n (i := 0) C dX3_deviceAt_5 rfl rfl ?_
  refine x_getR C 4 (by decide) hinX3_deviceAt_X3 (by decide +kernel) dX3_deviceAt_6 ?_
  refine x_icmp_lt C 22 dX3_deviceAt_9 (by decide) (fun c_9 => ?_) (fun c_9 => ?_)
  · refine x_aload_n (i := 0) C dX3_deviceAt_22 rfl rfl ?_
    refine x_getRr C 2 (by decide) hinX3_deviceAt_X3 (by decide +kernel) dX3_deviceAt_23 ?_
    refine x_iload_n (i := 1) C dX3_deviceAt_26 rfl rfl ?_
    refine x_aaldF C (vp_lt c_1 c_9 hn) rfl dX3_deviceAt_27 ?_
    exact x_rretX  C dX3_deviceAt_28 ⟨Nat.le_of_ble_eq_true rfl, Nat.le_of_ble_eq_true rfl⟩ (Or.inl ⟨_, rfl⟩) rfl ⟨by simp [nDx, c_1, c_9], rfl⟩
  exact x_throw (cls := xIO) (text := "no such device") hout hfl C hE rfl (by decide +kernel) (by decide +kernel) (by decide) (by decide +kernel) (by decide +kernel) (by decide +kernel) dX3_deviceAt_12 dX3_deviceAt_15 dX3_deviceAt_16 dX3_deviceAt_18 dX3_deviceAt_21 ⟨Nat.le_of_ble_eq_true rfl, Nat.le_of_ble_eq_true rfl, Nat.le_of_ble_eq_true rfl, Nat.le_of_ble_eq_true rfl⟩ ⟨Nat.le_of_ble_eq_true rfl, Nat.le_of_ble_eq_true rfl⟩ (by simp [nDx, c_1, c_9])
theorem hinX3_needCampaign_X3 : ∀ w ∈ wsX30, w ∈ wsX3_needCampaign := by decide +kernel
def rmX3_needCampaign : Room := { frames := 6, cells := 1, slots := 6, locals := 92 }
set_option maxHeartbeats 4000000 in
set_option maxRecDepth 100000 in
theorem k_X3_needCampaign (l : Launch) (hfl : l.stackTraces = false) (D : va_G) (cy : Nat → ClassId) (a : Nat → Nat) (A : Nat → Prop) (X : va_W) (V : XV) (z : Int32)  : vx_Met l yX3_needCampaign wsX3_needCampaign rmX3_needCampaign (va_Pc [.ref (a 0), .int z] (xPre D (tyC cy) A (cW cy a X V))) (va_Qv (fun (u : XV) => nCx V z = none ∧ u = V) (fun u t => xPost D (tyC cy) A (cW cy a X u) t) A) (xX D (tyC cy) A (cW cy a X V) (nCx V z)) 1 6 A := by
  refine x_metX (own := RX3) (by decide) rfl rfl (Nat.le_of_ble_eq_true rfl) rfl ?_
  intro p e s m below meth c hout C hE
  refine x_iload_n (i := 1) C dX3_needCampaign_0 rfl rfl ?_
  refine x_if_lt C 12 dX3_needCampaign_1 (by decide) (fun c_1 => ?_) (fun c_1 => ?_)
  · exact x_throw (cls := xIO) (text := "no such campaign") hout hfl C hE rfl (by decide +kernel) (by decide +kernel) (by decide) (by decide +kernel) (by decide +kernel) (by decide +kernel) dX3_needCampaign_12 dX3_needCampaign_15 dX3_needCampaign_16 dX3_needCampaign_18 dX3_needCampaign_21 ⟨Nat.le_of_ble_eq_true rfl, Nat.le_of_ble_eq_true rfl, Nat.le_of_ble_eq_true rfl, Nat.le_of_ble_eq_true rfl⟩ ⟨Nat.le_of_ble_eq_true rfl, Nat.le_of_ble_eq_true rfl⟩ (by simp [nCx, c_1])
  refine x_iload_n (i := 1) C dX3_needCampaign_4 rfl rfl ?_
  refine x_aload_n (i := 0) C dX3_needCampaign_5 rfl rfl ?_
  refine x_getR C 5 (by decide) hinX3_needCampaign_X3 (by decide +kernel) dX3_needCampaign_6 ?_
  refine x_icmp_lt C 22 dX3_needCampaign_9 (by decide) (fun c_9 => ?_) (fun c_9 => ?_)
  · exact x_vretX  C dX3_needCampaign_22 ⟨Nat.le_of_ble_eq_true rfl, Nat.le_of_ble_eq_true rfl⟩ ⟨by simp [nCx, c_1, c_9], rfl⟩
  exact x_throw (cls := xIO) (text := "no such campaign") hout hfl C hE rfl (by decide +kernel) (by decide +kernel) (by decide) (by decide +kernel) (by decide +kernel) (by decide +kernel) dX3_needCampaign_12 dX3_needCampaign_15 dX3_needCampaign_16 dX3_needCampaign_18 dX3_needCampaign_21 ⟨Nat.le_of_ble_eq_true rfl, Nat.le_of_ble_eq_true rfl, Nat.le_of_ble_eq_true rfl, Nat.le_of_ble_eq_true rfl⟩ ⟨Nat.le_of_ble_eq_true rfl, Nat.le_of_ble_eq_true rfl⟩ (by simp [nCx, c_1, c_9])
theorem hinX3_campaignAt_X3 : ∀ w ∈ wsX30, w ∈ wsX3_campaignAt := by decide +kernel
def rmX3_campaignAt : Room := { frames := 7, cells := 1, slots := 6, locals := 113 }
set_option maxHeartbeats 4000000 in
set_option maxRecDepth 100000 in
theorem k_X3_campaignAt (l : Launch) (hfl : l.stackTraces = false) (D : va_G) (cy : Nat → ClassId) (a : Nat → Nat) (A : Nat → Prop) (X : va_W) (V : XV) (z : Int32) (hm : (V 0 5).toInt ≤ 6) : vx_Met l yX3_campaignAt wsX3_campaignAt rmX3_campaignAt (va_Pc [.ref (a 0), .int z] (xPre D (tyC cy) A (cW cy a X V))) (va_Qr (fun (u : XV) => nCx V z = none ∧ u = V) (fun u v t => (fun (_ : XV) (v : Nat) => v = a (19 + z.toNatClampNeg)) u v ∧ xPost D (tyC cy) A (cW cy a X u) t) A) (xX D (tyC cy) A (cW cy a X V) (nCx V z)) 1 6 A := by
  refine x_metX (own := RX3) (by decide) rfl rfl (Nat.le_of_ble_eq_true rfl) rfl ?_
  intro p e s m below meth c hout C hE
  refine x_aload_n (i := 0) C dX3_campaignAt_0 rfl rfl ?_
  refine x_iload_n (i := 1) C dX3_campaignAt_1 rfl rfl ?_
  refine x_callVvX hout C hE (k_X3_needCampaign l hfl D cy a A X _ _) (cwV 1 C.2.2.2.2.1 gX3_campaignAt_X3_needCampaign rfl rfl rfl (by decide +kernel) ⟨Nat.le_of_ble_eq_true rfl, Nat.le_of_ble_eq_true rfl⟩) 0 (cW_R cy a X _) rfl rfl rfl rfl (Nat.le_of_ble_eq_true rfl) dX3_campaignAt_2 ⟨Nat.le_of_ble_eq_true rfl, Nat.le_of_ble_eq_true rfl⟩ ⟨Nat.le_of_ble_eq_true rfl, Nat.le_of_ble_eq_true rfl⟩ (fun E h9 => h9) (fun u_2 h_2 => ?_)
  obtain ⟨e_2, e9_2⟩ := h_2
  rw [e9_2]
  refine x_aload_n (i := 0) C dX3_campaignAt_5 rfl rfl ?_
  refine x_getRr C 3 (by decide) hinX3_campaignAt_X3 (by decide +kernel) dX3_campaignAt_6 ?_
  refine x_iload_n (i := 1) C dX3_campaignAt_9 rfl rfl ?_
  refine x_aaldQ C (nCx_in e_2 hm) rfl dX3_campaignAt_10 ?_
  exact x_rretX  C dX3_campaignAt_11 ⟨Nat.le_of_ble_eq_true rfl, Nat.le_of_ble_eq_true rfl⟩ (Or.inl ⟨_, rfl⟩) rfl ⟨e_2, rfl⟩
