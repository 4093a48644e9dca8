/-! ===== BEGIN wraps: the law's own small methods ===== -/
/-- the number of an exception -/
def cdE (E : String) : Int32 := if E = xIO then -2000000001 else if E = xIA then -2000000002 else -2000000003
theorem cdE_IO : cdE xIO = -2000000001 := if_pos rfl
theorem cdE_IA : cdE xIA = -2000000002 := (if_neg (by decide)).trans (if_pos rfl)
theorem cdE_IS : cdE xIS = -2000000003 := (if_neg (by decide)).trans (if_neg (by decide))
/-- what a small method answers: z, or the number of what was thrown; and what is left -/
def wr (ex : Option String) (z : Int32) : Int32 := match ex with
  | none => z
  | some E => cdE E
def wU (ex : Option String) (U V : XV) : XV := match ex with
  | none => U
  | some _ => V
theorem wr_n {ex : Option String} {z : Int32} (h : ex = none) : wr ex z = z := by rw [h]; rfl
theorem wr_s {ex : Option String} {E : String} {z : Int32} (h : ex = some E) : wr ex z = cdE E := by rw [h]; rfl
theorem wU_n {ex : Option String} {U V : XV} (h : ex = none) : wU ex U V = U := by rw [h]; rfl
theorem wU_s {ex : Option String} {E : String} {U V : XV} (h : ex = some E) : wU ex U V = V := by rw [h]; rfl
theorem wU_same (ex : Option String) (V : XV) : wU ex V V = V := by cases ex <;> rfl
/-- only what stands in the list is thrown -/
def exL (ex : Option String) (L : List String) : Prop := ∀ E, ex = some E → E ∈ L
theorem exL_n (L : List String) : exL none L := fun E h => by cases h
theorem exL_s {E : String} {L : List String} (h : E ∈ L) : exL (some E) L := fun E' h' => by cases h'; exact h
theorem exL_if {c : Prop} [Decidable c] {x y : Option String} {L : List String} (hx : exL x L) (hy : exL y L) : exL (if c then x else y) L := by split <;> assumption
theorem exL_q {x y : Option String} {L : List String} (hx : exL x L) (hy : exL y L) : exL (seqx x y) L := by
  cases x with
  | none => exact hy
  | some E => exact hx
theorem exL_up {v x : Int32} {E : String} {L : List String} (h : E ∈ L) : exL (if v < 0 then some E else if v < x then none else some E) L := exL_if (exL_s h) (exL_if (exL_n L) (exL_s h))
theorem exL_nR {v lo hi : Int32} {L : List String} (h : xIA ∈ L) : exL (nRx v lo hi) L := exL_if (exL_s h) (exL_if (exL_n L) (exL_s h))
theorem exL_nB {v : Int32} {L : List String} (h : xIA ∈ L) : exL (nBx v) L := exL_if (exL_n L) (exL_nR h)
def LIA : List String := [xIO, xIA]
def LIS : List String := [xIO, xIS]
def L3 : List String := [xIO, xIA, xIS]
def LIO : List String := [xIO]
def LZP : List String := [xIA]
theorem i_IA0 : xIO ∈ LIA := List.mem_of_getElem? (i := 0) rfl
theorem i_IA1 : xIA ∈ LIA := List.mem_of_getElem? (i := 1) rfl
theorem i_IS0 : xIO ∈ LIS := List.mem_of_getElem? (i := 0) rfl
theorem i_IS1 : xIS ∈ LIS := List.mem_of_getElem? (i := 1) rfl
theorem i_30 : xIO ∈ L3 := List.mem_of_getElem? (i := 0) rfl
theorem i_31 : xIA ∈ L3 := List.mem_of_getElem? (i := 1) rfl
theorem i_32 : xIS ∈ L3 := List.mem_of_getElem? (i := 2) rfl
theorem i_IO : xIO ∈ LIO := List.mem_of_getElem? (i := 0) rfl
theorem i_P : xIA ∈ LZP := List.mem_of_getElem? (i := 0) rfl
theorem exL_allow (v k : Int32) : exL (allowX v k) LIA := exL_q (exL_up i_IA0) (exL_nR i_IA1)
theorem exL_image (v z : Int32) : exL (setImageX v z) LIA := exL_q (exL_up i_IA0) (exL_nB i_IA1)
theorem exL_delta (g t z : Int32) : exL (setDeltaX g t z) LIA := exL_q (exL_up i_IA0) (exL_q (exL_up i_IA0) (exL_if (exL_s i_IA1) (exL_nB i_IA1)))
theorem exL_size (g t : Int32) : exL (sizeX g t) LIO := exL_q (exL_up i_IO) (exL_up i_IO)
theorem exL_add (V : XV) (k v : Int32) : exL (addDeviceX V k v) LIS := exL_q (exL_up i_IS0) (exL_q (exL_up i_IS0) (exL_if (exL_if (exL_n _) (exL_s i_IS1)) (exL_s i_IS1)))
theorem exL_charge (V : XV) (d z : Int32) : exL (chargeX V d z) LIA := exL_q (exL_up i_IA0) (exL_nR i_IA1)
theorem exL_window (V : XV) (d g t : Int32) : exL (windowX V d g t) LIA := exL_q (exL_up i_IA0) (exL_q (exL_nR i_IA1) (exL_nR i_IA1))
theorem exL_report (V : XV) (d : Int32) : exL (reportX V d) LIS := exL_q (exL_up i_IS0) (exL_if (exL_up i_IS0) (exL_s i_IS1))
theorem exL_dev (V : XV) (d : Int32) : exL (nDx V d) LIO := exL_up i_IO
theorem exL_cam (V : XV) (d : Int32) : exL (nCx V d) LIO := exL_up i_IO
theorem exL_begin (V : XV) (t k vs rep : Int32) : exL (beginX V t k vs rep) L3 := exL_q (exL_up i_30) (exL_q (exL_if (exL_n _) (exL_up i_30)) (exL_q (exL_nR i_31) (exL_q (exL_nR i_31) (exL_if (exL_n _) (exL_s i_32)))))
theorem exL_rules (V : XV) (q g s n th : Int32) : exL (rulesX V q g s n th) LIA := exL_q (exL_up i_IA0) (exL_q (exL_nR i_IA1) (exL_q (exL_nR i_IA1) (exL_q (exL_nR i_IA1) (exL_nR i_IA1))))
theorem exL_pass (h : Int32) : exL (nRx h 1 100) LZP := exL_nR i_P
def rmL_allows : Room := { frames := 8, cells := 2, slots := 12, locals := 154 }
set_option maxHeartbeats 4000000 in
set_option maxRecDepth 100000 in
theorem k_L_allows (l : Launch) (hfl : l.stackTraces = false) (D : va_G) (cy : Nat → ClassId) (a : Nat → Nat) (A : Nat → Prop) (X : va_W) (V : XV) {n m : Nat} (h : gJ V n m) (v k : Int32) : Met l yL_allows wsL_allows rmL_allows (va_Pc [.ref (a 0), .int v, .int k] (xPre D (tyC cy) A (cW cy a X V))) (va_Qi (fun (r : Int32) (u : XV) => r = wr (allowX v k) (V 1 v.toNatClampNeg) ∧ u = wU (allowX v k) (xs V 1 v.toNatClampNeg k) V) (fun u t => xPost D (tyC cy) A (cW cy a X u) t) A) 2 12 A := by
  have hk13 : Cond.classLink RL 13 xIO ∈ wsL_allows := by decide +kernel
  have hk16 : Cond.classLink RL 16 xIA ∈ wsL_allows := by decide +kernel
  have hn := gJ_n h
  have hm := gJ_m h
  refine x_metH (own := RL) (by decide) rfl rfl (Nat.le_of_ble_eq_true rfl) rfl ?_
  intro p e s m9 below meth c htab C hE
  refine x_aload_n (i := 0) C dL_allows_0 rfl rfl ?_
  refine x_iload_n (i := 1) C dL_allows_1 rfl rfl ?_
  refine x_iload_n (i := 2) C dL_allows_2 rfl rfl ?_
  refine x_callViK C hE (k_X3_allow l hfl D cy a A X V v k ) (cwV 2 C.2.2.2.2.1 gL_allows_X3_allow rfl rfl rfl (by decide +kernel) ⟨Nat.le_of_ble_eq_true rfl, Nat.le_of_ble_eq_true rfl⟩) 0 (cW_R cy a _ _) rfl rfl rfl rfl (Nat.le_of_ble_eq_true rfl) dL_allows_3 ⟨Nat.le_of_ble_eq_true rfl, Nat.le_of_ble_eq_true rfl⟩ (fun E hx H locs ls q9 ce hP hD hS hl hce hcv hcl => ?_) (fun r u hq9 => ?_)
  · have hk9 := exL_allow v k E hx
    simp only [LIA, List.mem_cons, List.not_mem_nil, or_false] at hk9
    rcases hk9 with rfl | rfl
    · refine x_hand C hE [] ⟨0, 6, 7, 13⟩ [⟨0, 6, 11, 16⟩] htab (fun z hz => absurd hz List.not_mem_nil) rfl (by decide) hk13 (by decide +kernel) rfl hP hD hS hl hce hcv hcl ?_
      refine x_astore_n (i := 3) C dL_allows_7 rfl (by decide) ?_
      refine x_ldc (v := (-2000000001)) C (by decide +kernel) dL_allows_8 ?_
      exact x_iret (σ := XV) (Wf := fun (u : XV) => cW cy a X u) (post := fun (r : Int32) (u : XV) => r = wr (allowX v k) (V 1 v.toNatClampNeg) ∧ u = wU (allowX v k) (xs V 1 v.toNatClampNeg k) V) (u := V) C dL_allows_10 ⟨Nat.le_of_ble_eq_true rfl, Nat.le_of_ble_eq_true rfl⟩ ⟨((wr_s hx).trans cdE_IO).symm, (wU_s hx).symm⟩
    · refine x_hand C hE [⟨0, 6, 7, 13⟩] ⟨0, 6, 11, 16⟩ [] htab (fun z hz => by cases List.mem_singleton.mp hz; exact ⟨by decide, xIO, hk13, by decide +kernel⟩) rfl (by decide) hk16 (by decide +kernel) rfl hP hD hS hl hce hcv hcl ?_
      refine x_astore_n (i := 3) C dL_allows_11 rfl (by decide) ?_
      refine x_ldc (v := (-2000000002)) C (by decide +kernel) dL_allows_12 ?_
      exact x_iret (σ := XV) (Wf := fun (u : XV) => cW cy a X u) (post := fun (r : Int32) (u : XV) => r = wr (allowX v k) (V 1 v.toNatClampNeg) ∧ u = wU (allowX v k) (xs V 1 v.toNatClampNeg k) V) (u := V) C dL_allows_14 ⟨Nat.le_of_ble_eq_true rfl, Nat.le_of_ble_eq_true rfl⟩ ⟨((wr_s hx).trans cdE_IA).symm, (wU_s hx).symm⟩
  · obtain ⟨h1, h2, h3⟩ := hq9
    rw [h2, h3]
    exact x_iret (σ := XV) (Wf := fun (u : XV) => cW cy a X u) (post := fun (r : Int32) (u : XV) => r = wr (allowX v k) (V 1 v.toNatClampNeg) ∧ u = wU (allowX v k) (xs V 1 v.toNatClampNeg k) V) (u := xs V 1 v.toNatClampNeg k) C dL_allows_6 ⟨Nat.le_of_ble_eq_true rfl, Nat.le_of_ble_eq_true rfl⟩ ⟨(wr_n h1).symm, (wU_n h1).symm⟩
def rmL_images : Room := { frames := 9, cells := 2, slots := 12, locals := 174 }
set_option maxHeartbeats 4000000 in
set_option maxRecDepth 100000 in
theorem k_L_images (l : Launch) (hfl : l.stackTraces = false) (D : va_G) (cy : Nat → ClassId) (a : Nat → Nat) (A : Nat → Prop) (X : va_W) (V : XV) {n m : Nat} (h : gJ V n m) (v z : Int32) : Met l yL_images wsL_images rmL_images (va_Pc [.ref (a 0), .int v, .int z] (xPre D (tyC cy) A (cW cy a X V))) (va_Qi (fun (r : Int32) (u : XV) => r = wr (setImageX v z) (V 5 v.toNatClampNeg) ∧ u = wU (setImageX v z) (measV (xs V 5 v.toNatClampNeg z)) V) (fun u t => xPost D (tyC cy) A (cW cy a X u) t) A) 2 12 A := by
  have hk13 : Cond.classLink RL 13 xIO ∈ wsL_images := by decide +kernel
  have hk16 : Cond.classLink RL 16 xIA ∈ wsL_images := by decide +kernel
  have hn := gJ_n h
  have hm := gJ_m h
  refine x_metH (own := RL) (by decide) rfl rfl (Nat.le_of_ble_eq_true rfl) rfl ?_
  intro p e s m9 below meth c htab C hE
  refine x_aload_n (i := 0) C dL_images_0 rfl rfl ?_
  refine x_iload_n (i := 1) C dL_images_1 rfl rfl ?_
  refine x_iload_n (i := 2) C dL_images_2 rfl rfl ?_
  refine x_callViK C hE (k_X3_setImage l hfl D cy a A X V v z ) (cwV 2 C.2.2.2.2.1 gL_images_X3_setImage rfl rfl rfl (by decide +kernel) ⟨Nat.le_of_ble_eq_true rfl, Nat.le_of_ble_eq_true rfl⟩) 0 (cW_R cy a _ _) rfl rfl rfl rfl (Nat.le_of_ble_eq_true rfl) dL_images_3 ⟨Nat.le_of_ble_eq_true rfl, Nat.le_of_ble_eq_true rfl⟩ (fun E hx H locs ls q9 ce hP hD hS hl hce hcv hcl => ?_) (fun r u hq9 => ?_)
  · have hk9 := exL_image v z E hx
    simp only [LIA, List.mem_cons, List.not_mem_nil, or_false] at hk9
    rcases hk9 with rfl | rfl
    · refine x_hand C hE [] ⟨0, 6, 7, 13⟩ [⟨0, 6, 11, 16⟩] htab (fun z hz => absurd hz List.not_mem_nil) rfl (by decide) hk13 (by decide +kernel) rfl hP hD hS hl hce hcv hcl ?_
      refine x_astore_n (i := 3) C dL_images_7 rfl (by decide) ?_
      refine x_ldc (v := (-2000000001)) C (by decide +kernel) dL_images_8 ?_
      exact x_iret (σ := XV) (Wf := fun (u : XV) => cW cy a X u) (post := fun (r : Int32) (u : XV) => r = wr (setImageX v z) (V 5 v.toNatClampNeg) ∧ u = wU (setImageX v z) (measV (xs V 5 v.toNatClampNeg z)) V) (u := V) C dL_images_10 ⟨Nat.le_of_ble_eq_true rfl, Nat.le_of_ble_eq_true rfl⟩ ⟨((wr_s hx).trans cdE_IO).symm, (wU_s hx).symm⟩
    · refine x_hand C hE [⟨0, 6, 7, 13⟩] ⟨0, 6, 11, 16⟩ [] htab (fun z hz => by cases List.mem_singleton.mp hz; exact ⟨by decide, xIO, hk13, by decide +kernel⟩) rfl (by decide) hk16 (by decide +kernel) rfl hP hD hS hl hce hcv hcl ?_
      refine x_astore_n (i := 3) C dL_images_11 rfl (by decide) ?_
      refine x_ldc (v := (-2000000002)) C (by decide +kernel) dL_images_12 ?_
      exact x_iret (σ := XV) (Wf := fun (u : XV) => cW cy a X u) (post := fun (r : Int32) (u : XV) => r = wr (setImageX v z) (V 5 v.toNatClampNeg) ∧ u = wU (setImageX v z) (measV (xs V 5 v.toNatClampNeg z)) V) (u := V) C dL_images_14 ⟨Nat.le_of_ble_eq_true rfl, Nat.le_of_ble_eq_true rfl⟩ ⟨((wr_s hx).trans cdE_IA).symm, (wU_s hx).symm⟩
  · obtain ⟨h1, h2, h3⟩ := hq9
    rw [h2, h3]
    exact x_iret (σ := XV) (Wf := fun (u : XV) => cW cy a X u) (post := fun (r : Int32) (u : XV) => r = wr (setImageX v z) (V 5 v.toNatClampNeg) ∧ u = wU (setImageX v z) (measV (xs V 5 v.toNatClampNeg z)) V) (u := measV (xs V 5 v.toNatClampNeg z)) C dL_images_6 ⟨Nat.le_of_ble_eq_true rfl, Nat.le_of_ble_eq_true rfl⟩ ⟨(wr_n h1).symm, (wU_n h1).symm⟩
def rmL_deltas : Room := { frames := 9, cells := 3, slots := 18, locals := 174 }
set_option maxHeartbeats 4000000 in
set_option maxRecDepth 100000 in
theorem k_L_deltas (l : Launch) (hfl : l.stackTraces = false) (D : va_G) (cy : Nat → ClassId) (a : Nat → Nat) (A : Nat → Prop) (X : va_W) (V : XV) {n m : Nat} (h : gJ V n m) (g t z : Int32) : Met l yL_deltas wsL_deltas rmL_deltas (va_Pc [.ref (a 0), .int g, .int t, .int z] (xPre D (tyC cy) A (cW cy a X V))) (va_Qi (fun (r : Int32) (u : XV) => r = wr (setDeltaX g t z) (V (25 + g.toNatClampNeg) t.toNatClampNeg) ∧ u = wU (setDeltaX g t z) (measV (xs V (25 + g.toNatClampNeg) t.toNatClampNeg z)) V) (fun u t => xPost D (tyC cy) A (cW cy a X u) t) A) 3 18 A := by
  have hk13 : Cond.classLink RL 13 xIO ∈ wsL_deltas := by decide +kernel
  have hk16 : Cond.classLink RL 16 xIA ∈ wsL_deltas := by decide +kernel
  have hn := gJ_n h
  have hm := gJ_m h
  refine x_metH (own := RL) (by decide) rfl rfl (Nat.le_of_ble_eq_true rfl) rfl ?_
  intro p e s m9 below meth c htab C hE
  refine x_aload_n (i := 0) C dL_deltas_0 rfl rfl ?_
  refine x_iload_n (i := 1) C dL_deltas_1 rfl rfl ?_
  refine x_iload_n (i := 2) C dL_deltas_2 rfl rfl ?_
  refine x_iload_n (i := 3) C dL_deltas_3 rfl rfl ?_
  refine x_callViK C hE (k_X3_setDelta l hfl D cy a A X V g t z ) (cwV 3 C.2.2.2.2.1 gL_deltas_X3_setDelta rfl rfl rfl (by decide +kernel) ⟨Nat.le_of_ble_eq_true rfl, Nat.le_of_ble_eq_true rfl⟩) 0 (cW_R cy a _ _) rfl rfl rfl rfl (Nat.le_of_ble_eq_true rfl) dL_deltas_4 ⟨Nat.le_of_ble_eq_true rfl, Nat.le_of_ble_eq_true rfl⟩ (fun E hx H locs ls q9 ce hP hD hS hl hce hcv hcl => ?_) (fun r u hq9 => ?_)
  · have hk9 := exL_delta g t z E hx
    simp only [LIA, List.mem_cons, List.not_mem_nil, or_false] at hk9
    rcases hk9 with rfl | rfl
    · refine x_hand C hE [] ⟨0, 7, 8, 13⟩ [⟨0, 7, 13, 16⟩] htab (fun z hz => absurd hz List.not_mem_nil) rfl (by decide) hk13 (by decide +kernel) rfl hP hD hS hl hce hcv hcl ?_
      refine x_astore (i := 4) C dL_deltas_8 (by decide) ?_
      refine x_ldc (v := (-2000000001)) C (by decide +kernel) dL_deltas_10 ?_
      exact x_iret (σ := XV) (Wf := fun (u : XV) => cW cy a X u) (post := fun (r : Int32) (u : XV) => r = wr (setDeltaX g t z) (V (25 + g.toNatClampNeg) t.toNatClampNeg) ∧ u = wU (setDeltaX g t z) (measV (xs V (25 + g.toNatClampNeg) t.toNatClampNeg z)) V) (u := V) C dL_deltas_12 ⟨Nat.le_of_ble_eq_true rfl, Nat.le_of_ble_eq_true rfl⟩ ⟨((wr_s hx).trans cdE_IO).symm, (wU_s hx).symm⟩
    · refine x_hand C hE [⟨0, 7, 8, 13⟩] ⟨0, 7, 13, 16⟩ [] htab (fun z hz => by cases List.mem_singleton.mp hz; exact ⟨by decide, xIO, hk13, by decide +kernel⟩) rfl (by decide) hk16 (by decide +kernel) rfl hP hD hS hl hce hcv hcl ?_
      refine x_astore (i := 4) C dL_deltas_13 (by decide) ?_
      refine x_ldc (v := (-2000000002)) C (by decide +kernel) dL_deltas_15 ?_
      exact x_iret (σ := XV) (Wf := fun (u : XV) => cW cy a X u) (post := fun (r : Int32) (u : XV) => r = wr (setDeltaX g t z) (V (25 + g.toNatClampNeg) t.toNatClampNeg) ∧ u = wU (setDeltaX g t z) (measV (xs V (25 + g.toNatClampNeg) t.toNatClampNeg z)) V) (u := V) C dL_deltas_17 ⟨Nat.le_of_ble_eq_true rfl, Nat.le_of_ble_eq_true rfl⟩ ⟨((wr_s hx).trans cdE_IA).symm, (wU_s hx).symm⟩
  · obtain ⟨h1, h2, h3⟩ := hq9
    rw [h2, h3]
    exact x_iret (σ := XV) (Wf := fun (u : XV) => cW cy a X u) (post := fun (r : Int32) (u : XV) => r = wr (setDeltaX g t z) (V (25 + g.toNatClampNeg) t.toNatClampNeg) ∧ u = wU (setDeltaX g t z) (measV (xs V (25 + g.toNatClampNeg) t.toNatClampNeg z)) V) (u := measV (xs V (25 + g.toNatClampNeg) t.toNatClampNeg z)) C dL_deltas_7 ⟨Nat.le_of_ble_eq_true rfl, Nat.le_of_ble_eq_true rfl⟩ ⟨(wr_n h1).symm, (wU_n h1).symm⟩
def rmL_size : Room := { frames := 8, cells := 2, slots := 12, locals := 152 }
set_option maxHeartbeats 4000000 in
set_option maxRecDepth 100000 in
theorem k_L_size (l : Launch) (hfl : l.stackTraces = false) (D : va_G) (cy : Nat → ClassId) (a : Nat → Nat) (A : Nat → Prop) (X : va_W) (V : XV) {n m : Nat} (h : gJ V n m) (g t : Int32) : Met l yL_size wsL_size rmL_size (va_Pc [.ref (a 0), .int g, .int t] (xPre D (tyC cy) A (cW cy a X V))) (va_Qi (fun (r : Int32) (u : XV) => r = wr (sizeX g t) (lbI V g t) ∧ u = wU (sizeX g t) (V) V) (fun u t => xPost D (tyC cy) A (cW cy a X u) t) A) 2 12 A := by
  have hk13 : Cond.classLink RL 13 xIO ∈ wsL_size := by decide +kernel
  have hn := gJ_n h
  have hm := gJ_m h
  refine x_metH (own := RL) (by decide) rfl rfl (Nat.le_of_ble_eq_true rfl) rfl ?_
  intro p e s m9 below meth c htab C hE
  refine x_aload_n (i := 0) C dL_size_0 rfl rfl ?_
  refine x_iload_n (i := 1) C dL_size_1 rfl rfl ?_
  refine x_iload_n (i := 2) C dL_size_2 rfl rfl ?_
  refine x_callViK C hE (k_X3_size l hfl D cy a A X V g t ) (cwV 2 C.2.2.2.2.1 gL_size_X3_size rfl rfl rfl (by decide +kernel) ⟨Nat.le_of_ble_eq_true rfl, Nat.le_of_ble_eq_true rfl⟩) 0 (cW_R cy a _ _) rfl rfl rfl rfl (Nat.le_of_ble_eq_true rfl) dL_size_3 ⟨Nat.le_of_ble_eq_true rfl, Nat.le_of_ble_eq_true rfl⟩ (fun E hx H locs ls q9 ce hP hD hS hl hce hcv hcl => ?_) (fun r u hq9 => ?_)
  · have hk9 := exL_size g t E hx
    simp only [LIO, List.mem_cons, List.not_mem_nil, or_false] at hk9
    obtain rfl := hk9
    refine x_hand C hE [] ⟨0, 6, 7, 13⟩ [] htab (fun z hz => absurd hz List.not_mem_nil) rfl (by decide) hk13 (by decide +kernel) rfl hP hD hS hl hce hcv hcl ?_
    refine x_astore_n (i := 3) C dL_size_7 rfl (by decide) ?_
    refine x_ldc (v := (-2000000001)) C (by decide +kernel) dL_size_8 ?_
    exact x_iret (σ := XV) (Wf := fun (u : XV) => cW cy a X u) (post := fun (r : Int32) (u : XV) => r = wr (sizeX g t) (lbI V g t) ∧ u = wU (sizeX g t) (V) V) (u := V) C dL_size_10 ⟨Nat.le_of_ble_eq_true rfl, Nat.le_of_ble_eq_true rfl⟩ ⟨((wr_s hx).trans cdE_IO).symm, (wU_s hx).symm⟩
  · obtain ⟨h1, h2, h3⟩ := hq9
    rw [h2, h3]
    exact x_iret (σ := XV) (Wf := fun (u : XV) => cW cy a X u) (post := fun (r : Int32) (u : XV) => r = wr (sizeX g t) (lbI V g t) ∧ u = wU (sizeX g t) (V) V) (u := V) C dL_size_6 ⟨Nat.le_of_ble_eq_true rfl, Nat.le_of_ble_eq_true rfl⟩ ⟨(wr_n h1).symm, (wU_n h1).symm⟩
def rmL_byWays : Room := { frames := 12, cells := 2, slots := 12, locals := 337 }
set_option maxHeartbeats 4000000 in
set_option maxRecDepth 100000 in
theorem k_L_byWays (l : Launch) (hfl : l.stackTraces = false) (D : va_G) (cy : Nat → ClassId) (a : Nat → Nat) (A : Nat → Prop) (X : va_W) (V : XV) {n m : Nat} (h : gJ V n m) (g t : Int32) : Met l yL_byWays wsL_byWays rmL_byWays (va_Pc [.ref (a 0), .int g, .int t] (xPre D (tyC cy) A (cW cy a X V))) (va_Qi (fun (r : Int32) (u : XV) => r = wr (sizeX g t) (awI V g.toNatClampNeg t.toNatClampNeg) ∧ u = wU (sizeX g t) (V) V) (fun u t => xPost D (tyC cy) A (cW cy a X u) t) A) 2 12 A := by
  have hk13 : Cond.classLink RL 13 xIO ∈ wsL_byWays := by decide +kernel
  have hn := gJ_n h
  have hm := gJ_m h
  refine x_metH (own := RL) (by decide) rfl rfl (Nat.le_of_ble_eq_true rfl) rfl ?_
  intro p e s m9 below meth c htab C hE
  refine x_aload_n (i := 0) C dL_byWays_0 rfl rfl ?_
  refine x_iload_n (i := 1) C dL_byWays_1 rfl rfl ?_
  refine x_iload_n (i := 2) C dL_byWays_2 rfl rfl ?_
  refine x_callViK C hE (k_X3_sizeByWays l hfl D cy a A X V g t ) (cwV 2 C.2.2.2.2.1 gL_byWays_X3_sizeByWays rfl rfl rfl (by decide +kernel) ⟨Nat.le_of_ble_eq_true rfl, Nat.le_of_ble_eq_true rfl⟩) 0 (cW_R cy a _ _) rfl rfl rfl rfl (Nat.le_of_ble_eq_true rfl) dL_byWays_3 ⟨Nat.le_of_ble_eq_true rfl, Nat.le_of_ble_eq_true rfl⟩ (fun E hx H locs ls q9 ce hP hD hS hl hce hcv hcl => ?_) (fun r u hq9 => ?_)
  · have hk9 := exL_size g t E hx
    simp only [LIO, List.mem_cons, List.not_mem_nil, or_false] at hk9
    obtain rfl := hk9
    refine x_hand C hE [] ⟨0, 6, 7, 13⟩ [] htab (fun z hz => absurd hz List.not_mem_nil) rfl (by decide) hk13 (by decide +kernel) rfl hP hD hS hl hce hcv hcl ?_
    refine x_astore_n (i := 3) C dL_byWays_7 rfl (by decide) ?_
    refine x_ldc (v := (-2000000001)) C (by decide +kernel) dL_byWays_8 ?_
    exact x_iret (σ := XV) (Wf := fun (u : XV) => cW cy a X u) (post := fun (r : Int32) (u : XV) => r = wr (sizeX g t) (awI V g.toNatClampNeg t.toNatClampNeg) ∧ u = wU (sizeX g t) (V) V) (u := V) C dL_byWays_10 ⟨Nat.le_of_ble_eq_true rfl, Nat.le_of_ble_eq_true rfl⟩ ⟨((wr_s hx).trans cdE_IO).symm, (wU_s hx).symm⟩
  · obtain ⟨h1, h2, h3⟩ := hq9
    rw [h2, h3]
    exact x_iret (σ := XV) (Wf := fun (u : XV) => cW cy a X u) (post := fun (r : Int32) (u : XV) => r = wr (sizeX g t) (awI V g.toNatClampNeg t.toNatClampNeg) ∧ u = wU (sizeX g t) (V) V) (u := V) C dL_byWays_6 ⟨Nat.le_of_ble_eq_true rfl, Nat.le_of_ble_eq_true rfl⟩ ⟨(wr_n h1).symm, (wU_n h1).symm⟩
def rmL_adds : Room := { frames := 8, cells := 2, slots := 12, locals := 152 }
set_option maxHeartbeats 4000000 in
set_option maxRecDepth 100000 in
theorem k_L_adds (l : Launch) (hfl : l.stackTraces = false) (D : va_G) (cy : Nat → ClassId) (a : Nat → Nat) (A : Nat → Prop) (X : va_W) (V : XV) {n m : Nat} (h : gJ V n m) (k v : Int32) : Met l yL_adds wsL_adds rmL_adds (va_Pc [.ref (a 0), .int k, .int v] (xPre D (tyC cy) A (cW cy a X V))) (va_Qi (fun (r : Int32) (u : XV) => r = wr (addDeviceX V k v) (addV V n k v (9 + n) 0) ∧ u = wU (addDeviceX V k v) (addV V n k v) V) (fun u t => xPost D (tyC cy) A (cW cy a X u) t) A) 2 12 A := by
  have hk13 : Cond.classLink RL 13 xIO ∈ wsL_adds := by decide +kernel
  have hk35 : Cond.classLink RL 35 xIS ∈ wsL_adds := by decide +kernel
  have hn := gJ_n h
  have hm := gJ_m h
  refine x_metH (own := RL) (by decide) rfl rfl (Nat.le_of_ble_eq_true rfl) rfl ?_
  intro p e s m9 below meth c htab C hE
  refine x_aload_n (i := 0) C dL_adds_0 rfl rfl ?_
  refine x_iload_n (i := 1) C dL_adds_1 rfl rfl ?_
  refine x_iload_n (i := 2) C dL_adds_2 rfl rfl ?_
  refine x_callViK C hE (k_X3_addDevice l hfl D cy a A X V k v hn.1 hn.2.1) (cwV 2 C.2.2.2.2.1 gL_adds_X3_addDevice rfl rfl rfl (by decide +kernel) ⟨Nat.le_of_ble_eq_true rfl, Nat.le_of_ble_eq_true rfl⟩) 0 (cW_R cy a _ _) rfl rfl rfl rfl (Nat.le_of_ble_eq_true rfl) dL_adds_3 ⟨Nat.le_of_ble_eq_true rfl, Nat.le_of_ble_eq_true rfl⟩ (fun E hx H locs ls q9 ce hP hD hS hl hce hcv hcl => ?_) (fun r u hq9 => ?_)
  · have hk9 := exL_add V k v E hx
    simp only [LIS, List.mem_cons, List.not_mem_nil, or_false] at hk9
    rcases hk9 with rfl | rfl
    · refine x_hand C hE [] ⟨0, 6, 7, 13⟩ [⟨0, 6, 11, 35⟩] htab (fun z hz => absurd hz List.not_mem_nil) rfl (by decide) hk13 (by decide +kernel) rfl hP hD hS hl hce hcv hcl ?_
      refine x_astore_n (i := 3) C dL_adds_7 rfl (by decide) ?_
      refine x_ldc (v := (-2000000001)) C (by decide +kernel) dL_adds_8 ?_
      exact x_iret (σ := XV) (Wf := fun (u : XV) => cW cy a X u) (post := fun (r : Int32) (u : XV) => r = wr (addDeviceX V k v) (addV V n k v (9 + n) 0) ∧ u = wU (addDeviceX V k v) (addV V n k v) V) (u := V) C dL_adds_10 ⟨Nat.le_of_ble_eq_true rfl, Nat.le_of_ble_eq_true rfl⟩ ⟨((wr_s hx).trans cdE_IO).symm, (wU_s hx).symm⟩
    · refine x_hand C hE [⟨0, 6, 7, 13⟩] ⟨0, 6, 11, 35⟩ [] htab (fun z hz => by cases List.mem_singleton.mp hz; exact ⟨by decide, xIO, hk13, by decide +kernel⟩) rfl (by decide) hk35 (by decide +kernel) rfl hP hD hS hl hce hcv hcl ?_
      refine x_astore_n (i := 3) C dL_adds_11 rfl (by decide) ?_
      refine x_ldc (v := (-2000000003)) C (by decide +kernel) dL_adds_12 ?_
      exact x_iret (σ := XV) (Wf := fun (u : XV) => cW cy a X u) (post := fun (r : Int32) (u : XV) => r = wr (addDeviceX V k v) (addV V n k v (9 + n) 0) ∧ u = wU (addDeviceX V k v) (addV V n k v) V) (u := V) C dL_adds_14 ⟨Nat.le_of_ble_eq_true rfl, Nat.le_of_ble_eq_true rfl⟩ ⟨((wr_s hx).trans cdE_IS).symm, (wU_s hx).symm⟩
  · obtain ⟨h1, h2, h3⟩ := hq9
    rw [h2, h3]
    exact x_iret (σ := XV) (Wf := fun (u : XV) => cW cy a X u) (post := fun (r : Int32) (u : XV) => r = wr (addDeviceX V k v) (addV V n k v (9 + n) 0) ∧ u = wU (addDeviceX V k v) (addV V n k v) V) (u := addV V n k v) C dL_adds_6 ⟨Nat.le_of_ble_eq_true rfl, Nat.le_of_ble_eq_true rfl⟩ ⟨(wr_n h1).symm, (wU_n h1).symm⟩
def rmL_charges : Room := { frames := 8, cells := 2, slots := 12, locals := 154 }
set_option maxHeartbeats 4000000 in
set_option maxRecDepth 100000 in
theorem k_L_charges (l : Launch) (hfl : l.stackTraces = false) (D : va_G) (cy : Nat → ClassId) (a : Nat → Nat) (A : Nat → Prop) (X : va_W) (V : XV) {n m : Nat} (h : gJ V n m) (d z : Int32) : Met l yL_charges wsL_charges rmL_charges (va_Pc [.ref (a 0), .int d, .int z] (xPre D (tyC cy) A (cW cy a X V))) (va_Qi (fun (r : Int32) (u : XV) => r = wr (chargeX V d z) (V (9 + d.toNatClampNeg) 3) ∧ u = wU (chargeX V d z) (xs V (9 + d.toNatClampNeg) 3 z) V) (fun u t => xPost D (tyC cy) A (cW cy a X u) t) A) 2 12 A := by
  have hk13 : Cond.classLink RL 13 xIO ∈ wsL_charges := by decide +kernel
  have hk16 : Cond.classLink RL 16 xIA ∈ wsL_charges := by decide +kernel
  have hn := gJ_n h
  have hm := gJ_m h
  refine x_metH (own := RL) (by decide) rfl rfl (Nat.le_of_ble_eq_true rfl) rfl ?_
  intro p e s m9 below meth c htab C hE
  refine x_aload_n (i := 0) C dL_charges_0 rfl rfl ?_
  refine x_iload_n (i := 1) C dL_charges_1 rfl rfl ?_
  refine x_iload_n (i := 2) C dL_charges_2 rfl rfl ?_
  refine x_callViK C hE (k_X3_charge l hfl D cy a A X V d z hn.2.2) (cwV 2 C.2.2.2.2.1 gL_charges_X3_charge rfl rfl rfl (by decide +kernel) ⟨Nat.le_of_ble_eq_true rfl, Nat.le_of_ble_eq_true rfl⟩) 0 (cW_R cy a _ _) rfl rfl rfl rfl (Nat.le_of_ble_eq_true rfl) dL_charges_3 ⟨Nat.le_of_ble_eq_true rfl, Nat.le_of_ble_eq_true rfl⟩ (fun E hx H locs ls q9 ce hP hD hS hl hce hcv hcl => ?_) (fun r u hq9 => ?_)
  · have hk9 := exL_charge V d z E hx
    simp only [LIA, List.mem_cons, List.not_mem_nil, or_false] at hk9
    rcases hk9 with rfl | rfl
    · refine x_hand C hE [] ⟨0, 6, 7, 13⟩ [⟨0, 6, 11, 16⟩] htab (fun z hz => absurd hz List.not_mem_nil) rfl (by decide) hk13 (by decide +kernel) rfl hP hD hS hl hce hcv hcl ?_
      refine x_astore_n (i := 3) C dL_charges_7 rfl (by decide) ?_
      refine x_ldc (v := (-2000000001)) C (by decide +kernel) dL_charges_8 ?_
      exact x_iret (σ := XV) (Wf := fun (u : XV) => cW cy a X u) (post := fun (r : Int32) (u : XV) => r = wr (chargeX V d z) (V (9 + d.toNatClampNeg) 3) ∧ u = wU (chargeX V d z) (xs V (9 + d.toNatClampNeg) 3 z) V) (u := V) C dL_charges_10 ⟨Nat.le_of_ble_eq_true rfl, Nat.le_of_ble_eq_true rfl⟩ ⟨((wr_s hx).trans cdE_IO).symm, (wU_s hx).symm⟩
    · refine x_hand C hE [⟨0, 6, 7, 13⟩] ⟨0, 6, 11, 16⟩ [] htab (fun z hz => by cases List.mem_singleton.mp hz; exact ⟨by decide, xIO, hk13, by decide +kernel⟩) rfl (by decide) hk16 (by decide +kernel) rfl hP hD hS hl hce hcv hcl ?_
      refine x_astore_n (i := 3) C dL_charges_11 rfl (by decide) ?_
      refine x_ldc (v := (-2000000002)) C (by decide +kernel) dL_charges_12 ?_
      exact x_iret (σ := XV) (Wf := fun (u : XV) => cW cy a X u) (post := fun (r : Int32) (u : XV) => r = wr (chargeX V d z) (V (9 + d.toNatClampNeg) 3) ∧ u = wU (chargeX V d z) (xs V (9 + d.toNatClampNeg) 3 z) V) (u := V) C dL_charges_14 ⟨Nat.le_of_ble_eq_true rfl, Nat.le_of_ble_eq_true rfl⟩ ⟨((wr_s hx).trans cdE_IA).symm, (wU_s hx).symm⟩
  · obtain ⟨h1, h2, h3⟩ := hq9
    rw [h2, h3]
    exact x_iret (σ := XV) (Wf := fun (u : XV) => cW cy a X u) (post := fun (r : Int32) (u : XV) => r = wr (chargeX V d z) (V (9 + d.toNatClampNeg) 3) ∧ u = wU (chargeX V d z) (xs V (9 + d.toNatClampNeg) 3 z) V) (u := xs V (9 + d.toNatClampNeg) 3 z) C dL_charges_6 ⟨Nat.le_of_ble_eq_true rfl, Nat.le_of_ble_eq_true rfl⟩ ⟨(wr_n h1).symm, (wU_n h1).symm⟩
def rmL_windows : Room := { frames := 8, cells := 3, slots := 18, locals := 154 }
set_option maxHeartbeats 4000000 in
set_option maxRecDepth 100000 in
theorem k_L_windows (l : Launch) (hfl : l.stackTraces = false) (D : va_G) (cy : Nat → ClassId) (a : Nat → Nat) (A : Nat → Prop) (X : va_W) (V : XV) {n m : Nat} (h : gJ V n m) (d g t : Int32) : Met l yL_windows wsL_windows rmL_windows (va_Pc [.ref (a 0), .int d, .int g, .int t] (xPre D (tyC cy) A (cW cy a X V))) (va_Qi (fun (r : Int32) (u : XV) => r = wr (windowX V d g t) (0) ∧ u = wU (windowX V d g t) (xs (xs V (9 + d.toNatClampNeg) 4 g) (9 + d.toNatClampNeg) 5 t) V) (fun u t => xPost D (tyC cy) A (cW cy a X u) t) A) 3 18 A := by
  have hk13 : Cond.classLink RL 13 xIO ∈ wsL_windows := by decide +kernel
  have hk16 : Cond.classLink RL 16 xIA ∈ wsL_windows := by decide +kernel
  have hn := gJ_n h
  have hm := gJ_m h
  refine x_metH (own := RL) (by decide) rfl rfl (Nat.le_of_ble_eq_true rfl) rfl ?_
  intro p e s m9 below meth c htab C hE
  refine x_aload_n (i := 0) C dL_windows_0 rfl rfl ?_
  refine x_iload_n (i := 1) C dL_windows_1 rfl rfl ?_
  refine x_iload_n (i := 2) C dL_windows_2 rfl rfl ?_
  refine x_iload_n (i := 3) C dL_windows_3 rfl rfl ?_
  refine x_callVvK C hE (k_X3_setWindow l hfl D cy a A X V d g t hn.2.2) (cwV 3 C.2.2.2.2.1 gL_windows_X3_setWindow rfl rfl rfl (by decide +kernel) ⟨Nat.le_of_ble_eq_true rfl, Nat.le_of_ble_eq_true rfl⟩) 0 (cW_R cy a _ _) rfl rfl rfl rfl (Nat.le_of_ble_eq_true rfl) dL_windows_4 ⟨Nat.le_of_ble_eq_true rfl, Nat.le_of_ble_eq_true rfl⟩ (fun E hx H locs ls q9 ce hP hD hS hl hce hcv hcl => ?_) (fun u hq9 => ?_)
  · have hk9 := exL_window V d g t E hx
    simp only [LIA, List.mem_cons, List.not_mem_nil, or_false] at hk9
    rcases hk9 with rfl | rfl
    · refine x_hand C hE [] ⟨0, 8, 9, 13⟩ [⟨0, 8, 14, 16⟩] htab (fun z hz => absurd hz List.not_mem_nil) rfl (by decide) hk13 (by decide +kernel) rfl hP hD hS hl hce hcv hcl ?_
      refine x_astore (i := 4) C dL_windows_9 (by decide) ?_
      refine x_ldc (v := (-2000000001)) C (by decide +kernel) dL_windows_11 ?_
      exact x_iret (σ := XV) (Wf := fun (u : XV) => cW cy a X u) (post := fun (r : Int32) (u : XV) => r = wr (windowX V d g t) (0) ∧ u = wU (windowX V d g t) (xs (xs V (9 + d.toNatClampNeg) 4 g) (9 + d.toNatClampNeg) 5 t) V) (u := V) C dL_windows_13 ⟨Nat.le_of_ble_eq_true rfl, Nat.le_of_ble_eq_true rfl⟩ ⟨((wr_s hx).trans cdE_IO).symm, (wU_s hx).symm⟩
    · refine x_hand C hE [⟨0, 8, 9, 13⟩] ⟨0, 8, 14, 16⟩ [] htab (fun z hz => by cases List.mem_singleton.mp hz; exact ⟨by decide, xIO, hk13, by decide +kernel⟩) rfl (by decide) hk16 (by decide +kernel) rfl hP hD hS hl hce hcv hcl ?_
      refine x_astore (i := 4) C dL_windows_14 (by decide) ?_
      refine x_ldc (v := (-2000000002)) C (by decide +kernel) dL_windows_16 ?_
      exact x_iret (σ := XV) (Wf := fun (u : XV) => cW cy a X u) (post := fun (r : Int32) (u : XV) => r = wr (windowX V d g t) (0) ∧ u = wU (windowX V d g t) (xs (xs V (9 + d.toNatClampNeg) 4 g) (9 + d.toNatClampNeg) 5 t) V) (u := V) C dL_windows_18 ⟨Nat.le_of_ble_eq_true rfl, Nat.le_of_ble_eq_true rfl⟩ ⟨((wr_s hx).trans cdE_IA).symm, (wU_s hx).symm⟩
  · obtain ⟨h1, h3⟩ := hq9
    rw [h3]
    refine x_iconst (v := 0) C dL_windows_7 (by decide) ?_
    exact x_iret (σ := XV) (Wf := fun (u : XV) => cW cy a X u) (post := fun (r : Int32) (u : XV) => r = wr (windowX V d g t) (0) ∧ u = wU (windowX V d g t) (xs (xs V (9 + d.toNatClampNeg) 4 g) (9 + d.toNatClampNeg) 5 t) V) (u := xs (xs V (9 + d.toNatClampNeg) 4 g) (9 + d.toNatClampNeg) 5 t) C dL_windows_8 ⟨Nat.le_of_ble_eq_true rfl, Nat.le_of_ble_eq_true rfl⟩ ⟨(wr_n h1).symm, (wU_n h1).symm⟩
def rmL_reports : Room := { frames := 9, cells := 3, slots := 18, locals := 174 }
set_option maxHeartbeats 4000000 in
set_option maxRecDepth 100000 in
theorem k_L_reports (l : Launch) (hfl : l.stackTraces = false) (D : va_G) (cy : Nat → ClassId) (a : Nat → Nat) (A : Nat → Prop) (X : va_W) (V : XV) {n m : Nat} (h : gJ V n m) (d z : Int32) : Met l yL_reports wsL_reports rmL_reports (va_Pc [.ref (a 0), .int d, .int z] (xPre D (tyC cy) A (cW cy a X V))) (va_Qi (fun (r : Int32) (u : XV) => r = wr (reportX V d) (reportV V (9 + d.toNatClampNeg) (19 + (V (9 + d.toNatClampNeg) 7).toNatClampNeg) z (9 + d.toNatClampNeg) 2) ∧ u = wU (reportX V d) (reportV V (9 + d.toNatClampNeg) (19 + (V (9 + d.toNatClampNeg) 7).toNatClampNeg) z) V) (fun u t => xPost D (tyC cy) A (cW cy a X u) t) A) 3 18 A := by
  have hk13 : Cond.classLink RL 13 xIO ∈ wsL_reports := by decide +kernel
  have hk35 : Cond.classLink RL 35 xIS ∈ wsL_reports := by decide +kernel
  have hn := gJ_n h
  have hm := gJ_m h
  refine x_metH (own := RL) (by decide) rfl rfl (Nat.le_of_ble_eq_true rfl) rfl ?_
  intro p e s m9 below meth c htab C hE
  refine x_aload_n (i := 0) C dL_reports_0 rfl rfl ?_
  refine x_iload_n (i := 1) C dL_reports_1 rfl rfl ?_
  refine x_iload_n (i := 2) C dL_reports_2 rfl rfl ?_
  refine x_callViK C hE (k_X3_report l hfl D cy a A X V d z hn.2.2 hm.2.2) (cwV 2 C.2.2.2.2.1 gL_reports_X3_report rfl rfl rfl (by decide +kernel) ⟨Nat.le_of_ble_eq_true rfl, Nat.le_of_ble_eq_true rfl⟩) 0 (cW_R cy a _ _) rfl rfl rfl rfl (Nat.le_of_ble_eq_true rfl) dL_reports_3 ⟨Nat.le_of_ble_eq_true rfl, Nat.le_of_ble_eq_true rfl⟩ (fun E hx H locs ls q9 ce hP hD hS hl hce hcv hcl => ?_) (fun r u hq9 => ?_)
  · have hk9 := exL_report V d E hx
    simp only [LIS, List.mem_cons, List.not_mem_nil, or_false] at hk9
    rcases hk9 with rfl | rfl
    · refine x_hand C hE [] ⟨0, 6, 7, 13⟩ [⟨0, 6, 11, 35⟩] htab (fun z hz => absurd hz List.not_mem_nil) rfl (by decide) hk13 (by decide +kernel) rfl hP hD hS hl hce hcv hcl ?_
      refine x_astore_n (i := 3) C dL_reports_7 rfl (by decide) ?_
      refine x_ldc (v := (-2000000001)) C (by decide +kernel) dL_reports_8 ?_
      exact x_iret (σ := XV) (Wf := fun (u : XV) => cW cy a X u) (post := fun (r : Int32) (u : XV) => r = wr (reportX V d) (reportV V (9 + d.toNatClampNeg) (19 + (V (9 + d.toNatClampNeg) 7).toNatClampNeg) z (9 + d.toNatClampNeg) 2) ∧ u = wU (reportX V d) (reportV V (9 + d.toNatClampNeg) (19 + (V (9 + d.toNatClampNeg) 7).toNatClampNeg) z) V) (u := V) C dL_reports_10 ⟨Nat.le_of_ble_eq_true rfl, Nat.le_of_ble_eq_true rfl⟩ ⟨((wr_s hx).trans cdE_IO).symm, (wU_s hx).symm⟩
    · refine x_hand C hE [⟨0, 6, 7, 13⟩] ⟨0, 6, 11, 35⟩ [] htab (fun z hz => by cases List.mem_singleton.mp hz; exact ⟨by decide, xIO, hk13, by decide +kernel⟩) rfl (by decide) hk35 (by decide +kernel) rfl hP hD hS hl hce hcv hcl ?_
      refine x_astore_n (i := 3) C dL_reports_11 rfl (by decide) ?_
      refine x_ldc (v := (-2000000003)) C (by decide +kernel) dL_reports_12 ?_
      exact x_iret (σ := XV) (Wf := fun (u : XV) => cW cy a X u) (post := fun (r : Int32) (u : XV) => r = wr (reportX V d) (reportV V (9 + d.toNatClampNeg) (19 + (V (9 + d.toNatClampNeg) 7).toNatClampNeg) z (9 + d.toNatClampNeg) 2) ∧ u = wU (reportX V d) (reportV V (9 + d.toNatClampNeg) (19 + (V (9 + d.toNatClampNeg) 7).toNatClampNeg) z) V) (u := V) C dL_reports_14 ⟨Nat.le_of_ble_eq_true rfl, Nat.le_of_ble_eq_true rfl⟩ ⟨((wr_s hx).trans cdE_IS).symm, (wU_s hx).symm⟩
  · obtain ⟨h1, h2, h3⟩ := hq9
    rw [h2, h3]
    exact x_iret (σ := XV) (Wf := fun (u : XV) => cW cy a X u) (post := fun (r : Int32) (u : XV) => r = wr (reportX V d) (reportV V (9 + d.toNatClampNeg) (19 + (V (9 + d.toNatClampNeg) 7).toNatClampNeg) z (9 + d.toNatClampNeg) 2) ∧ u = wU (reportX V d) (reportV V (9 + d.toNatClampNeg) (19 + (V (9 + d.toNatClampNeg) 7).toNatClampNeg) z) V) (u := reportV V (9 + d.toNatClampNeg) (19 + (V (9 + d.toNatClampNeg) 7).toNatClampNeg) z) C dL_reports_6 ⟨Nat.le_of_ble_eq_true rfl, Nat.le_of_ble_eq_true rfl⟩ ⟨(wr_n h1).symm, (wU_n h1).symm⟩
def rmL_state : Room := { frames := 8, cells := 1, slots := 6, locals := 153 }
set_option maxHeartbeats 4000000 in
set_option maxRecDepth 100000 in
theorem k_L_state (l : Launch) (hfl : l.stackTraces = false) (D : va_G) (cy : Nat → ClassId) (a : Nat → Nat) (A : Nat → Prop) (X : va_W) (V : XV) {n m : Nat} (h : gJ V n m) (d : Int32) : Met l yL_state wsL_state rmL_state (va_Pc [.ref (a 0), .int d] (xPre D (tyC cy) A (cW cy a X V))) (va_Qi (fun (r : Int32) (u : XV) => r = wr (nDx V d) (V (9 + d.toNatClampNeg) 6) ∧ u = wU (nDx V d) (V) V) (fun u t => xPost D (tyC cy) A (cW cy a X u) t) A) 1 6 A := by
  have hk13 : Cond.classLink RL 13 xIO ∈ wsL_state := by decide +kernel
  have hn := gJ_n h
  have hm := gJ_m h
  refine x_metH (own := RL) (by decide) rfl rfl (Nat.le_of_ble_eq_true rfl) rfl ?_
  intro p e s m9 below meth c htab C hE
  refine x_aload_n (i := 0) C dL_state_0 rfl rfl ?_
  refine x_iload_n (i := 1) C dL_state_1 rfl rfl ?_
  refine x_callViK C hE (k_X3_state l hfl D cy a A X V d hn.2.2) (cwV 1 C.2.2.2.2.1 gL_state_X3_state rfl rfl rfl (by decide +kernel) ⟨Nat.le_of_ble_eq_true rfl, Nat.le_of_ble_eq_true rfl⟩) 0 (cW_R cy a _ _) rfl rfl rfl rfl (Nat.le_of_ble_eq_true rfl) dL_state_2 ⟨Nat.le_of_ble_eq_true rfl, Nat.le_of_ble_eq_true rfl⟩ (fun E hx H locs ls q9 ce hP hD hS hl hce hcv hcl => ?_) (fun r u hq9 => ?_)
  · have hk9 := exL_dev V d E hx
    simp only [LIO, List.mem_cons, List.not_mem_nil, or_false] at hk9
    obtain rfl := hk9
    refine x_hand C hE [] ⟨0, 5, 6, 13⟩ [] htab (fun z hz => absurd hz List.not_mem_nil) rfl (by decide) hk13 (by decide +kernel) rfl hP hD hS hl hce hcv hcl ?_
    refine x_astore_n (i := 2) C dL_state_6 rfl (by decide) ?_
    refine x_ldc (v := (-2000000001)) C (by decide +kernel) dL_state_7 ?_
    exact x_iret (σ := XV) (Wf := fun (u : XV) => cW cy a X u) (post := fun (r : Int32) (u : XV) => r = wr (nDx V d) (V (9 + d.toNatClampNeg) 6) ∧ u = wU (nDx V d) (V) V) (u := V) C dL_state_9 ⟨Nat.le_of_ble_eq_true rfl, Nat.le_of_ble_eq_true rfl⟩ ⟨((wr_s hx).trans cdE_IO).symm, (wU_s hx).symm⟩
  · obtain ⟨h1, h2, h3⟩ := hq9
    rw [h2, h3]
    exact x_iret (σ := XV) (Wf := fun (u : XV) => cW cy a X u) (post := fun (r : Int32) (u : XV) => r = wr (nDx V d) (V (9 + d.toNatClampNeg) 6) ∧ u = wU (nDx V d) (V) V) (u := V) C dL_state_5 ⟨Nat.le_of_ble_eq_true rfl, Nat.le_of_ble_eq_true rfl⟩ ⟨(wr_n h1).symm, (wU_n h1).symm⟩
def rmL_version : Room := { frames := 8, cells := 1, slots := 6, locals := 153 }
set_option maxHeartbeats 4000000 in
set_option maxRecDepth 100000 in
theorem k_L_version (l : Launch) (hfl : l.stackTraces = false) (D : va_G) (cy : Nat → ClassId) (a : Nat → Nat) (A : Nat → Prop) (X : va_W) (V : XV) {n m : Nat} (h : gJ V n m) (d : Int32) : Met l yL_version wsL_version rmL_version (va_Pc [.ref (a 0), .int d] (xPre D (tyC cy) A (cW cy a X V))) (va_Qi (fun (r : Int32) (u : XV) => r = wr (nDx V d) (V (9 + d.toNatClampNeg) 2) ∧ u = wU (nDx V d) (V) V) (fun u t => xPost D (tyC cy) A (cW cy a X u) t) A) 1 6 A := by
  have hk13 : Cond.classLink RL 13 xIO ∈ wsL_version := by decide +kernel
  have hn := gJ_n h
  have hm := gJ_m h
  refine x_metH (own := RL) (by decide) rfl rfl (Nat.le_of_ble_eq_true rfl) rfl ?_
  intro p e s m9 below meth c htab C hE
  refine x_aload_n (i := 0) C dL_version_0 rfl rfl ?_
  refine x_iload_n (i := 1) C dL_version_1 rfl rfl ?_
  refine x_callViK C hE (k_X3_version l hfl D cy a A X V d hn.2.2) (cwV 1 C.2.2.2.2.1 gL_version_X3_version rfl rfl rfl (by decide +kernel) ⟨Nat.le_of_ble_eq_true rfl, Nat.le_of_ble_eq_true rfl⟩) 0 (cW_R cy a _ _) rfl rfl rfl rfl (Nat.le_of_ble_eq_true rfl) dL_version_2 ⟨Nat.le_of_ble_eq_true rfl, Nat.le_of_ble_eq_true rfl⟩ (fun E hx H locs ls q9 ce hP hD hS hl hce hcv hcl => ?_) (fun r u hq9 => ?_)
  · have hk9 := exL_dev V d E hx
    simp only [LIO, List.mem_cons, List.not_mem_nil, or_false] at hk9
    obtain rfl := hk9
    refine x_hand C hE [] ⟨0, 5, 6, 13⟩ [] htab (fun z hz => absurd hz List.not_mem_nil) rfl (by decide) hk13 (by decide +kernel) rfl hP hD hS hl hce hcv hcl ?_
    refine x_astore_n (i := 2) C dL_version_6 rfl (by decide) ?_
    refine x_ldc (v := (-2000000001)) C (by decide +kernel) dL_version_7 ?_
    exact x_iret (σ := XV) (Wf := fun (u : XV) => cW cy a X u) (post := fun (r : Int32) (u : XV) => r = wr (nDx V d) (V (9 + d.toNatClampNeg) 2) ∧ u = wU (nDx V d) (V) V) (u := V) C dL_version_9 ⟨Nat.le_of_ble_eq_true rfl, Nat.le_of_ble_eq_true rfl⟩ ⟨((wr_s hx).trans cdE_IO).symm, (wU_s hx).symm⟩
  · obtain ⟨h1, h2, h3⟩ := hq9
    rw [h2, h3]
    exact x_iret (σ := XV) (Wf := fun (u : XV) => cW cy a X u) (post := fun (r : Int32) (u : XV) => r = wr (nDx V d) (V (9 + d.toNatClampNeg) 2) ∧ u = wU (nDx V d) (V) V) (u := V) C dL_version_5 ⟨Nat.le_of_ble_eq_true rfl, Nat.le_of_ble_eq_true rfl⟩ ⟨(wr_n h1).symm, (wU_n h1).symm⟩
def rmL_campaign : Room := { frames := 8, cells := 1, slots := 6, locals := 153 }
set_option maxHeartbeats 4000000 in
set_option maxRecDepth 100000 in
theorem k_L_campaign (l : Launch) (hfl : l.stackTraces = false) (D : va_G) (cy : Nat → ClassId) (a : Nat → Nat) (A : Nat → Prop) (X : va_W) (V : XV) {n m : Nat} (h : gJ V n m) (d : Int32) : Met l yL_campaign wsL_campaign rmL_campaign (va_Pc [.ref (a 0), .int d] (xPre D (tyC cy) A (cW cy a X V))) (va_Qi (fun (r : Int32) (u : XV) => r = wr (nDx V d) (V (9 + d.toNatClampNeg) 7) ∧ u = wU (nDx V d) (V) V) (fun u t => xPost D (tyC cy) A (cW cy a X u) t) A) 1 6 A := by
  have hk13 : Cond.classLink RL 13 xIO ∈ wsL_campaign := by decide +kernel
  have hn := gJ_n h
  have hm := gJ_m h
  refine x_metH (own := RL) (by decide) rfl rfl (Nat.le_of_ble_eq_true rfl) rfl ?_
  intro p e s m9 below meth c htab C hE
  refine x_aload_n (i := 0) C dL_campaign_0 rfl rfl ?_
  refine x_iload_n (i := 1) C dL_campaign_1 rfl rfl ?_
  refine x_callViK C hE (k_X3_campaignOf l hfl D cy a A X V d hn.2.2) (cwV 1 C.2.2.2.2.1 gL_campaign_X3_campaignOf rfl rfl rfl (by decide +kernel) ⟨Nat.le_of_ble_eq_true rfl, Nat.le_of_ble_eq_true rfl⟩) 0 (cW_R cy a _ _) rfl rfl rfl rfl (Nat.le_of_ble_eq_true rfl) dL_campaign_2 ⟨Nat.le_of_ble_eq_true rfl, Nat.le_of_ble_eq_true rfl⟩ (fun E hx H locs ls q9 ce hP hD hS hl hce hcv hcl => ?_) (fun r u hq9 => ?_)
  · have hk9 := exL_dev V d E hx
    simp only [LIO, List.mem_cons, List.not_mem_nil, or_false] at hk9
    obtain rfl := hk9
    refine x_hand C hE [] ⟨0, 5, 6, 13⟩ [] htab (fun z hz => absurd hz List.not_mem_nil) rfl (by decide) hk13 (by decide +kernel) rfl hP hD hS hl hce hcv hcl ?_
    refine x_astore_n (i := 2) C dL_campaign_6 rfl (by decide) ?_
    refine x_ldc (v := (-2000000001)) C (by decide +kernel) dL_campaign_7 ?_
    exact x_iret (σ := XV) (Wf := fun (u : XV) => cW cy a X u) (post := fun (r : Int32) (u : XV) => r = wr (nDx V d) (V (9 + d.toNatClampNeg) 7) ∧ u = wU (nDx V d) (V) V) (u := V) C dL_campaign_9 ⟨Nat.le_of_ble_eq_true rfl, Nat.le_of_ble_eq_true rfl⟩ ⟨((wr_s hx).trans cdE_IO).symm, (wU_s hx).symm⟩
  · obtain ⟨h1, h2, h3⟩ := hq9
    rw [h2, h3]
    exact x_iret (σ := XV) (Wf := fun (u : XV) => cW cy a X u) (post := fun (r : Int32) (u : XV) => r = wr (nDx V d) (V (9 + d.toNatClampNeg) 7) ∧ u = wU (nDx V d) (V) V) (u := V) C dL_campaign_5 ⟨Nat.le_of_ble_eq_true rfl, Nat.le_of_ble_eq_true rfl⟩ ⟨(wr_n h1).symm, (wU_n h1).symm⟩
def rmL_toGo : Room := { frames := 8, cells := 1, slots := 6, locals := 153 }
set_option maxHeartbeats 4000000 in
set_option maxRecDepth 100000 in
theorem k_L_toGo (l : Launch) (hfl : l.stackTraces = false) (D : va_G) (cy : Nat → ClassId) (a : Nat → Nat) (A : Nat → Prop) (X : va_W) (V : XV) {n m : Nat} (h : gJ V n m) (d : Int32) : Met l yL_toGo wsL_toGo rmL_toGo (va_Pc [.ref (a 0), .int d] (xPre D (tyC cy) A (cW cy a X V))) (va_Qi (fun (r : Int32) (u : XV) => r = wr (nDx V d) (V (9 + d.toNatClampNeg) 8) ∧ u = wU (nDx V d) (V) V) (fun u t => xPost D (tyC cy) A (cW cy a X u) t) A) 1 6 A := by
  have hk13 : Cond.classLink RL 13 xIO ∈ wsL_toGo := by decide +kernel
  have hn := gJ_n h
  have hm := gJ_m h
  refine x_metH (own := RL) (by decide) rfl rfl (Nat.le_of_ble_eq_true rfl) rfl ?_
  intro p e s m9 below meth c htab C hE
  refine x_aload_n (i := 0) C dL_toGo_0 rfl rfl ?_
  refine x_iload_n (i := 1) C dL_toGo_1 rfl rfl ?_
  refine x_callViK C hE (k_X3_toGo l hfl D cy a A X V d hn.2.2) (cwV 1 C.2.2.2.2.1 gL_toGo_X3_toGo rfl rfl rfl (by decide +kernel) ⟨Nat.le_of_ble_eq_true rfl, Nat.le_of_ble_eq_true rfl⟩) 0 (cW_R cy a _ _) rfl rfl rfl rfl (Nat.le_of_ble_eq_true rfl) dL_toGo_2 ⟨Nat.le_of_ble_eq_true rfl, Nat.le_of_ble_eq_true rfl⟩ (fun E hx H locs ls q9 ce hP hD hS hl hce hcv hcl => ?_) (fun r u hq9 => ?_)
  · have hk9 := exL_dev V d E hx
    simp only [LIO, List.mem_cons, List.not_mem_nil, or_false] at hk9
    obtain rfl := hk9
    refine x_hand C hE [] ⟨0, 5, 6, 13⟩ [] htab (fun z hz => absurd hz List.not_mem_nil) rfl (by decide) hk13 (by decide +kernel) rfl hP hD hS hl hce hcv hcl ?_
    refine x_astore_n (i := 2) C dL_toGo_6 rfl (by decide) ?_
    refine x_ldc (v := (-2000000001)) C (by decide +kernel) dL_toGo_7 ?_
    exact x_iret (σ := XV) (Wf := fun (u : XV) => cW cy a X u) (post := fun (r : Int32) (u : XV) => r = wr (nDx V d) (V (9 + d.toNatClampNeg) 8) ∧ u = wU (nDx V d) (V) V) (u := V) C dL_toGo_9 ⟨Nat.le_of_ble_eq_true rfl, Nat.le_of_ble_eq_true rfl⟩ ⟨((wr_s hx).trans cdE_IO).symm, (wU_s hx).symm⟩
  · obtain ⟨h1, h2, h3⟩ := hq9
    rw [h2, h3]
    exact x_iret (σ := XV) (Wf := fun (u : XV) => cW cy a X u) (post := fun (r : Int32) (u : XV) => r = wr (nDx V d) (V (9 + d.toNatClampNeg) 8) ∧ u = wU (nDx V d) (V) V) (u := V) C dL_toGo_5 ⟨Nat.le_of_ble_eq_true rfl, Nat.le_of_ble_eq_true rfl⟩ ⟨(wr_n h1).symm, (wU_n h1).symm⟩
def rmL_battery : Room := { frames := 8, cells := 1, slots := 6, locals := 153 }
set_option maxHeartbeats 4000000 in
set_option maxRecDepth 100000 in
theorem k_L_battery (l : Launch) (hfl : l.stackTraces = false) (D : va_G) (cy : Nat → ClassId) (a : Nat → Nat) (A : Nat → Prop) (X : va_W) (V : XV) {n m : Nat} (h : gJ V n m) (d : Int32) : Met l yL_battery wsL_battery rmL_battery (va_Pc [.ref (a 0), .int d] (xPre D (tyC cy) A (cW cy a X V))) (va_Qi (fun (r : Int32) (u : XV) => r = wr (nDx V d) (V (9 + d.toNatClampNeg) 3) ∧ u = wU (nDx V d) (V) V) (fun u t => xPost D (tyC cy) A (cW cy a X u) t) A) 1 6 A := by
  have hk13 : Cond.classLink RL 13 xIO ∈ wsL_battery := by decide +kernel
  have hn := gJ_n h
  have hm := gJ_m h
  refine x_metH (own := RL) (by decide) rfl rfl (Nat.le_of_ble_eq_true rfl) rfl ?_
  intro p e s m9 below meth c htab C hE
  refine x_aload_n (i := 0) C dL_battery_0 rfl rfl ?_
  refine x_iload_n (i := 1) C dL_battery_1 rfl rfl ?_
  refine x_callViK C hE (k_X3_battery l hfl D cy a A X V d hn.2.2) (cwV 1 C.2.2.2.2.1 gL_battery_X3_battery rfl rfl rfl (by decide +kernel) ⟨Nat.le_of_ble_eq_true rfl, Nat.le_of_ble_eq_true rfl⟩) 0 (cW_R cy a _ _) rfl rfl rfl rfl (Nat.le_of_ble_eq_true rfl) dL_battery_2 ⟨Nat.le_of_ble_eq_true rfl, Nat.le_of_ble_eq_true rfl⟩ (fun E hx H locs ls q9 ce hP hD hS hl hce hcv hcl => ?_) (fun r u hq9 => ?_)
  · have hk9 := exL_dev V d E hx
    simp only [LIO, List.mem_cons, List.not_mem_nil, or_false] at hk9
    obtain rfl := hk9
    refine x_hand C hE [] ⟨0, 5, 6, 13⟩ [] htab (fun z hz => absurd hz List.not_mem_nil) rfl (by decide) hk13 (by decide +kernel) rfl hP hD hS hl hce hcv hcl ?_
    refine x_astore_n (i := 2) C dL_battery_6 rfl (by decide) ?_
    refine x_ldc (v := (-2000000001)) C (by decide +kernel) dL_battery_7 ?_
    exact x_iret (σ := XV) (Wf := fun (u : XV) => cW cy a X u) (post := fun (r : Int32) (u : XV) => r = wr (nDx V d) (V (9 + d.toNatClampNeg) 3) ∧ u = wU (nDx V d) (V) V) (u := V) C dL_battery_9 ⟨Nat.le_of_ble_eq_true rfl, Nat.le_of_ble_eq_true rfl⟩ ⟨((wr_s hx).trans cdE_IO).symm, (wU_s hx).symm⟩
  · obtain ⟨h1, h2, h3⟩ := hq9
    rw [h2, h3]
    exact x_iret (σ := XV) (Wf := fun (u : XV) => cW cy a X u) (post := fun (r : Int32) (u : XV) => r = wr (nDx V d) (V (9 + d.toNatClampNeg) 3) ∧ u = wU (nDx V d) (V) V) (u := V) C dL_battery_5 ⟨Nat.le_of_ble_eq_true rfl, Nat.le_of_ble_eq_true rfl⟩ ⟨(wr_n h1).symm, (wU_n h1).symm⟩
def rmL_begins : Room := { frames := 9, cells := 6, slots := 36, locals := 174 }
set_option maxHeartbeats 4000000 in
set_option maxRecDepth 100000 in
theorem k_L_begins (l : Launch) (hfl : l.stackTraces = false) (D : va_G) (cy : Nat → ClassId) (a : Nat → Nat) (A : Nat → Prop) (X : va_W) (V : XV) {n m : Nat} (h : gJ V n m) (t k vs rep : Int32) : Met l yL_begins wsL_begins rmL_begins (va_Pc [.ref (a 0), .int t, .int k, .int vs, .int rep] (xPre D (tyC cy) A (cW cy a X V))) (va_Qi (fun (r : Int32) (u : XV) => r = wr (beginX V t k vs rep) (beginV V m t k vs rep (19 + m) 0) ∧ u = wU (beginX V t k vs rep) (beginV V m t k vs rep) V) (fun u t => xPost D (tyC cy) A (cW cy a X u) t) A) 6 36 A := by
  have hk13 : Cond.classLink RL 13 xIO ∈ wsL_begins := by decide +kernel
  have hk16 : Cond.classLink RL 16 xIA ∈ wsL_begins := by decide +kernel
  have hk35 : Cond.classLink RL 35 xIS ∈ wsL_begins := by decide +kernel
  have hn := gJ_n h
  have hm := gJ_m h
  refine x_metH (own := RL) (by decide) rfl rfl (Nat.le_of_ble_eq_true rfl) rfl ?_
  intro p e s m9 below meth c htab C hE
  refine x_aload_n (i := 0) C dL_begins_0 rfl rfl ?_
  refine x_iload_n (i := 1) C dL_begins_1 rfl rfl ?_
  refine x_iload_n (i := 2) C dL_begins_2 rfl rfl ?_
  refine x_iload_n (i := 3) C dL_begins_3 rfl rfl ?_
  refine x_iload (i := 4) C dL_begins_4 rfl ?_
  refine x_callViK C hE (k_X3_begin l hfl D cy a A X V t k vs rep hm.1 hm.2.1) (cwV 4 C.2.2.2.2.1 gL_begins_X3_begin rfl rfl rfl (by decide +kernel) ⟨Nat.le_of_ble_eq_true rfl, Nat.le_of_ble_eq_true rfl⟩) 0 (cW_R cy a _ _) rfl rfl rfl rfl (Nat.le_of_ble_eq_true rfl) dL_begins_6 ⟨Nat.le_of_ble_eq_true rfl, Nat.le_of_ble_eq_true rfl⟩ (fun E hx H locs ls q9 ce hP hD hS hl hce hcv hcl => ?_) (fun r u hq9 => ?_)
  · have hk9 := exL_begin V t k vs rep E hx
    simp only [L3, List.mem_cons, List.not_mem_nil, or_false] at hk9
    rcases hk9 with rfl | rfl | rfl
    · refine x_hand C hE [] ⟨0, 9, 10, 13⟩ [⟨0, 9, 15, 16⟩, ⟨0, 9, 20, 35⟩] htab (fun z hz => absurd hz List.not_mem_nil) rfl (by decide) hk13 (by decide +kernel) rfl hP hD hS hl hce hcv hcl ?_
      refine x_astore (i := 5) C dL_begins_10 (by decide) ?_
      refine x_ldc (v := (-2000000001)) C (by decide +kernel) dL_begins_12 ?_
      exact x_iret (σ := XV) (Wf := fun (u : XV) => cW cy a X u) (post := fun (r : Int32) (u : XV) => r = wr (beginX V t k vs rep) (beginV V m t k vs rep (19 + m) 0) ∧ u = wU (beginX V t k vs rep) (beginV V m t k vs rep) V) (u := V) C dL_begins_14 ⟨Nat.le_of_ble_eq_true rfl, Nat.le_of_ble_eq_true rfl⟩ ⟨((wr_s hx).trans cdE_IO).symm, (wU_s hx).symm⟩
    · refine x_hand C hE [⟨0, 9, 10, 13⟩] ⟨0, 9, 15, 16⟩ [⟨0, 9, 20, 35⟩] htab (fun z hz => by cases List.mem_singleton.mp hz; exact ⟨by decide, xIO, hk13, by decide +kernel⟩) rfl (by decide) hk16 (by decide +kernel) rfl hP hD hS hl hce hcv hcl ?_
      refine x_astore (i := 5) C dL_begins_15 (by decide) ?_
      refine x_ldc (v := (-2000000002)) C (by decide +kernel) dL_begins_17 ?_
      exact x_iret (σ := XV) (Wf := fun (u : XV) => cW cy a X u) (post := fun (r : Int32) (u : XV) => r = wr (beginX V t k vs rep) (beginV V m t k vs rep (19 + m) 0) ∧ u = wU (beginX V t k vs rep) (beginV V m t k vs rep) V) (u := V) C dL_begins_19 ⟨Nat.le_of_ble_eq_true rfl, Nat.le_of_ble_eq_true rfl⟩ ⟨((wr_s hx).trans cdE_IA).symm, (wU_s hx).symm⟩
    · refine x_hand C hE [⟨0, 9, 10, 13⟩, ⟨0, 9, 15, 16⟩] ⟨0, 9, 20, 35⟩ [] htab (fun z hz => by
      rcases List.mem_cons.mp hz with rfl | hz
      · exact ⟨by decide, xIO, hk13, by decide +kernel⟩
      · cases List.mem_singleton.mp hz; exact ⟨by decide, xIA, hk16, by decide +kernel⟩) rfl (by decide) hk35 (by decide +kernel) rfl hP hD hS hl hce hcv hcl ?_
      refine x_astore (i := 5) C dL_begins_20 (by decide) ?_
      refine x_ldc (v := (-2000000003)) C (by decide +kernel) dL_begins_22 ?_
      exact x_iret (σ := XV) (Wf := fun (u : XV) => cW cy a X u) (post := fun (r : Int32) (u : XV) => r = wr (beginX V t k vs rep) (beginV V m t k vs rep (19 + m) 0) ∧ u = wU (beginX V t k vs rep) (beginV V m t k vs rep) V) (u := V) C dL_begins_24 ⟨Nat.le_of_ble_eq_true rfl, Nat.le_of_ble_eq_true rfl⟩ ⟨((wr_s hx).trans cdE_IS).symm, (wU_s hx).symm⟩
  · obtain ⟨h1, h2, h3⟩ := hq9
    rw [h2, h3]
    exact x_iret (σ := XV) (Wf := fun (u : XV) => cW cy a X u) (post := fun (r : Int32) (u : XV) => r = wr (beginX V t k vs rep) (beginV V m t k vs rep (19 + m) 0) ∧ u = wU (beginX V t k vs rep) (beginV V m t k vs rep) V) (u := beginV V m t k vs rep) C dL_begins_9 ⟨Nat.le_of_ble_eq_true rfl, Nat.le_of_ble_eq_true rfl⟩ ⟨(wr_n h1).symm, (wU_n h1).symm⟩
def rmL_rules : Room := { frames := 9, cells := 5, slots := 30, locals := 174 }
set_option maxHeartbeats 4000000 in
set_option maxRecDepth 100000 in
theorem k_L_rules (l : Launch) (hfl : l.stackTraces = false) (D : va_G) (cy : Nat → ClassId) (a : Nat → Nat) (A : Nat → Prop) (X : va_W) (V : XV) {n m : Nat} (h : gJ V n m) (q g s9 n9 th : Int32) : Met l yL_rules wsL_rules rmL_rules (va_Pc [.ref (a 0), .int q, .int g, .int s9, .int n9, .int th] (xPre D (tyC cy) A (cW cy a X V))) (va_Qi (fun (r : Int32) (u : XV) => r = wr (rulesX V q g s9 n9 th) (0) ∧ u = wU (rulesX V q g s9 n9 th) (rulesV V (19 + q.toNatClampNeg) g s9 n9 th) V) (fun u t => xPost D (tyC cy) A (cW cy a X u) t) A) 5 30 A := by
  have hk13 : Cond.classLink RL 13 xIO ∈ wsL_rules := by decide +kernel
  have hk16 : Cond.classLink RL 16 xIA ∈ wsL_rules := by decide +kernel
  have hn := gJ_n h
  have hm := gJ_m h
  refine x_metH (own := RL) (by decide) rfl rfl (Nat.le_of_ble_eq_true rfl) rfl ?_
  intro p e s m9 below meth c htab C hE
  refine x_aload_n (i := 0) C dL_rules_0 rfl rfl ?_
  refine x_iload_n (i := 1) C dL_rules_1 rfl rfl ?_
  refine x_iload_n (i := 2) C dL_rules_2 rfl rfl ?_
  refine x_iload_n (i := 3) C dL_rules_3 rfl rfl ?_
  refine x_iload (i := 4) C dL_rules_4 rfl ?_
  refine x_iload (i := 5) C dL_rules_6 rfl ?_
  refine x_callVvK C hE (k_X3_setRules l hfl D cy a A X V q g s9 n9 th hm.2.2) (cwV 5 C.2.2.2.2.1 gL_rules_X3_setRules rfl rfl rfl (by decide +kernel) ⟨Nat.le_of_ble_eq_true rfl, Nat.le_of_ble_eq_true rfl⟩) 0 (cW_R cy a _ _) rfl rfl rfl rfl (Nat.le_of_ble_eq_true rfl) dL_rules_8 ⟨Nat.le_of_ble_eq_true rfl, Nat.le_of_ble_eq_true rfl⟩ (fun E hx H locs ls q9 ce hP hD hS hl hce hcv hcl => ?_) (fun u hq9 => ?_)
  · have hk9 := exL_rules V q g s9 n9 th E hx
    simp only [LIA, List.mem_cons, List.not_mem_nil, or_false] at hk9
    rcases hk9 with rfl | rfl
    · refine x_hand C hE [] ⟨0, 12, 13, 13⟩ [⟨0, 12, 18, 16⟩] htab (fun z hz => absurd hz List.not_mem_nil) rfl (by decide) hk13 (by decide +kernel) rfl hP hD hS hl hce hcv hcl ?_
      refine x_astore (i := 6) C dL_rules_13 (by decide) ?_
      refine x_ldc (v := (-2000000001)) C (by decide +kernel) dL_rules_15 ?_
      exact x_iret (σ := XV) (Wf := fun (u : XV) => cW cy a X u) (post := fun (r : Int32) (u : XV) => r = wr (rulesX V q g s9 n9 th) (0) ∧ u = wU (rulesX V q g s9 n9 th) (rulesV V (19 + q.toNatClampNeg) g s9 n9 th) V) (u := V) C dL_rules_17 ⟨Nat.le_of_ble_eq_true rfl, Nat.le_of_ble_eq_true rfl⟩ ⟨((wr_s hx).trans cdE_IO).symm, (wU_s hx).symm⟩
    · refine x_hand C hE [⟨0, 12, 13, 13⟩] ⟨0, 12, 18, 16⟩ [] htab (fun z hz => by cases List.mem_singleton.mp hz; exact ⟨by decide, xIO, hk13, by decide +kernel⟩) rfl (by decide) hk16 (by decide +kernel) rfl hP hD hS hl hce hcv hcl ?_
      refine x_astore (i := 6) C dL_rules_18 (by decide) ?_
      refine x_ldc (v := (-2000000002)) C (by decide +kernel) dL_rules_20 ?_
      exact x_iret (σ := XV) (Wf := fun (u : XV) => cW cy a X u) (post := fun (r : Int32) (u : XV) => r = wr (rulesX V q g s9 n9 th) (0) ∧ u = wU (rulesX V q g s9 n9 th) (rulesV V (19 + q.toNatClampNeg) g s9 n9 th) V) (u := V) C dL_rules_22 ⟨Nat.le_of_ble_eq_true rfl, Nat.le_of_ble_eq_true rfl⟩ ⟨((wr_s hx).trans cdE_IA).symm, (wU_s hx).symm⟩
  · obtain ⟨h1, h3⟩ := hq9
    rw [h3]
    refine x_iconst (v := 0) C dL_rules_11 (by decide) ?_
    exact x_iret (σ := XV) (Wf := fun (u : XV) => cW cy a X u) (post := fun (r : Int32) (u : XV) => r = wr (rulesX V q g s9 n9 th) (0) ∧ u = wU (rulesX V q g s9 n9 th) (rulesV V (19 + q.toNatClampNeg) g s9 n9 th) V) (u := rulesV V (19 + q.toNatClampNeg) g s9 n9 th) C dL_rules_12 ⟨Nat.le_of_ble_eq_true rfl, Nat.le_of_ble_eq_true rfl⟩ ⟨(wr_n h1).symm, (wU_n h1).symm⟩
def rmL_toggles : Room := { frames := 9, cells := 1, slots := 6, locals := 174 }
set_option maxHeartbeats 4000000 in
set_option maxRecDepth 100000 in
theorem k_L_toggles (l : Launch) (hfl : l.stackTraces = false) (D : va_G) (cy : Nat → ClassId) (a : Nat → Nat) (A : Nat → Prop) (X : va_W) (V : XV) {n m : Nat} (h : gJ V n m) (q : Int32) : Met l yL_toggles wsL_toggles rmL_toggles (va_Pc [.ref (a 0), .int q] (xPre D (tyC cy) A (cW cy a X V))) (va_Qi (fun (r : Int32) (u : XV) => r = wr (nCx V q) (toggleV V (19 + q.toNatClampNeg) (19 + q.toNatClampNeg) 8) ∧ u = wU (nCx V q) (toggleV V (19 + q.toNatClampNeg)) V) (fun u t => xPost D (tyC cy) A (cW cy a X u) t) A) 1 6 A := by
  have hk13 : Cond.classLink RL 13 xIO ∈ wsL_toggles := by decide +kernel
  have hn := gJ_n h
  have hm := gJ_m h
  refine x_metH (own := RL) (by decide) rfl rfl (Nat.le_of_ble_eq_true rfl) rfl ?_
  intro p e s m9 below meth c htab C hE
  refine x_aload_n (i := 0) C dL_toggles_0 rfl rfl ?_
  refine x_iload_n (i := 1) C dL_toggles_1 rfl rfl ?_
  refine x_callViK C hE (k_X3_toggle l hfl D cy a A X V q hm.2.2) (cwV 1 C.2.2.2.2.1 gL_toggles_X3_toggle rfl rfl rfl (by decide +kernel) ⟨Nat.le_of_ble_eq_true rfl, Nat.le_of_ble_eq_true rfl⟩) 0 (cW_R cy a _ _) rfl rfl rfl rfl (Nat.le_of_ble_eq_true rfl) dL_toggles_2 ⟨Nat.le_of_ble_eq_true rfl, Nat.le_of_ble_eq_true rfl⟩ (fun E hx H locs ls q9 ce hP hD hS hl hce hcv hcl => ?_) (fun r u hq9 => ?_)
  · have hk9 := exL_cam V q E hx
    simp only [LIO, List.mem_cons, List.not_mem_nil, or_false] at hk9
    obtain rfl := hk9
    refine x_hand C hE [] ⟨0, 13, 14, 13⟩ [] htab (fun z hz => absurd hz List.not_mem_nil) rfl (by decide) hk13 (by decide +kernel) rfl hP hD hS hl hce hcv hcl ?_
    refine x_astore_n (i := 2) C dL_toggles_14 rfl (by decide) ?_
    refine x_ldc (v := (-2000000001)) C (by decide +kernel) dL_toggles_15 ?_
    exact x_iret (σ := XV) (Wf := fun (u : XV) => cW cy a X u) (post := fun (r : Int32) (u : XV) => r = wr (nCx V q) (toggleV V (19 + q.toNatClampNeg) (19 + q.toNatClampNeg) 8) ∧ u = wU (nCx V q) (toggleV V (19 + q.toNatClampNeg)) V) (u := V) C dL_toggles_17 ⟨Nat.le_of_ble_eq_true rfl, Nat.le_of_ble_eq_true rfl⟩ ⟨((wr_s hx).trans cdE_IO).symm, (wU_s hx).symm⟩
  · obtain ⟨h1, h2, h3⟩ := hq9
    rw [h2, h3]
    refine x_if_eq C 12 dL_toggles_5 (by decide) (fun hq => ?_) (fun hq => ?_)
    · refine x_iconst (v := 0) C dL_toggles_12 (by decide) ?_
      exact x_iret (σ := XV) (Wf := fun (u : XV) => cW cy a X u) (post := fun (r : Int32) (u : XV) => r = wr (nCx V q) (toggleV V (19 + q.toNatClampNeg) (19 + q.toNatClampNeg) 8) ∧ u = wU (nCx V q) (toggleV V (19 + q.toNatClampNeg)) V) (u := toggleV V (19 + q.toNatClampNeg)) C dL_toggles_13 ⟨Nat.le_of_ble_eq_true rfl, Nat.le_of_ble_eq_true rfl⟩ ⟨((wr_n h1).trans hq).symm, (wU_n h1).symm⟩
    · refine x_iconst (v := 1) C dL_toggles_8 (by decide) ?_
      refine x_goto C 13 dL_toggles_9 (by decide) ?_
      exact x_iret (σ := XV) (Wf := fun (u : XV) => cW cy a X u) (post := fun (r : Int32) (u : XV) => r = wr (nCx V q) (toggleV V (19 + q.toNatClampNeg) (19 + q.toNatClampNeg) 8) ∧ u = wU (nCx V q) (toggleV V (19 + q.toNatClampNeg)) V) (u := toggleV V (19 + q.toNatClampNeg)) C dL_toggles_13 ⟨Nat.le_of_ble_eq_true rfl, Nat.le_of_ble_eq_true rfl⟩ ⟨((wr_n h1).trans ((toggle_01 (19 + q.toNatClampNeg)).resolve_left hq)).symm, (wU_n h1).symm⟩
def rmL_active : Room := { frames := 9, cells := 1, slots := 6, locals := 174 }
set_option maxHeartbeats 4000000 in
set_option maxRecDepth 100000 in
theorem k_L_active (l : Launch) (hfl : l.stackTraces = false) (D : va_G) (cy : Nat → ClassId) (a : Nat → Nat) (A : Nat → Prop) (X : va_W) (V : XV) {n m : Nat} (h : gJ V n m) (q : Int32) : Met l yL_active wsL_active rmL_active (va_Pc [.ref (a 0), .int q] (xPre D (tyC cy) A (cW cy a X V))) (va_Qi (fun (r : Int32) (u : XV) => r = wr (nCx V q) (V (19 + q.toNatClampNeg) 8) ∧ u = wU (nCx V q) (V) V) (fun u t => xPost D (tyC cy) A (cW cy a X u) t) A) 1 6 A := by
  have hk13 : Cond.classLink RL 13 xIO ∈ wsL_active := by decide +kernel
  have hn := gJ_n h
  have hm := gJ_m h
  refine x_metH (own := RL) (by decide) rfl rfl (Nat.le_of_ble_eq_true rfl) rfl ?_
  intro p e s m9 below meth c htab C hE
  refine x_aload_n (i := 0) C dL_active_0 rfl rfl ?_
  refine x_iload_n (i := 1) C dL_active_1 rfl rfl ?_
  refine x_callViK C hE (k_X3_isActive l hfl D cy a A X V q hm.2.2 (gJ_act h)) (cwV 1 C.2.2.2.2.1 gL_active_X3_isActive rfl rfl rfl (by decide +kernel) ⟨Nat.le_of_ble_eq_true rfl, Nat.le_of_ble_eq_true rfl⟩) 0 (cW_R cy a _ _) rfl rfl rfl rfl (Nat.le_of_ble_eq_true rfl) dL_active_2 ⟨Nat.le_of_ble_eq_true rfl, Nat.le_of_ble_eq_true rfl⟩ (fun E hx H locs ls q9 ce hP hD hS hl hce hcv hcl => ?_) (fun r u hq9 => ?_)
  · have hk9 := exL_cam V q E hx
    simp only [LIO, List.mem_cons, List.not_mem_nil, or_false] at hk9
    obtain rfl := hk9
    refine x_hand C hE [] ⟨0, 13, 14, 13⟩ [] htab (fun z hz => absurd hz List.not_mem_nil) rfl (by decide) hk13 (by decide +kernel) rfl hP hD hS hl hce hcv hcl ?_
    refine x_astore_n (i := 2) C dL_active_14 rfl (by decide) ?_
    refine x_ldc (v := (-2000000001)) C (by decide +kernel) dL_active_15 ?_
    exact x_iret (σ := XV) (Wf := fun (u : XV) => cW cy a X u) (post := fun (r : Int32) (u : XV) => r = wr (nCx V q) (V (19 + q.toNatClampNeg) 8) ∧ u = wU (nCx V q) (V) V) (u := V) C dL_active_17 ⟨Nat.le_of_ble_eq_true rfl, Nat.le_of_ble_eq_true rfl⟩ ⟨((wr_s hx).trans cdE_IO).symm, (wU_s hx).symm⟩
  · obtain ⟨h1, h2, h3⟩ := hq9
    rw [h2, h3]
    refine x_if_eq C 12 dL_active_5 (by decide) (fun hq => ?_) (fun hq => ?_)
    · refine x_iconst (v := 0) C dL_active_12 (by decide) ?_
      exact x_iret (σ := XV) (Wf := fun (u : XV) => cW cy a X u) (post := fun (r : Int32) (u : XV) => r = wr (nCx V q) (V (19 + q.toNatClampNeg) 8) ∧ u = wU (nCx V q) (V) V) (u := V) C dL_active_13 ⟨Nat.le_of_ble_eq_true rfl, Nat.le_of_ble_eq_true rfl⟩ ⟨((wr_n h1).trans hq).symm, (wU_n h1).symm⟩
    · refine x_iconst (v := 1) C dL_active_8 (by decide) ?_
      refine x_goto C 13 dL_active_9 (by decide) ?_
      exact x_iret (σ := XV) (Wf := fun (u : XV) => cW cy a X u) (post := fun (r : Int32) (u : XV) => r = wr (nCx V q) (V (19 + q.toNatClampNeg) 8) ∧ u = wU (nCx V q) (V) V) (u := V) C dL_active_13 ⟨Nat.le_of_ble_eq_true rfl, Nat.le_of_ble_eq_true rfl⟩ ⟨((wr_n h1).trans ((gJ_act h (19 + q.toNatClampNeg) ⟨by omega, by have := vp_at (nCx_in (N := 6) h1 hm.2.2); omega⟩).resolve_left hq)).symm, (wU_n h1).symm⟩
def rmL_ring : Room := { frames := 9, cells := 1, slots := 6, locals := 174 }
set_option maxHeartbeats 4000000 in
set_option maxRecDepth 100000 in
theorem k_L_ring (l : Launch) (hfl : l.stackTraces = false) (D : va_G) (cy : Nat → ClassId) (a : Nat → Nat) (A : Nat → Prop) (X : va_W) (V : XV) {n m : Nat} (h : gJ V n m) (q : Int32) : Met l yL_ring wsL_ring rmL_ring (va_Pc [.ref (a 0), .int q] (xPre D (tyC cy) A (cW cy a X V))) (va_Qi (fun (r : Int32) (u : XV) => r = wr (nCx V q) (V (19 + q.toNatClampNeg) 9) ∧ u = wU (nCx V q) (V) V) (fun u t => xPost D (tyC cy) A (cW cy a X u) t) A) 1 6 A := by
  have hk13 : Cond.classLink RL 13 xIO ∈ wsL_ring := by decide +kernel
  have hn := gJ_n h
  have hm := gJ_m h
  refine x_metH (own := RL) (by decide) rfl rfl (Nat.le_of_ble_eq_true rfl) rfl ?_
  intro p e s m9 below meth c htab C hE
  refine x_aload_n (i := 0) C dL_ring_0 rfl rfl ?_
  refine x_iload_n (i := 1) C dL_ring_1 rfl rfl ?_
  refine x_callViK C hE (k_X3_ring l hfl D cy a A X V q hm.2.2) (cwV 1 C.2.2.2.2.1 gL_ring_X3_ring rfl rfl rfl (by decide +kernel) ⟨Nat.le_of_ble_eq_true rfl, Nat.le_of_ble_eq_true rfl⟩) 0 (cW_R cy a _ _) rfl rfl rfl rfl (Nat.le_of_ble_eq_true rfl) dL_ring_2 ⟨Nat.le_of_ble_eq_true rfl, Nat.le_of_ble_eq_true rfl⟩ (fun E hx H locs ls q9 ce hP hD hS hl hce hcv hcl => ?_) (fun r u hq9 => ?_)
  · have hk9 := exL_cam V q E hx
    simp only [LIO, List.mem_cons, List.not_mem_nil, or_false] at hk9
    obtain rfl := hk9
    refine x_hand C hE [] ⟨0, 5, 6, 13⟩ [] htab (fun z hz => absurd hz List.not_mem_nil) rfl (by decide) hk13 (by decide +kernel) rfl hP hD hS hl hce hcv hcl ?_
    refine x_astore_n (i := 2) C dL_ring_6 rfl (by decide) ?_
    refine x_ldc (v := (-2000000001)) C (by decide +kernel) dL_ring_7 ?_
    exact x_iret (σ := XV) (Wf := fun (u : XV) => cW cy a X u) (post := fun (r : Int32) (u : XV) => r = wr (nCx V q) (V (19 + q.toNatClampNeg) 9) ∧ u = wU (nCx V q) (V) V) (u := V) C dL_ring_9 ⟨Nat.le_of_ble_eq_true rfl, Nat.le_of_ble_eq_true rfl⟩ ⟨((wr_s hx).trans cdE_IO).symm, (wU_s hx).symm⟩
  · obtain ⟨h1, h2, h3⟩ := hq9
    rw [h2, h3]
    exact x_iret (σ := XV) (Wf := fun (u : XV) => cW cy a X u) (post := fun (r : Int32) (u : XV) => r = wr (nCx V q) (V (19 + q.toNatClampNeg) 9) ∧ u = wU (nCx V q) (V) V) (u := V) C dL_ring_5 ⟨Nat.le_of_ble_eq_true rfl, Nat.le_of_ble_eq_true rfl⟩ ⟨(wr_n h1).symm, (wU_n h1).symm⟩
def rmL_counted : Room := { frames := 9, cells := 1, slots := 6, locals := 174 }
set_option maxHeartbeats 4000000 in
set_option maxRecDepth 100000 in
theorem k_L_counted (l : Launch) (hfl : l.stackTraces = false) (D : va_G) (cy : Nat → ClassId) (a : Nat → Nat) (A : Nat → Prop) (X : va_W) (V : XV) {n m : Nat} (h : gJ V n m) (q : Int32) : Met l yL_counted wsL_counted rmL_counted (va_Pc [.ref (a 0), .int q] (xPre D (tyC cy) A (cW cy a X V))) (va_Qi (fun (r : Int32) (u : XV) => r = wr (nCx V q) (V (19 + q.toNatClampNeg) 10) ∧ u = wU (nCx V q) (V) V) (fun u t => xPost D (tyC cy) A (cW cy a X u) t) A) 1 6 A := by
  have hk13 : Cond.classLink RL 13 xIO ∈ wsL_counted := by decide +kernel
  have hn := gJ_n h
  have hm := gJ_m h
  refine x_metH (own := RL) (by decide) rfl rfl (Nat.le_of_ble_eq_true rfl) rfl ?_
  intro p e s m9 below meth c htab C hE
  refine x_aload_n (i := 0) C dL_counted_0 rfl rfl ?_
  refine x_iload_n (i := 1) C dL_counted_1 rfl rfl ?_
  refine x_callViK C hE (k_X3_reports l hfl D cy a A X V q hm.2.2) (cwV 1 C.2.2.2.2.1 gL_counted_X3_reports rfl rfl rfl (by decide +kernel) ⟨Nat.le_of_ble_eq_true rfl, Nat.le_of_ble_eq_true rfl⟩) 0 (cW_R cy a _ _) rfl rfl rfl rfl (Nat.le_of_ble_eq_true rfl) dL_counted_2 ⟨Nat.le_of_ble_eq_true rfl, Nat.le_of_ble_eq_true rfl⟩ (fun E hx H locs ls q9 ce hP hD hS hl hce hcv hcl => ?_) (fun r u hq9 => ?_)
  · have hk9 := exL_cam V q E hx
    simp only [LIO, List.mem_cons, List.not_mem_nil, or_false] at hk9
    obtain rfl := hk9
    refine x_hand C hE [] ⟨0, 5, 6, 13⟩ [] htab (fun z hz => absurd hz List.not_mem_nil) rfl (by decide) hk13 (by decide +kernel) rfl hP hD hS hl hce hcv hcl ?_
    refine x_astore_n (i := 2) C dL_counted_6 rfl (by decide) ?_
    refine x_ldc (v := (-2000000001)) C (by decide +kernel) dL_counted_7 ?_
    exact x_iret (σ := XV) (Wf := fun (u : XV) => cW cy a X u) (post := fun (r : Int32) (u : XV) => r = wr (nCx V q) (V (19 + q.toNatClampNeg) 10) ∧ u = wU (nCx V q) (V) V) (u := V) C dL_counted_9 ⟨Nat.le_of_ble_eq_true rfl, Nat.le_of_ble_eq_true rfl⟩ ⟨((wr_s hx).trans cdE_IO).symm, (wU_s hx).symm⟩
  · obtain ⟨h1, h2, h3⟩ := hq9
    rw [h2, h3]
    exact x_iret (σ := XV) (Wf := fun (u : XV) => cW cy a X u) (post := fun (r : Int32) (u : XV) => r = wr (nCx V q) (V (19 + q.toNatClampNeg) 10) ∧ u = wU (nCx V q) (V) V) (u := V) C dL_counted_5 ⟨Nat.le_of_ble_eq_true rfl, Nat.le_of_ble_eq_true rfl⟩ ⟨(wr_n h1).symm, (wU_n h1).symm⟩
def rmL_eligible : Room := { frames := 9, cells := 1, slots := 6, locals := 174 }
set_option maxHeartbeats 4000000 in
set_option maxRecDepth 100000 in
theorem k_L_eligible (l : Launch) (hfl : l.stackTraces = false) (D : va_G) (cy : Nat → ClassId) (a : Nat → Nat) (A : Nat → Prop) (X : va_W) (V : XV) {n m : Nat} (h : gJ V n m) (q : Int32) : Met l yL_eligible wsL_eligible rmL_eligible (va_Pc [.ref (a 0), .int q] (xPre D (tyC cy) A (cW cy a X V))) (va_Qi (fun (r : Int32) (u : XV) => r = wr (nCx V q) (elI V (19 + q.toNatClampNeg) n) ∧ u = wU (nCx V q) (V) V) (fun u t => xPost D (tyC cy) A (cW cy a X u) t) A) 1 6 A := by
  have hk13 : Cond.classLink RL 13 xIO ∈ wsL_eligible := by decide +kernel
  have hn := gJ_n h
  have hm := gJ_m h
  refine x_metH (own := RL) (by decide) rfl rfl (Nat.le_of_ble_eq_true rfl) rfl ?_
  intro p e s m9 below meth c htab C hE
  refine x_aload_n (i := 0) C dL_eligible_0 rfl rfl ?_
  refine x_iload_n (i := 1) C dL_eligible_1 rfl rfl ?_
  refine x_callViK C hE (k_X3_eligible l hfl D cy a A X V q hn.1 hn.2.1 hm.2.2 (gJ_safe h)) (cwV 1 C.2.2.2.2.1 gL_eligible_X3_eligible rfl rfl rfl (by decide +kernel) ⟨Nat.le_of_ble_eq_true rfl, Nat.le_of_ble_eq_true rfl⟩) 0 (cW_R cy a _ _) rfl rfl rfl rfl (Nat.le_of_ble_eq_true rfl) dL_eligible_2 ⟨Nat.le_of_ble_eq_true rfl, Nat.le_of_ble_eq_true rfl⟩ (fun E hx H locs ls q9 ce hP hD hS hl hce hcv hcl => ?_) (fun r u hq9 => ?_)
  · have hk9 := exL_cam V q E hx
    simp only [LIO, List.mem_cons, List.not_mem_nil, or_false] at hk9
    obtain rfl := hk9
    refine x_hand C hE [] ⟨0, 5, 6, 13⟩ [] htab (fun z hz => absurd hz List.not_mem_nil) rfl (by decide) hk13 (by decide +kernel) rfl hP hD hS hl hce hcv hcl ?_
    refine x_astore_n (i := 2) C dL_eligible_6 rfl (by decide) ?_
    refine x_ldc (v := (-2000000001)) C (by decide +kernel) dL_eligible_7 ?_
    exact x_iret (σ := XV) (Wf := fun (u : XV) => cW cy a X u) (post := fun (r : Int32) (u : XV) => r = wr (nCx V q) (elI V (19 + q.toNatClampNeg) n) ∧ u = wU (nCx V q) (V) V) (u := V) C dL_eligible_9 ⟨Nat.le_of_ble_eq_true rfl, Nat.le_of_ble_eq_true rfl⟩ ⟨((wr_s hx).trans cdE_IO).symm, (wU_s hx).symm⟩
  · obtain ⟨h1, h2, h3⟩ := hq9
    rw [h2, h3]
    exact x_iret (σ := XV) (Wf := fun (u : XV) => cW cy a X u) (post := fun (r : Int32) (u : XV) => r = wr (nCx V q) (elI V (19 + q.toNatClampNeg) n) ∧ u = wU (nCx V q) (V) V) (u := V) C dL_eligible_5 ⟨Nat.le_of_ble_eq_true rfl, Nat.le_of_ble_eq_true rfl⟩ ⟨(wr_n h1).symm, (wU_n h1).symm⟩
def rmL_passes : Room := { frames := 8, cells := 1, slots := 6, locals := 154 }
set_option maxHeartbeats 4000000 in
set_option maxRecDepth 100000 in
theorem k_L_passes (l : Launch) (hfl : l.stackTraces = false) (D : va_G) (cy : Nat → ClassId) (a : Nat → Nat) (A : Nat → Prop) (X : va_W) (V : XV) {n m : Nat} (h : gJ V n m) (h9 : Int32) : Met l yL_passes wsL_passes rmL_passes (va_Pc [.ref (a 0), .int h9] (xPre D (tyC cy) A (cW cy a X V))) (va_Qi (fun (r : Int32) (u : XV) => r = wr (nRx h9 1 100) (paT V n m h9.toNatClampNeg) ∧ u = wU (nRx h9 1 100) (paV V n m h9.toNatClampNeg) V) (fun u t => xPost D (tyC cy) A (cW cy a X u) t) A) 1 6 A := by
  have hk16 : Cond.classLink RL 16 xIA ∈ wsL_passes := by decide +kernel
  have hn := gJ_n h
  have hm := gJ_m h
  refine x_metH (own := RL) (by decide) rfl rfl (Nat.le_of_ble_eq_true rfl) rfl ?_
  intro p e s m9 below meth c htab C hE
  refine x_aload_n (i := 0) C dL_passes_0 rfl rfl ?_
  refine x_iload_n (i := 1) C dL_passes_1 rfl rfl ?_
  refine x_callViK C hE (k_X3_pass l hfl D cy a A X V h9 hn.1 hn.2.1 hm.1 hm.2.1 (gJ_safe h)) (cwV 1 C.2.2.2.2.1 gL_passes_X3_pass rfl rfl rfl (by decide +kernel) ⟨Nat.le_of_ble_eq_true rfl, Nat.le_of_ble_eq_true rfl⟩) 0 (cW_R cy a _ _) rfl rfl rfl rfl (Nat.le_of_ble_eq_true rfl) dL_passes_2 ⟨Nat.le_of_ble_eq_true rfl, Nat.le_of_ble_eq_true rfl⟩ (fun E hx H locs ls q9 ce hP hD hS hl hce hcv hcl => ?_) (fun r u hq9 => ?_)
  · have hk9 := exL_pass h9 E hx
    simp only [LZP, List.mem_cons, List.not_mem_nil, or_false] at hk9
    obtain rfl := hk9
    refine x_hand C hE [] ⟨0, 5, 6, 16⟩ [] htab (fun z hz => absurd hz List.not_mem_nil) rfl (by decide) hk16 (by decide +kernel) rfl hP hD hS hl hce hcv hcl ?_
    refine x_astore_n (i := 2) C dL_passes_6 rfl (by decide) ?_
    refine x_ldc (v := (-2000000002)) C (by decide +kernel) dL_passes_7 ?_
    exact x_iret (σ := XV) (Wf := fun (u : XV) => cW cy a X u) (post := fun (r : Int32) (u : XV) => r = wr (nRx h9 1 100) (paT V n m h9.toNatClampNeg) ∧ u = wU (nRx h9 1 100) (paV V n m h9.toNatClampNeg) V) (u := V) C dL_passes_9 ⟨Nat.le_of_ble_eq_true rfl, Nat.le_of_ble_eq_true rfl⟩ ⟨((wr_s hx).trans cdE_IA).symm, (wU_s hx).symm⟩
  · obtain ⟨h1, h2, h3⟩ := hq9
    rw [h2, h3]
    exact x_iret (σ := XV) (Wf := fun (u : XV) => cW cy a X u) (post := fun (r : Int32) (u : XV) => r = wr (nRx h9 1 100) (paT V n m h9.toNatClampNeg) ∧ u = wU (nRx h9 1 100) (paV V n m h9.toNatClampNeg) V) (u := paV V n m h9.toNatClampNeg) C dL_passes_5 ⟨Nat.le_of_ble_eq_true rfl, Nat.le_of_ble_eq_true rfl⟩ ⟨(wr_n h1).symm, (wU_n h1).symm⟩
/-! ===== END wraps ===== -/
