/-! ===== BEGIN wraps: the law's own small methods ===== -/
section LCN
variable {p : Program} {l : Launch} {e : Env} {R : Room} {s : State} {m : MethodId} {args : Array Value} {below : List Frame} {meth : Method} {c : Code} {cells slots : Nat} {Q : State → Prop} {cc : ByteArray} {nL : Nat} {own : String} {Ts : List Cond} {D : va_G} {A : Nat → Prop} {ret : Option FieldType} {pc : Nat} {lv : List (Nat × Value)} {st : List Value} {tys : List (ClassId × FieldType)} {ws : va_W}
theorem x_lconst (C : xC p s m args meth c cc nL own Ts D tys A ret) {n : Fin 2} {v : Int64} (hd : decode cc pc = .ok (.lconst n, 1)) (hv : Int64.ofNat (n : Nat) = v)
    (k : xA p l e R s m args below meth c D A nL cells slots Q (pc + 1) lv (.long v :: st) ws) : xA p l e R s m args below meth c D A nL cells slots Q pc lv st ws := fun H locs ls hP hD hS hl => lv_lconst C.1 C.2.1 hd hv (k H locs ls hP hD hS hl)
end LCN
theorem vp_updL0 (f : Nat → Int64) (x : Int64) : vp_updL f 0 x 0 = x := by simp [vp_updL]
def rmL_allow : Room := { frames := 8, cells := 2, slots := 12, locals := 154 }
set_option maxHeartbeats 4000000 in
set_option maxRecDepth 100000 in
theorem k_L_allow (l : Launch) (hfl : l.stackTraces = false) (D : va_G) (cy : Nat → ClassId) (a : Nat → Nat) (o : Nat) (A : Nat → Prop) (Y : va_W) (V : XV) (f : Nat → Int64) (v k : Int32)   (hex : exIn (allowX v k) tbIA) : Met l yL_allow wsL_allow rmL_allow (va_Pc [.ref (a 0), .int v, .int k, .ref o] (xPre D (tyC cy) A (oW cy a o Y V f))) (va_Qi (fun (r : Int32) (u : XV × (Nat → Int64)) => wP (allowX v k) (xs V 1 v.toNatClampNeg k) V (V 1 v.toNatClampNeg) tbIA r u) (fun u t => xPost D (tyC cy) A (oW cy a o Y u.1 u.2) t) A) 2 12 A := by
  have hk13 : Cond.classLink RL 13 xIO ∈ wsL_allow := by decide +kernel
  have hk15 : Cond.classLink RL 15 xIA ∈ wsL_allow := by decide +kernel
  refine x_metH (own := RL) (by decide) rfl rfl (Nat.le_of_ble_eq_true rfl) rfl ?_
  intro p e s m below meth c htab C hE
  refine x_ws (show oW cy a o Y V f = cW cy a ((o, outF cy f) :: Y) V from rfl) ?_
  refine x_aload_n (i := 3) C dL_allow_0 rfl rfl ?_
  refine x_iconst (v := 0) C dL_allow_1 (by decide) ?_
  refine x_aload_n (i := 0) C dL_allow_2 rfl rfl ?_
  refine x_iload_n (i := 1) C dL_allow_3 rfl rfl ?_
  refine x_iload_n (i := 2) C dL_allow_4 rfl rfl ?_
  refine x_callViK C hE (k_X3_allow l hfl D cy a A ((o, outF cy f) :: Y) V v k ) (cwV 2 C.2.2.2.2.1 gL_allow_X3_allow rfl rfl rfl (by decide +kernel) ⟨Nat.le_of_ble_eq_true rfl, Nat.le_of_ble_eq_true rfl⟩) 0 (cW_R cy a _ _) rfl rfl rfl rfl (Nat.le_of_ble_eq_true rfl) dL_allow_5 ⟨Nat.le_of_ble_eq_true rfl, Nat.le_of_ble_eq_true rfl⟩ (fun E hx H locs ls q9 ce hP hD hS hl hce hcv hcl => ?_) (fun r u h => ?_)
  · obtain ⟨k9, hk9⟩ := hex E hx
    simp only [tbIA, List.mem_cons, List.not_mem_nil, or_false, Prod.mk.injEq] at hk9
    rcases hk9 with ⟨rfl, rfl⟩ | ⟨rfl, rfl⟩
    · refine x_hand C hE [] ⟨0, 10, 13, 13⟩ [⟨0, 10, 17, 15⟩] htab (fun z hz => absurd hz List.not_mem_nil) rfl (by decide) hk13 (by decide +kernel) rfl hP hD hS hl hce hcv hcl ?_
      refine x_astore (i := 4) C dL_allow_13 (by decide) ?_
      refine x_iconst (v := 1) C dL_allow_15 (by decide) ?_
      refine x_ws (show cW cy a ((o, outF cy f) :: Y) V = oW cy a o Y V f from rfl) ?_
      exact x_iret (σ := XV × (Nat → Int64)) (Wf := fun (u : XV × (Nat → Int64)) => oW cy a o Y u.1 u.2) (post := fun (r : Int32) (u : XV × (Nat → Int64)) => wP (allowX v k) (xs V 1 v.toNatClampNeg k) V (V 1 v.toNatClampNeg) tbIA r u) (u := (V, f)) C dL_allow_16 ⟨Nat.le_of_ble_eq_true rfl, Nat.le_of_ble_eq_true rfl⟩ (show wP (allowX v k) (xs V 1 v.toNatClampNeg k) V (V 1 v.toNatClampNeg) tbIA 1 (V, f) from Or.inr ⟨(xIO, 1), List.mem_of_getElem? (i := 0) rfl, hx, rfl, rfl⟩)
    · refine x_hand C hE [⟨0, 10, 13, 13⟩] ⟨0, 10, 17, 15⟩ [] htab (fun z hz => by cases List.mem_singleton.mp hz; exact ⟨by decide, xIO, hk13, by decide +kernel⟩) rfl (by decide) hk15 (by decide +kernel) rfl hP hD hS hl hce hcv hcl ?_
      refine x_astore (i := 4) C dL_allow_17 (by decide) ?_
      refine x_iconst (v := 2) C dL_allow_19 (by decide) ?_
      refine x_ws (show cW cy a ((o, outF cy f) :: Y) V = oW cy a o Y V f from rfl) ?_
      exact x_iret (σ := XV × (Nat → Int64)) (Wf := fun (u : XV × (Nat → Int64)) => oW cy a o Y u.1 u.2) (post := fun (r : Int32) (u : XV × (Nat → Int64)) => wP (allowX v k) (xs V 1 v.toNatClampNeg k) V (V 1 v.toNatClampNeg) tbIA r u) (u := (V, f)) C dL_allow_20 ⟨Nat.le_of_ble_eq_true rfl, Nat.le_of_ble_eq_true rfl⟩ (show wP (allowX v k) (xs V 1 v.toNatClampNeg k) V (V 1 v.toNatClampNeg) tbIA 2 (V, f) from Or.inr ⟨(xIA, 2), List.mem_of_getElem? (i := 1) rfl, hx, rfl, rfl⟩)
  · obtain ⟨h1, h2, h3⟩ := h
    rw [h2, h3]
    refine x_ws (show cW cy a ((o, outF cy f) :: Y) _ = oW cy a o Y _ f from rfl) ?_
    refine x_i2l C dL_allow_8 rfl ?_
    refine x_last0 C dL_allow_9 ?_
    refine x_goto C 21 dL_allow_10 (by decide) ?_
    refine x_iconst (v := 0) C dL_allow_21 (by decide) ?_
    exact x_iret (σ := XV × (Nat → Int64)) (Wf := fun (u : XV × (Nat → Int64)) => oW cy a o Y u.1 u.2) (post := fun (r : Int32) (u : XV × (Nat → Int64)) => wP (allowX v k) (xs V 1 v.toNatClampNeg k) V (V 1 v.toNatClampNeg) tbIA r u) (u := (xs V 1 v.toNatClampNeg k, vp_updL f 0 (Int32.toInt64 (V 1 v.toNatClampNeg)))) C dL_allow_22 ⟨Nat.le_of_ble_eq_true rfl, Nat.le_of_ble_eq_true rfl⟩ (show wP (allowX v k) (xs V 1 v.toNatClampNeg k) V (V 1 v.toNatClampNeg) tbIA 0 (xs V 1 v.toNatClampNeg k, vp_updL f 0 (Int32.toInt64 (V 1 v.toNatClampNeg))) from Or.inl ⟨h1, rfl, rfl, vp_updL0 f _⟩)
def rmL_setImage : Room := { frames := 9, cells := 2, slots := 12, locals := 174 }
set_option maxHeartbeats 4000000 in
set_option maxRecDepth 100000 in
theorem k_L_setImage (l : Launch) (hfl : l.stackTraces = false) (D : va_G) (cy : Nat → ClassId) (a : Nat → Nat) (o : Nat) (A : Nat → Prop) (Y : va_W) (V : XV) (f : Nat → Int64) (v z : Int32)   (hex : exIn (setImageX v z) tbIA) : Met l yL_setImage wsL_setImage rmL_setImage (va_Pc [.ref (a 0), .int v, .int z, .ref o] (xPre D (tyC cy) A (oW cy a o Y V f))) (va_Qi (fun (r : Int32) (u : XV × (Nat → Int64)) => wP (setImageX v z) (measV (xs V 5 v.toNatClampNeg z)) V (V 5 v.toNatClampNeg) tbIA r u) (fun u t => xPost D (tyC cy) A (oW cy a o Y u.1 u.2) t) A) 2 12 A := by
  have hk13 : Cond.classLink RL 13 xIO ∈ wsL_setImage := by decide +kernel
  have hk15 : Cond.classLink RL 15 xIA ∈ wsL_setImage := by decide +kernel
  refine x_metH (own := RL) (by decide) rfl rfl (Nat.le_of_ble_eq_true rfl) rfl ?_
  intro p e s m below meth c htab C hE
  refine x_ws (show oW cy a o Y V f = cW cy a ((o, outF cy f) :: Y) V from rfl) ?_
  refine x_aload_n (i := 3) C dL_setImage_0 rfl rfl ?_
  refine x_iconst (v := 0) C dL_setImage_1 (by decide) ?_
  refine x_aload_n (i := 0) C dL_setImage_2 rfl rfl ?_
  refine x_iload_n (i := 1) C dL_setImage_3 rfl rfl ?_
  refine x_iload_n (i := 2) C dL_setImage_4 rfl rfl ?_
  refine x_callViK C hE (k_X3_setImage l hfl D cy a A ((o, outF cy f) :: Y) V v z ) (cwV 2 C.2.2.2.2.1 gL_setImage_X3_setImage rfl rfl rfl (by decide +kernel) ⟨Nat.le_of_ble_eq_true rfl, Nat.le_of_ble_eq_true rfl⟩) 0 (cW_R cy a _ _) rfl rfl rfl rfl (Nat.le_of_ble_eq_true rfl) dL_setImage_5 ⟨Nat.le_of_ble_eq_true rfl, Nat.le_of_ble_eq_true rfl⟩ (fun E hx H locs ls q9 ce hP hD hS hl hce hcv hcl => ?_) (fun r u h => ?_)
  · obtain ⟨k9, hk9⟩ := hex E hx
    simp only [tbIA, List.mem_cons, List.not_mem_nil, or_false, Prod.mk.injEq] at hk9
    rcases hk9 with ⟨rfl, rfl⟩ | ⟨rfl, rfl⟩
    · refine x_hand C hE [] ⟨0, 10, 13, 13⟩ [⟨0, 10, 17, 15⟩] htab (fun z hz => absurd hz List.not_mem_nil) rfl (by decide) hk13 (by decide +kernel) rfl hP hD hS hl hce hcv hcl ?_
      refine x_astore (i := 4) C dL_setImage_13 (by decide) ?_
      refine x_iconst (v := 1) C dL_setImage_15 (by decide) ?_
      refine x_ws (show cW cy a ((o, outF cy f) :: Y) V = oW cy a o Y V f from rfl) ?_
      exact x_iret (σ := XV × (Nat → Int64)) (Wf := fun (u : XV × (Nat → Int64)) => oW cy a o Y u.1 u.2) (post := fun (r : Int32) (u : XV × (Nat → Int64)) => wP (setImageX v z) (measV (xs V 5 v.toNatClampNeg z)) V (V 5 v.toNatClampNeg) tbIA r u) (u := (V, f)) C dL_setImage_16 ⟨Nat.le_of_ble_eq_true rfl, Nat.le_of_ble_eq_true rfl⟩ (show wP (setImageX v z) (measV (xs V 5 v.toNatClampNeg z)) V (V 5 v.toNatClampNeg) tbIA 1 (V, f) from Or.inr ⟨(xIO, 1), List.mem_of_getElem? (i := 0) rfl, hx, rfl, rfl⟩)
    · refine x_hand C hE [⟨0, 10, 13, 13⟩] ⟨0, 10, 17, 15⟩ [] htab (fun z hz => by cases List.mem_singleton.mp hz; exact ⟨by decide, xIO, hk13, by decide +kernel⟩) rfl (by decide) hk15 (by decide +kernel) rfl hP hD hS hl hce hcv hcl ?_
      refine x_astore (i := 4) C dL_setImage_17 (by decide) ?_
      refine x_iconst (v := 2) C dL_setImage_19 (by decide) ?_
      refine x_ws (show cW cy a ((o, outF cy f) :: Y) V = oW cy a o Y V f from rfl) ?_
      exact x_iret (σ := XV × (Nat → Int64)) (Wf := fun (u : XV × (Nat → Int64)) => oW cy a o Y u.1 u.2) (post := fun (r : Int32) (u : XV × (Nat → Int64)) => wP (setImageX v z) (measV (xs V 5 v.toNatClampNeg z)) V (V 5 v.toNatClampNeg) tbIA r u) (u := (V, f)) C dL_setImage_20 ⟨Nat.le_of_ble_eq_true rfl, Nat.le_of_ble_eq_true rfl⟩ (show wP (setImageX v z) (measV (xs V 5 v.toNatClampNeg z)) V (V 5 v.toNatClampNeg) tbIA 2 (V, f) from Or.inr ⟨(xIA, 2), List.mem_of_getElem? (i := 1) rfl, hx, rfl, rfl⟩)
  · obtain ⟨h1, h2, h3⟩ := h
    rw [h2, h3]
    refine x_ws (show cW cy a ((o, outF cy f) :: Y) _ = oW cy a o Y _ f from rfl) ?_
    refine x_i2l C dL_setImage_8 rfl ?_
    refine x_last0 C dL_setImage_9 ?_
    refine x_goto C 21 dL_setImage_10 (by decide) ?_
    refine x_iconst (v := 0) C dL_setImage_21 (by decide) ?_
    exact x_iret (σ := XV × (Nat → Int64)) (Wf := fun (u : XV × (Nat → Int64)) => oW cy a o Y u.1 u.2) (post := fun (r : Int32) (u : XV × (Nat → Int64)) => wP (setImageX v z) (measV (xs V 5 v.toNatClampNeg z)) V (V 5 v.toNatClampNeg) tbIA r u) (u := (measV (xs V 5 v.toNatClampNeg z), vp_updL f 0 (Int32.toInt64 (V 5 v.toNatClampNeg)))) C dL_setImage_22 ⟨Nat.le_of_ble_eq_true rfl, Nat.le_of_ble_eq_true rfl⟩ (show wP (setImageX v z) (measV (xs V 5 v.toNatClampNeg z)) V (V 5 v.toNatClampNeg) tbIA 0 (measV (xs V 5 v.toNatClampNeg z), vp_updL f 0 (Int32.toInt64 (V 5 v.toNatClampNeg))) from Or.inl ⟨h1, rfl, rfl, vp_updL0 f _⟩)
def rmL_setDelta : Room := { frames := 9, cells := 3, slots := 18, locals := 174 }
set_option maxHeartbeats 4000000 in
set_option maxRecDepth 100000 in
theorem k_L_setDelta (l : Launch) (hfl : l.stackTraces = false) (D : va_G) (cy : Nat → ClassId) (a : Nat → Nat) (o : Nat) (A : Nat → Prop) (Y : va_W) (V : XV) (f : Nat → Int64) (g t z : Int32)   (hex : exIn (setDeltaX g t z) tbIA) : Met l yL_setDelta wsL_setDelta rmL_setDelta (va_Pc [.ref (a 0), .int g, .int t, .int z, .ref o] (xPre D (tyC cy) A (oW cy a o Y V f))) (va_Qi (fun (r : Int32) (u : XV × (Nat → Int64)) => wP (setDeltaX g t z) (measV (xs V (25 + g.toNatClampNeg) t.toNatClampNeg z)) V (V (25 + g.toNatClampNeg) t.toNatClampNeg) tbIA r u) (fun u t => xPost D (tyC cy) A (oW cy a o Y u.1 u.2) t) A) 3 18 A := by
  have hk13 : Cond.classLink RL 13 xIO ∈ wsL_setDelta := by decide +kernel
  have hk15 : Cond.classLink RL 15 xIA ∈ wsL_setDelta := by decide +kernel
  refine x_metH (own := RL) (by decide) rfl rfl (Nat.le_of_ble_eq_true rfl) rfl ?_
  intro p e s m below meth c htab C hE
  refine x_ws (show oW cy a o Y V f = cW cy a ((o, outF cy f) :: Y) V from rfl) ?_
  refine x_aload (i := 4) C dL_setDelta_0 rfl ?_
  refine x_iconst (v := 0) C dL_setDelta_2 (by decide) ?_
  refine x_aload_n (i := 0) C dL_setDelta_3 rfl rfl ?_
  refine x_iload_n (i := 1) C dL_setDelta_4 rfl rfl ?_
  refine x_iload_n (i := 2) C dL_setDelta_5 rfl rfl ?_
  refine x_iload_n (i := 3) C dL_setDelta_6 rfl rfl ?_
  refine x_callViK C hE (k_X3_setDelta l hfl D cy a A ((o, outF cy f) :: Y) V g t z ) (cwV 3 C.2.2.2.2.1 gL_setDelta_X3_setDelta rfl rfl rfl (by decide +kernel) ⟨Nat.le_of_ble_eq_true rfl, Nat.le_of_ble_eq_true rfl⟩) 0 (cW_R cy a _ _) rfl rfl rfl rfl (Nat.le_of_ble_eq_true rfl) dL_setDelta_7 ⟨Nat.le_of_ble_eq_true rfl, Nat.le_of_ble_eq_true rfl⟩ (fun E hx H locs ls q9 ce hP hD hS hl hce hcv hcl => ?_) (fun r u h => ?_)
  · obtain ⟨k9, hk9⟩ := hex E hx
    simp only [tbIA, List.mem_cons, List.not_mem_nil, or_false, Prod.mk.injEq] at hk9
    rcases hk9 with ⟨rfl, rfl⟩ | ⟨rfl, rfl⟩
    · refine x_hand C hE [] ⟨0, 12, 15, 13⟩ [⟨0, 12, 19, 15⟩] htab (fun z hz => absurd hz List.not_mem_nil) rfl (by decide) hk13 (by decide +kernel) rfl hP hD hS hl hce hcv hcl ?_
      refine x_astore (i := 5) C dL_setDelta_15 (by decide) ?_
      refine x_iconst (v := 1) C dL_setDelta_17 (by decide) ?_
      refine x_ws (show cW cy a ((o, outF cy f) :: Y) V = oW cy a o Y V f from rfl) ?_
      exact x_iret (σ := XV × (Nat → Int64)) (Wf := fun (u : XV × (Nat → Int64)) => oW cy a o Y u.1 u.2) (post := fun (r : Int32) (u : XV × (Nat → Int64)) => wP (setDeltaX g t z) (measV (xs V (25 + g.toNatClampNeg) t.toNatClampNeg z)) V (V (25 + g.toNatClampNeg) t.toNatClampNeg) tbIA r u) (u := (V, f)) C dL_setDelta_18 ⟨Nat.le_of_ble_eq_true rfl, Nat.le_of_ble_eq_true rfl⟩ (show wP (setDeltaX g t z) (measV (xs V (25 + g.toNatClampNeg) t.toNatClampNeg z)) V (V (25 + g.toNatClampNeg) t.toNatClampNeg) tbIA 1 (V, f) from Or.inr ⟨(xIO, 1), List.mem_of_getElem? (i := 0) rfl, hx, rfl, rfl⟩)
    · refine x_hand C hE [⟨0, 12, 15, 13⟩] ⟨0, 12, 19, 15⟩ [] htab (fun z hz => by cases List.mem_singleton.mp hz; exact ⟨by decide, xIO, hk13, by decide +kernel⟩) rfl (by decide) hk15 (by decide +kernel) rfl hP hD hS hl hce hcv hcl ?_
      refine x_astore (i := 5) C dL_setDelta_19 (by decide) ?_
      refine x_iconst (v := 2) C dL_setDelta_21 (by decide) ?_
      refine x_ws (show cW cy a ((o, outF cy f) :: Y) V = oW cy a o Y V f from rfl) ?_
      exact x_iret (σ := XV × (Nat → Int64)) (Wf := fun (u : XV × (Nat → Int64)) => oW cy a o Y u.1 u.2) (post := fun (r : Int32) (u : XV × (Nat → Int64)) => wP (setDeltaX g t z) (measV (xs V (25 + g.toNatClampNeg) t.toNatClampNeg z)) V (V (25 + g.toNatClampNeg) t.toNatClampNeg) tbIA r u) (u := (V, f)) C dL_setDelta_22 ⟨Nat.le_of_ble_eq_true rfl, Nat.le_of_ble_eq_true rfl⟩ (show wP (setDeltaX g t z) (measV (xs V (25 + g.toNatClampNeg) t.toNatClampNeg z)) V (V (25 + g.toNatClampNeg) t.toNatClampNeg) tbIA 2 (V, f) from Or.inr ⟨(xIA, 2), List.mem_of_getElem? (i := 1) rfl, hx, rfl, rfl⟩)
  · obtain ⟨h1, h2, h3⟩ := h
    rw [h2, h3]
    refine x_ws (show cW cy a ((o, outF cy f) :: Y) _ = oW cy a o Y _ f from rfl) ?_
    refine x_i2l C dL_setDelta_10 rfl ?_
    refine x_last0 C dL_setDelta_11 ?_
    refine x_goto C 23 dL_setDelta_12 (by decide) ?_
    refine x_iconst (v := 0) C dL_setDelta_23 (by decide) ?_
    exact x_iret (σ := XV × (Nat → Int64)) (Wf := fun (u : XV × (Nat → Int64)) => oW cy a o Y u.1 u.2) (post := fun (r : Int32) (u : XV × (Nat → Int64)) => wP (setDeltaX g t z) (measV (xs V (25 + g.toNatClampNeg) t.toNatClampNeg z)) V (V (25 + g.toNatClampNeg) t.toNatClampNeg) tbIA r u) (u := (measV (xs V (25 + g.toNatClampNeg) t.toNatClampNeg z), vp_updL f 0 (Int32.toInt64 (V (25 + g.toNatClampNeg) t.toNatClampNeg)))) C dL_setDelta_24 ⟨Nat.le_of_ble_eq_true rfl, Nat.le_of_ble_eq_true rfl⟩ (show wP (setDeltaX g t z) (measV (xs V (25 + g.toNatClampNeg) t.toNatClampNeg z)) V (V (25 + g.toNatClampNeg) t.toNatClampNeg) tbIA 0 (measV (xs V (25 + g.toNatClampNeg) t.toNatClampNeg z), vp_updL f 0 (Int32.toInt64 (V (25 + g.toNatClampNeg) t.toNatClampNeg))) from Or.inl ⟨h1, rfl, rfl, vp_updL0 f _⟩)
def rmL_size : Room := { frames := 8, cells := 2, slots := 12, locals := 152 }
set_option maxHeartbeats 4000000 in
set_option maxRecDepth 100000 in
theorem k_L_size (l : Launch) (hfl : l.stackTraces = false) (D : va_G) (cy : Nat → ClassId) (a : Nat → Nat) (o : Nat) (A : Nat → Prop) (Y : va_W) (V : XV) (f : Nat → Int64) (g t : Int32)   (hex : exIn (sizeX g t) tbIO) : Met l yL_size wsL_size rmL_size (va_Pc [.ref (a 0), .int g, .int t, .ref o] (xPre D (tyC cy) A (oW cy a o Y V f))) (va_Qi (fun (r : Int32) (u : XV × (Nat → Int64)) => wP (sizeX g t) (V) V (lbI V g t) tbIO r u) (fun u t => xPost D (tyC cy) A (oW cy a o Y u.1 u.2) t) A) 2 12 A := by
  have hk13 : Cond.classLink RL 13 xIO ∈ wsL_size := by decide +kernel
  refine x_metH (own := RL) (by decide) rfl rfl (Nat.le_of_ble_eq_true rfl) rfl ?_
  intro p e s m below meth c htab C hE
  refine x_ws (show oW cy a o Y V f = cW cy a ((o, outF cy f) :: Y) V from rfl) ?_
  refine x_aload_n (i := 3) C dL_size_0 rfl rfl ?_
  refine x_iconst (v := 0) C dL_size_1 (by decide) ?_
  refine x_aload_n (i := 0) C dL_size_2 rfl rfl ?_
  refine x_iload_n (i := 1) C dL_size_3 rfl rfl ?_
  refine x_iload_n (i := 2) C dL_size_4 rfl rfl ?_
  refine x_callViK C hE (k_X3_size l hfl D cy a A ((o, outF cy f) :: Y) V g t ) (cwV 2 C.2.2.2.2.1 gL_size_X3_size rfl rfl rfl (by decide +kernel) ⟨Nat.le_of_ble_eq_true rfl, Nat.le_of_ble_eq_true rfl⟩) 0 (cW_R cy a _ _) rfl rfl rfl rfl (Nat.le_of_ble_eq_true rfl) dL_size_5 ⟨Nat.le_of_ble_eq_true rfl, Nat.le_of_ble_eq_true rfl⟩ (fun E hx H locs ls q9 ce hP hD hS hl hce hcv hcl => ?_) (fun r u h => ?_)
  · obtain ⟨k9, hk9⟩ := hex E hx
    simp only [tbIO, List.mem_cons, List.not_mem_nil, or_false, Prod.mk.injEq] at hk9
    obtain ⟨rfl, rfl⟩ := hk9
    refine x_hand C hE [] ⟨0, 10, 13, 13⟩ [] htab (fun z hz => absurd hz List.not_mem_nil) rfl (by decide) hk13 (by decide +kernel) rfl hP hD hS hl hce hcv hcl ?_
    refine x_astore (i := 4) C dL_size_13 (by decide) ?_
    refine x_iconst (v := 1) C dL_size_15 (by decide) ?_
    refine x_ws (show cW cy a ((o, outF cy f) :: Y) V = oW cy a o Y V f from rfl) ?_
    exact x_iret (σ := XV × (Nat → Int64)) (Wf := fun (u : XV × (Nat → Int64)) => oW cy a o Y u.1 u.2) (post := fun (r : Int32) (u : XV × (Nat → Int64)) => wP (sizeX g t) (V) V (lbI V g t) tbIO r u) (u := (V, f)) C dL_size_16 ⟨Nat.le_of_ble_eq_true rfl, Nat.le_of_ble_eq_true rfl⟩ (show wP (sizeX g t) (V) V (lbI V g t) tbIO 1 (V, f) from Or.inr ⟨(xIO, 1), List.mem_of_getElem? (i := 0) rfl, hx, rfl, rfl⟩)
  · obtain ⟨h1, h2, h3⟩ := h
    rw [h2, h3]
    refine x_ws (show cW cy a ((o, outF cy f) :: Y) _ = oW cy a o Y _ f from rfl) ?_
    refine x_i2l C dL_size_8 rfl ?_
    refine x_last0 C dL_size_9 ?_
    refine x_goto C 17 dL_size_10 (by decide) ?_
    refine x_iconst (v := 0) C dL_size_17 (by decide) ?_
    exact x_iret (σ := XV × (Nat → Int64)) (Wf := fun (u : XV × (Nat → Int64)) => oW cy a o Y u.1 u.2) (post := fun (r : Int32) (u : XV × (Nat → Int64)) => wP (sizeX g t) (V) V (lbI V g t) tbIO r u) (u := (V, vp_updL f 0 (Int32.toInt64 (lbI V g t)))) C dL_size_18 ⟨Nat.le_of_ble_eq_true rfl, Nat.le_of_ble_eq_true rfl⟩ (show wP (sizeX g t) (V) V (lbI V g t) tbIO 0 (V, vp_updL f 0 (Int32.toInt64 (lbI V g t))) from Or.inl ⟨h1, rfl, rfl, vp_updL0 f _⟩)
def rmL_sizeByWays : Room := { frames := 12, cells := 2, slots := 12, locals := 337 }
set_option maxHeartbeats 4000000 in
set_option maxRecDepth 100000 in
theorem k_L_sizeByWays (l : Launch) (hfl : l.stackTraces = false) (D : va_G) (cy : Nat → ClassId) (a : Nat → Nat) (o : Nat) (A : Nat → Prop) (Y : va_W) (V : XV) (f : Nat → Int64) (g t : Int32)   (hex : exIn (sizeX g t) tbIO) : Met l yL_sizeByWays wsL_sizeByWays rmL_sizeByWays (va_Pc [.ref (a 0), .int g, .int t, .ref o] (xPre D (tyC cy) A (oW cy a o Y V f))) (va_Qi (fun (r : Int32) (u : XV × (Nat → Int64)) => wP (sizeX g t) (V) V (awI V g.toNatClampNeg t.toNatClampNeg) tbIO r u) (fun u t => xPost D (tyC cy) A (oW cy a o Y u.1 u.2) t) A) 2 12 A := by
  have hk13 : Cond.classLink RL 13 xIO ∈ wsL_sizeByWays := by decide +kernel
  refine x_metH (own := RL) (by decide) rfl rfl (Nat.le_of_ble_eq_true rfl) rfl ?_
  intro p e s m below meth c htab C hE
  refine x_ws (show oW cy a o Y V f = cW cy a ((o, outF cy f) :: Y) V from rfl) ?_
  refine x_aload_n (i := 3) C dL_sizeByWays_0 rfl rfl ?_
  refine x_iconst (v := 0) C dL_sizeByWays_1 (by decide) ?_
  refine x_aload_n (i := 0) C dL_sizeByWays_2 rfl rfl ?_
  refine x_iload_n (i := 1) C dL_sizeByWays_3 rfl rfl ?_
  refine x_iload_n (i := 2) C dL_sizeByWays_4 rfl rfl ?_
  refine x_callViK C hE (k_X3_sizeByWays l hfl D cy a A ((o, outF cy f) :: Y) V g t ) (cwV 2 C.2.2.2.2.1 gL_sizeByWays_X3_sizeByWays rfl rfl rfl (by decide +kernel) ⟨Nat.le_of_ble_eq_true rfl, Nat.le_of_ble_eq_true rfl⟩) 0 (cW_R cy a _ _) rfl rfl rfl rfl (Nat.le_of_ble_eq_true rfl) dL_sizeByWays_5 ⟨Nat.le_of_ble_eq_true rfl, Nat.le_of_ble_eq_true rfl⟩ (fun E hx H locs ls q9 ce hP hD hS hl hce hcv hcl => ?_) (fun r u h => ?_)
  · obtain ⟨k9, hk9⟩ := hex E hx
    simp only [tbIO, List.mem_cons, List.not_mem_nil, or_false, Prod.mk.injEq] at hk9
    obtain ⟨rfl, rfl⟩ := hk9
    refine x_hand C hE [] ⟨0, 10, 13, 13⟩ [] htab (fun z hz => absurd hz List.not_mem_nil) rfl (by decide) hk13 (by decide +kernel) rfl hP hD hS hl hce hcv hcl ?_
    refine x_astore (i := 4) C dL_sizeByWays_13 (by decide) ?_
    refine x_iconst (v := 1) C dL_sizeByWays_15 (by decide) ?_
    refine x_ws (show cW cy a ((o, outF cy f) :: Y) V = oW cy a o Y V f from rfl) ?_
    exact x_iret (σ := XV × (Nat → Int64)) (Wf := fun (u : XV × (Nat → Int64)) => oW cy a o Y u.1 u.2) (post := fun (r : Int32) (u : XV × (Nat → Int64)) => wP (sizeX g t) (V) V (awI V g.toNatClampNeg t.toNatClampNeg) tbIO r u) (u := (V, f)) C dL_sizeByWays_16 ⟨Nat.le_of_ble_eq_true rfl, Nat.le_of_ble_eq_true rfl⟩ (show wP (sizeX g t) (V) V (awI V g.toNatClampNeg t.toNatClampNeg) tbIO 1 (V, f) from Or.inr ⟨(xIO, 1), List.mem_of_getElem? (i := 0) rfl, hx, rfl, rfl⟩)
  · obtain ⟨h1, h2, h3⟩ := h
    rw [h2, h3]
    refine x_ws (show cW cy a ((o, outF cy f) :: Y) _ = oW cy a o Y _ f from rfl) ?_
    refine x_i2l C dL_sizeByWays_8 rfl ?_
    refine x_last0 C dL_sizeByWays_9 ?_
    refine x_goto C 17 dL_sizeByWays_10 (by decide) ?_
    refine x_iconst (v := 0) C dL_sizeByWays_17 (by decide) ?_
    exact x_iret (σ := XV × (Nat → Int64)) (Wf := fun (u : XV × (Nat → Int64)) => oW cy a o Y u.1 u.2) (post := fun (r : Int32) (u : XV × (Nat → Int64)) => wP (sizeX g t) (V) V (awI V g.toNatClampNeg t.toNatClampNeg) tbIO r u) (u := (V, vp_updL f 0 (Int32.toInt64 (awI V g.toNatClampNeg t.toNatClampNeg)))) C dL_sizeByWays_18 ⟨Nat.le_of_ble_eq_true rfl, Nat.le_of_ble_eq_true rfl⟩ (show wP (sizeX g t) (V) V (awI V g.toNatClampNeg t.toNatClampNeg) tbIO 0 (V, vp_updL f 0 (Int32.toInt64 (awI V g.toNatClampNeg t.toNatClampNeg))) from Or.inl ⟨h1, rfl, rfl, vp_updL0 f _⟩)
def rmL_addDevice : Room := { frames := 8, cells := 2, slots := 12, locals := 152 }
set_option maxHeartbeats 4000000 in
set_option maxRecDepth 100000 in
theorem k_L_addDevice (l : Launch) (hfl : l.stackTraces = false) (D : va_G) (cy : Nat → ClassId) (a : Nat → Nat) (o : Nat) (A : Nat → Prop) (Y : va_W) (V : XV) (f : Nat → Int64) (k v : Int32) {n : Nat} (hn : V 0 4 = nI n) (hn10 : n ≤ 10)  (hex : exIn (addDeviceX V k v) tbIS) : Met l yL_addDevice wsL_addDevice rmL_addDevice (va_Pc [.ref (a 0), .int k, .int v, .ref o] (xPre D (tyC cy) A (oW cy a o Y V f))) (va_Qi (fun (r : Int32) (u : XV × (Nat → Int64)) => wP (addDeviceX V k v) (addV V n k v) V (addV V n k v (9 + n) 0) tbIS r u) (fun u t => xPost D (tyC cy) A (oW cy a o Y u.1 u.2) t) A) 2 12 A := by
  have hk13 : Cond.classLink RL 13 xIO ∈ wsL_addDevice := by decide +kernel
  have hk33 : Cond.classLink RL 33 xIS ∈ wsL_addDevice := by decide +kernel
  refine x_metH (own := RL) (by decide) rfl rfl (Nat.le_of_ble_eq_true rfl) rfl ?_
  intro p e s m below meth c htab C hE
  refine x_ws (show oW cy a o Y V f = cW cy a ((o, outF cy f) :: Y) V from rfl) ?_
  refine x_aload_n (i := 3) C dL_addDevice_0 rfl rfl ?_
  refine x_iconst (v := 0) C dL_addDevice_1 (by decide) ?_
  refine x_aload_n (i := 0) C dL_addDevice_2 rfl rfl ?_
  refine x_iload_n (i := 1) C dL_addDevice_3 rfl rfl ?_
  refine x_iload_n (i := 2) C dL_addDevice_4 rfl rfl ?_
  refine x_callViK C hE (k_X3_addDevice l hfl D cy a A ((o, outF cy f) :: Y) V k v hn hn10) (cwV 2 C.2.2.2.2.1 gL_addDevice_X3_addDevice rfl rfl rfl (by decide +kernel) ⟨Nat.le_of_ble_eq_true rfl, Nat.le_of_ble_eq_true rfl⟩) 0 (cW_R cy a _ _) rfl rfl rfl rfl (Nat.le_of_ble_eq_true rfl) dL_addDevice_5 ⟨Nat.le_of_ble_eq_true rfl, Nat.le_of_ble_eq_true rfl⟩ (fun E hx H locs ls q9 ce hP hD hS hl hce hcv hcl => ?_) (fun r u h => ?_)
  · obtain ⟨k9, hk9⟩ := hex E hx
    simp only [tbIS, List.mem_cons, List.not_mem_nil, or_false, Prod.mk.injEq] at hk9
    rcases hk9 with ⟨rfl, rfl⟩ | ⟨rfl, rfl⟩
    · refine x_hand C hE [] ⟨0, 10, 13, 13⟩ [⟨0, 10, 17, 33⟩] htab (fun z hz => absurd hz List.not_mem_nil) rfl (by decide) hk13 (by decide +kernel) rfl hP hD hS hl hce hcv hcl ?_
      refine x_astore (i := 4) C dL_addDevice_13 (by decide) ?_
      refine x_iconst (v := 1) C dL_addDevice_15 (by decide) ?_
      refine x_ws (show cW cy a ((o, outF cy f) :: Y) V = oW cy a o Y V f from rfl) ?_
      exact x_iret (σ := XV × (Nat → Int64)) (Wf := fun (u : XV × (Nat → Int64)) => oW cy a o Y u.1 u.2) (post := fun (r : Int32) (u : XV × (Nat → Int64)) => wP (addDeviceX V k v) (addV V n k v) V (addV V n k v (9 + n) 0) tbIS r u) (u := (V, f)) C dL_addDevice_16 ⟨Nat.le_of_ble_eq_true rfl, Nat.le_of_ble_eq_true rfl⟩ (show wP (addDeviceX V k v) (addV V n k v) V (addV V n k v (9 + n) 0) tbIS 1 (V, f) from Or.inr ⟨(xIO, 1), List.mem_of_getElem? (i := 0) rfl, hx, rfl, rfl⟩)
    · refine x_hand C hE [⟨0, 10, 13, 13⟩] ⟨0, 10, 17, 33⟩ [] htab (fun z hz => by cases List.mem_singleton.mp hz; exact ⟨by decide, xIO, hk13, by decide +kernel⟩) rfl (by decide) hk33 (by decide +kernel) rfl hP hD hS hl hce hcv hcl ?_
      refine x_astore (i := 4) C dL_addDevice_17 (by decide) ?_
      refine x_iconst (v := 2) C dL_addDevice_19 (by decide) ?_
      refine x_ws (show cW cy a ((o, outF cy f) :: Y) V = oW cy a o Y V f from rfl) ?_
      exact x_iret (σ := XV × (Nat → Int64)) (Wf := fun (u : XV × (Nat → Int64)) => oW cy a o Y u.1 u.2) (post := fun (r : Int32) (u : XV × (Nat → Int64)) => wP (addDeviceX V k v) (addV V n k v) V (addV V n k v (9 + n) 0) tbIS r u) (u := (V, f)) C dL_addDevice_20 ⟨Nat.le_of_ble_eq_true rfl, Nat.le_of_ble_eq_true rfl⟩ (show wP (addDeviceX V k v) (addV V n k v) V (addV V n k v (9 + n) 0) tbIS 2 (V, f) from Or.inr ⟨(xIS, 2), List.mem_of_getElem? (i := 1) rfl, hx, rfl, rfl⟩)
  · obtain ⟨h1, h2, h3⟩ := h
    rw [h2, h3]
    refine x_ws (show cW cy a ((o, outF cy f) :: Y) _ = oW cy a o Y _ f from rfl) ?_
    refine x_i2l C dL_addDevice_8 rfl ?_
    refine x_last0 C dL_addDevice_9 ?_
    refine x_goto C 21 dL_addDevice_10 (by decide) ?_
    refine x_iconst (v := 0) C dL_addDevice_21 (by decide) ?_
    exact x_iret (σ := XV × (Nat → Int64)) (Wf := fun (u : XV × (Nat → Int64)) => oW cy a o Y u.1 u.2) (post := fun (r : Int32) (u : XV × (Nat → Int64)) => wP (addDeviceX V k v) (addV V n k v) V (addV V n k v (9 + n) 0) tbIS r u) (u := (addV V n k v, vp_updL f 0 (Int32.toInt64 (addV V n k v (9 + n) 0)))) C dL_addDevice_22 ⟨Nat.le_of_ble_eq_true rfl, Nat.le_of_ble_eq_true rfl⟩ (show wP (addDeviceX V k v) (addV V n k v) V (addV V n k v (9 + n) 0) tbIS 0 (addV V n k v, vp_updL f 0 (Int32.toInt64 (addV V n k v (9 + n) 0))) from Or.inl ⟨h1, rfl, rfl, vp_updL0 f _⟩)
def rmL_charge : Room := { frames := 8, cells := 2, slots := 12, locals := 154 }
set_option maxHeartbeats 4000000 in
set_option maxRecDepth 100000 in
theorem k_L_charge (l : Launch) (hfl : l.stackTraces = false) (D : va_G) (cy : Nat → ClassId) (a : Nat → Nat) (o : Nat) (A : Nat → Prop) (Y : va_W) (V : XV) (f : Nat → Int64) (d z : Int32) (hn : (V 0 4).toInt ≤ 10)  (hex : exIn (chargeX V d z) tbIA) : Met l yL_charge wsL_charge rmL_charge (va_Pc [.ref (a 0), .int d, .int z, .ref o] (xPre D (tyC cy) A (oW cy a o Y V f))) (va_Qi (fun (r : Int32) (u : XV × (Nat → Int64)) => wP (chargeX V d z) (xs V (9 + d.toNatClampNeg) 3 z) V (V (9 + d.toNatClampNeg) 3) tbIA r u) (fun u t => xPost D (tyC cy) A (oW cy a o Y u.1 u.2) t) A) 2 12 A := by
  have hk13 : Cond.classLink RL 13 xIO ∈ wsL_charge := by decide +kernel
  have hk15 : Cond.classLink RL 15 xIA ∈ wsL_charge := by decide +kernel
  refine x_metH (own := RL) (by decide) rfl rfl (Nat.le_of_ble_eq_true rfl) rfl ?_
  intro p e s m below meth c htab C hE
  refine x_ws (show oW cy a o Y V f = cW cy a ((o, outF cy f) :: Y) V from rfl) ?_
  refine x_aload_n (i := 3) C dL_charge_0 rfl rfl ?_
  refine x_iconst (v := 0) C dL_charge_1 (by decide) ?_
  refine x_aload_n (i := 0) C dL_charge_2 rfl rfl ?_
  refine x_iload_n (i := 1) C dL_charge_3 rfl rfl ?_
  refine x_iload_n (i := 2) C dL_charge_4 rfl rfl ?_
  refine x_callViK C hE (k_X3_charge l hfl D cy a A ((o, outF cy f) :: Y) V d z hn) (cwV 2 C.2.2.2.2.1 gL_charge_X3_charge rfl rfl rfl (by decide +kernel) ⟨Nat.le_of_ble_eq_true rfl, Nat.le_of_ble_eq_true rfl⟩) 0 (cW_R cy a _ _) rfl rfl rfl rfl (Nat.le_of_ble_eq_true rfl) dL_charge_5 ⟨Nat.le_of_ble_eq_true rfl, Nat.le_of_ble_eq_true rfl⟩ (fun E hx H locs ls q9 ce hP hD hS hl hce hcv hcl => ?_) (fun r u h => ?_)
  · obtain ⟨k9, hk9⟩ := hex E hx
    simp only [tbIA, List.mem_cons, List.not_mem_nil, or_false, Prod.mk.injEq] at hk9
    rcases hk9 with ⟨rfl, rfl⟩ | ⟨rfl, rfl⟩
    · refine x_hand C hE [] ⟨0, 10, 13, 13⟩ [⟨0, 10, 17, 15⟩] htab (fun z hz => absurd hz List.not_mem_nil) rfl (by decide) hk13 (by decide +kernel) rfl hP hD hS hl hce hcv hcl ?_
      refine x_astore (i := 4) C dL_charge_13 (by decide) ?_
      refine x_iconst (v := 1) C dL_charge_15 (by decide) ?_
      refine x_ws (show cW cy a ((o, outF cy f) :: Y) V = oW cy a o Y V f from rfl) ?_
      exact x_iret (σ := XV × (Nat → Int64)) (Wf := fun (u : XV × (Nat → Int64)) => oW cy a o Y u.1 u.2) (post := fun (r : Int32) (u : XV × (Nat → Int64)) => wP (chargeX V d z) (xs V (9 + d.toNatClampNeg) 3 z) V (V (9 + d.toNatClampNeg) 3) tbIA r u) (u := (V, f)) C dL_charge_16 ⟨Nat.le_of_ble_eq_true rfl, Nat.le_of_ble_eq_true rfl⟩ (show wP (chargeX V d z) (xs V (9 + d.toNatClampNeg) 3 z) V (V (9 + d.toNatClampNeg) 3) tbIA 1 (V, f) from Or.inr ⟨(xIO, 1), List.mem_of_getElem? (i := 0) rfl, hx, rfl, rfl⟩)
    · refine x_hand C hE [⟨0, 10, 13, 13⟩] ⟨0, 10, 17, 15⟩ [] htab (fun z hz => by cases List.mem_singleton.mp hz; exact ⟨by decide, xIO, hk13, by decide +kernel⟩) rfl (by decide) hk15 (by decide +kernel) rfl hP hD hS hl hce hcv hcl ?_
      refine x_astore (i := 4) C dL_charge_17 (by decide) ?_
      refine x_iconst (v := 2) C dL_charge_19 (by decide) ?_
      refine x_ws (show cW cy a ((o, outF cy f) :: Y) V = oW cy a o Y V f from rfl) ?_
      exact x_iret (σ := XV × (Nat → Int64)) (Wf := fun (u : XV × (Nat → Int64)) => oW cy a o Y u.1 u.2) (post := fun (r : Int32) (u : XV × (Nat → Int64)) => wP (chargeX V d z) (xs V (9 + d.toNatClampNeg) 3 z) V (V (9 + d.toNatClampNeg) 3) tbIA r u) (u := (V, f)) C dL_charge_20 ⟨Nat.le_of_ble_eq_true rfl, Nat.le_of_ble_eq_true rfl⟩ (show wP (chargeX V d z) (xs V (9 + d.toNatClampNeg) 3 z) V (V (9 + d.toNatClampNeg) 3) tbIA 2 (V, f) from Or.inr ⟨(xIA, 2), List.mem_of_getElem? (i := 1) rfl, hx, rfl, rfl⟩)
  · obtain ⟨h1, h2, h3⟩ := h
    rw [h2, h3]
    refine x_ws (show cW cy a ((o, outF cy f) :: Y) _ = oW cy a o Y _ f from rfl) ?_
    refine x_i2l C dL_charge_8 rfl ?_
    refine x_last0 C dL_charge_9 ?_
    refine x_goto C 21 dL_charge_10 (by decide) ?_
    refine x_iconst (v := 0) C dL_charge_21 (by decide) ?_
    exact x_iret (σ := XV × (Nat → Int64)) (Wf := fun (u : XV × (Nat → Int64)) => oW cy a o Y u.1 u.2) (post := fun (r : Int32) (u : XV × (Nat → Int64)) => wP (chargeX V d z) (xs V (9 + d.toNatClampNeg) 3 z) V (V (9 + d.toNatClampNeg) 3) tbIA r u) (u := (xs V (9 + d.toNatClampNeg) 3 z, vp_updL f 0 (Int32.toInt64 (V (9 + d.toNatClampNeg) 3)))) C dL_charge_22 ⟨Nat.le_of_ble_eq_true rfl, Nat.le_of_ble_eq_true rfl⟩ (show wP (chargeX V d z) (xs V (9 + d.toNatClampNeg) 3 z) V (V (9 + d.toNatClampNeg) 3) tbIA 0 (xs V (9 + d.toNatClampNeg) 3 z, vp_updL f 0 (Int32.toInt64 (V (9 + d.toNatClampNeg) 3))) from Or.inl ⟨h1, rfl, rfl, vp_updL0 f _⟩)
def rmL_setWindow : Room := { frames := 8, cells := 3, slots := 18, locals := 154 }
set_option maxHeartbeats 4000000 in
set_option maxRecDepth 100000 in
theorem k_L_setWindow (l : Launch) (hfl : l.stackTraces = false) (D : va_G) (cy : Nat → ClassId) (a : Nat → Nat) (o : Nat) (A : Nat → Prop) (Y : va_W) (V : XV) (f : Nat → Int64) (d g t : Int32) (hn : (V 0 4).toInt ≤ 10)  (hex : exIn (windowX V d g t) tbIA) : Met l yL_setWindow wsL_setWindow rmL_setWindow (va_Pc [.ref (a 0), .int d, .int g, .int t] (xPre D (tyC cy) A (oW cy a o Y V f))) (va_Qi (fun (r : Int32) (u : XV × (Nat → Int64)) => wV (windowX V d g t) (xs (xs V (9 + d.toNatClampNeg) 4 g) (9 + d.toNatClampNeg) 5 t) V tbIA r u) (fun u t => xPost D (tyC cy) A (oW cy a o Y u.1 u.2) t) A) 3 18 A := by
  have hk13 : Cond.classLink RL 13 xIO ∈ wsL_setWindow := by decide +kernel
  have hk15 : Cond.classLink RL 15 xIA ∈ wsL_setWindow := by decide +kernel
  refine x_metH (own := RL) (by decide) rfl rfl (Nat.le_of_ble_eq_true rfl) rfl ?_
  intro p e s m below meth c htab C hE
  refine x_ws (show oW cy a o Y V f = cW cy a ((o, outF cy f) :: Y) V from rfl) ?_
  refine x_aload_n (i := 0) C dL_setWindow_0 rfl rfl ?_
  refine x_iload_n (i := 1) C dL_setWindow_1 rfl rfl ?_
  refine x_iload_n (i := 2) C dL_setWindow_2 rfl rfl ?_
  refine x_iload_n (i := 3) C dL_setWindow_3 rfl rfl ?_
  refine x_callVvK C hE (k_X3_setWindow l hfl D cy a A ((o, outF cy f) :: Y) V d g t hn) (cwV 3 C.2.2.2.2.1 gL_setWindow_X3_setWindow rfl rfl rfl (by decide +kernel) ⟨Nat.le_of_ble_eq_true rfl, Nat.le_of_ble_eq_true rfl⟩) 0 (cW_R cy a _ _) rfl rfl rfl rfl (Nat.le_of_ble_eq_true rfl) dL_setWindow_4 ⟨Nat.le_of_ble_eq_true rfl, Nat.le_of_ble_eq_true rfl⟩ (fun E hx H locs ls q9 ce hP hD hS hl hce hcv hcl => ?_) (fun u h => ?_)
  · obtain ⟨k9, hk9⟩ := hex E hx
    simp only [tbIA, List.mem_cons, List.not_mem_nil, or_false, Prod.mk.injEq] at hk9
    rcases hk9 with ⟨rfl, rfl⟩ | ⟨rfl, rfl⟩
    · refine x_hand C hE [] ⟨0, 7, 10, 13⟩ [⟨0, 7, 14, 15⟩] htab (fun z hz => absurd hz List.not_mem_nil) rfl (by decide) hk13 (by decide +kernel) rfl hP hD hS hl hce hcv hcl ?_
      refine x_astore (i := 4) C dL_setWindow_10 (by decide) ?_
      refine x_iconst (v := 1) C dL_setWindow_12 (by decide) ?_
      refine x_ws (show cW cy a ((o, outF cy f) :: Y) V = oW cy a o Y V f from rfl) ?_
      exact x_iret (σ := XV × (Nat → Int64)) (Wf := fun (u : XV × (Nat → Int64)) => oW cy a o Y u.1 u.2) (post := fun (r : Int32) (u : XV × (Nat → Int64)) => wV (windowX V d g t) (xs (xs V (9 + d.toNatClampNeg) 4 g) (9 + d.toNatClampNeg) 5 t) V tbIA r u) (u := (V, f)) C dL_setWindow_13 ⟨Nat.le_of_ble_eq_true rfl, Nat.le_of_ble_eq_true rfl⟩ (show wV (windowX V d g t) (xs (xs V (9 + d.toNatClampNeg) 4 g) (9 + d.toNatClampNeg) 5 t) V tbIA 1 (V, f) from Or.inr ⟨(xIO, 1), List.mem_of_getElem? (i := 0) rfl, hx, rfl, rfl⟩)
    · refine x_hand C hE [⟨0, 7, 10, 13⟩] ⟨0, 7, 14, 15⟩ [] htab (fun z hz => by cases List.mem_singleton.mp hz; exact ⟨by decide, xIO, hk13, by decide +kernel⟩) rfl (by decide) hk15 (by decide +kernel) rfl hP hD hS hl hce hcv hcl ?_
      refine x_astore (i := 4) C dL_setWindow_14 (by decide) ?_
      refine x_iconst (v := 2) C dL_setWindow_16 (by decide) ?_
      refine x_ws (show cW cy a ((o, outF cy f) :: Y) V = oW cy a o Y V f from rfl) ?_
      exact x_iret (σ := XV × (Nat → Int64)) (Wf := fun (u : XV × (Nat → Int64)) => oW cy a o Y u.1 u.2) (post := fun (r : Int32) (u : XV × (Nat → Int64)) => wV (windowX V d g t) (xs (xs V (9 + d.toNatClampNeg) 4 g) (9 + d.toNatClampNeg) 5 t) V tbIA r u) (u := (V, f)) C dL_setWindow_17 ⟨Nat.le_of_ble_eq_true rfl, Nat.le_of_ble_eq_true rfl⟩ (show wV (windowX V d g t) (xs (xs V (9 + d.toNatClampNeg) 4 g) (9 + d.toNatClampNeg) 5 t) V tbIA 2 (V, f) from Or.inr ⟨(xIA, 2), List.mem_of_getElem? (i := 1) rfl, hx, rfl, rfl⟩)
  · obtain ⟨h1, h3⟩ := h
    rw [h3]
    refine x_ws (show cW cy a ((o, outF cy f) :: Y) _ = oW cy a o Y _ f from rfl) ?_
    refine x_goto C 18 dL_setWindow_7 (by decide) ?_
    refine x_iconst (v := 0) C dL_setWindow_18 (by decide) ?_
    exact x_iret (σ := XV × (Nat → Int64)) (Wf := fun (u : XV × (Nat → Int64)) => oW cy a o Y u.1 u.2) (post := fun (r : Int32) (u : XV × (Nat → Int64)) => wV (windowX V d g t) (xs (xs V (9 + d.toNatClampNeg) 4 g) (9 + d.toNatClampNeg) 5 t) V tbIA r u) (u := (xs (xs V (9 + d.toNatClampNeg) 4 g) (9 + d.toNatClampNeg) 5 t, f)) C dL_setWindow_19 ⟨Nat.le_of_ble_eq_true rfl, Nat.le_of_ble_eq_true rfl⟩ (show wV (windowX V d g t) (xs (xs V (9 + d.toNatClampNeg) 4 g) (9 + d.toNatClampNeg) 5 t) V tbIA 0 (xs (xs V (9 + d.toNatClampNeg) 4 g) (9 + d.toNatClampNeg) 5 t, f) from Or.inl ⟨h1, rfl, rfl⟩)
def rmL_report : Room := { frames := 9, cells := 3, slots := 18, locals := 174 }
set_option maxHeartbeats 4000000 in
set_option maxRecDepth 100000 in
theorem k_L_report (l : Launch) (hfl : l.stackTraces = false) (D : va_G) (cy : Nat → ClassId) (a : Nat → Nat) (o : Nat) (A : Nat → Prop) (Y : va_W) (V : XV) (f : Nat → Int64) (d z : Int32) (hn : (V 0 4).toInt ≤ 10) (hm : (V 0 5).toInt ≤ 6)  (hex : exIn (reportX V d) tbIS) : Met l yL_report wsL_report rmL_report (va_Pc [.ref (a 0), .int d, .int z, .ref o] (xPre D (tyC cy) A (oW cy a o Y V f))) (va_Qi (fun (r : Int32) (u : XV × (Nat → Int64)) => wP (reportX V d) (reportV V (9 + d.toNatClampNeg) (19 + (V (9 + d.toNatClampNeg) 7).toNatClampNeg) z) V (reportV V (9 + d.toNatClampNeg) (19 + (V (9 + d.toNatClampNeg) 7).toNatClampNeg) z (9 + d.toNatClampNeg) 2) tbIS r u) (fun u t => xPost D (tyC cy) A (oW cy a o Y u.1 u.2) t) A) 3 18 A := by
  have hk13 : Cond.classLink RL 13 xIO ∈ wsL_report := by decide +kernel
  have hk33 : Cond.classLink RL 33 xIS ∈ wsL_report := by decide +kernel
  refine x_metH (own := RL) (by decide) rfl rfl (Nat.le_of_ble_eq_true rfl) rfl ?_
  intro p e s m below meth c htab C hE
  refine x_ws (show oW cy a o Y V f = cW cy a ((o, outF cy f) :: Y) V from rfl) ?_
  refine x_aload_n (i := 3) C dL_report_0 rfl rfl ?_
  refine x_iconst (v := 0) C dL_report_1 (by decide) ?_
  refine x_aload_n (i := 0) C dL_report_2 rfl rfl ?_
  refine x_iload_n (i := 1) C dL_report_3 rfl rfl ?_
  refine x_iload_n (i := 2) C dL_report_4 rfl rfl ?_
  refine x_callViK C hE (k_X3_report l hfl D cy a A ((o, outF cy f) :: Y) V d z hn hm) (cwV 2 C.2.2.2.2.1 gL_report_X3_report rfl rfl rfl (by decide +kernel) ⟨Nat.le_of_ble_eq_true rfl, Nat.le_of_ble_eq_true rfl⟩) 0 (cW_R cy a _ _) rfl rfl rfl rfl (Nat.le_of_ble_eq_true rfl) dL_report_5 ⟨Nat.le_of_ble_eq_true rfl, Nat.le_of_ble_eq_true rfl⟩ (fun E hx H locs ls q9 ce hP hD hS hl hce hcv hcl => ?_) (fun r u h => ?_)
  · obtain ⟨k9, hk9⟩ := hex E hx
    simp only [tbIS, List.mem_cons, List.not_mem_nil, or_false, Prod.mk.injEq] at hk9
    rcases hk9 with ⟨rfl, rfl⟩ | ⟨rfl, rfl⟩
    · refine x_hand C hE [] ⟨0, 10, 13, 13⟩ [⟨0, 10, 17, 33⟩] htab (fun z hz => absurd hz List.not_mem_nil) rfl (by decide) hk13 (by decide +kernel) rfl hP hD hS hl hce hcv hcl ?_
      refine x_astore (i := 4) C dL_report_13 (by decide) ?_
      refine x_iconst (v := 1) C dL_report_15 (by decide) ?_
      refine x_ws (show cW cy a ((o, outF cy f) :: Y) V = oW cy a o Y V f from rfl) ?_
      exact x_iret (σ := XV × (Nat → Int64)) (Wf := fun (u : XV × (Nat → Int64)) => oW cy a o Y u.1 u.2) (post := fun (r : Int32) (u : XV × (Nat → Int64)) => wP (reportX V d) (reportV V (9 + d.toNatClampNeg) (19 + (V (9 + d.toNatClampNeg) 7).toNatClampNeg) z) V (reportV V (9 + d.toNatClampNeg) (19 + (V (9 + d.toNatClampNeg) 7).toNatClampNeg) z (9 + d.toNatClampNeg) 2) tbIS r u) (u := (V, f)) C dL_report_16 ⟨Nat.le_of_ble_eq_true rfl, Nat.le_of_ble_eq_true rfl⟩ (show wP (reportX V d) (reportV V (9 + d.toNatClampNeg) (19 + (V (9 + d.toNatClampNeg) 7).toNatClampNeg) z) V (reportV V (9 + d.toNatClampNeg) (19 + (V (9 + d.toNatClampNeg) 7).toNatClampNeg) z (9 + d.toNatClampNeg) 2) tbIS 1 (V, f) from Or.inr ⟨(xIO, 1), List.mem_of_getElem? (i := 0) rfl, hx, rfl, rfl⟩)
    · refine x_hand C hE [⟨0, 10, 13, 13⟩] ⟨0, 10, 17, 33⟩ [] htab (fun z hz => by cases List.mem_singleton.mp hz; exact ⟨by decide, xIO, hk13, by decide +kernel⟩) rfl (by decide) hk33 (by decide +kernel) rfl hP hD hS hl hce hcv hcl ?_
      refine x_astore (i := 4) C dL_report_17 (by decide) ?_
      refine x_iconst (v := 2) C dL_report_19 (by decide) ?_
      refine x_ws (show cW cy a ((o, outF cy f) :: Y) V = oW cy a o Y V f from rfl) ?_
      exact x_iret (σ := XV × (Nat → Int64)) (Wf := fun (u : XV × (Nat → Int64)) => oW cy a o Y u.1 u.2) (post := fun (r : Int32) (u : XV × (Nat → Int64)) => wP (reportX V d) (reportV V (9 + d.toNatClampNeg) (19 + (V (9 + d.toNatClampNeg) 7).toNatClampNeg) z) V (reportV V (9 + d.toNatClampNeg) (19 + (V (9 + d.toNatClampNeg) 7).toNatClampNeg) z (9 + d.toNatClampNeg) 2) tbIS r u) (u := (V, f)) C dL_report_20 ⟨Nat.le_of_ble_eq_true rfl, Nat.le_of_ble_eq_true rfl⟩ (show wP (reportX V d) (reportV V (9 + d.toNatClampNeg) (19 + (V (9 + d.toNatClampNeg) 7).toNatClampNeg) z) V (reportV V (9 + d.toNatClampNeg) (19 + (V (9 + d.toNatClampNeg) 7).toNatClampNeg) z (9 + d.toNatClampNeg) 2) tbIS 2 (V, f) from Or.inr ⟨(xIS, 2), List.mem_of_getElem? (i := 1) rfl, hx, rfl, rfl⟩)
  · obtain ⟨h1, h2, h3⟩ := h
    rw [h2, h3]
    refine x_ws (show cW cy a ((o, outF cy f) :: Y) _ = oW cy a o Y _ f from rfl) ?_
    refine x_i2l C dL_report_8 rfl ?_
    refine x_last0 C dL_report_9 ?_
    refine x_goto C 21 dL_report_10 (by decide) ?_
    refine x_iconst (v := 0) C dL_report_21 (by decide) ?_
    exact x_iret (σ := XV × (Nat → Int64)) (Wf := fun (u : XV × (Nat → Int64)) => oW cy a o Y u.1 u.2) (post := fun (r : Int32) (u : XV × (Nat → Int64)) => wP (reportX V d) (reportV V (9 + d.toNatClampNeg) (19 + (V (9 + d.toNatClampNeg) 7).toNatClampNeg) z) V (reportV V (9 + d.toNatClampNeg) (19 + (V (9 + d.toNatClampNeg) 7).toNatClampNeg) z (9 + d.toNatClampNeg) 2) tbIS r u) (u := (reportV V (9 + d.toNatClampNeg) (19 + (V (9 + d.toNatClampNeg) 7).toNatClampNeg) z, vp_updL f 0 (Int32.toInt64 (reportV V (9 + d.toNatClampNeg) (19 + (V (9 + d.toNatClampNeg) 7).toNatClampNeg) z (9 + d.toNatClampNeg) 2)))) C dL_report_22 ⟨Nat.le_of_ble_eq_true rfl, Nat.le_of_ble_eq_true rfl⟩ (show wP (reportX V d) (reportV V (9 + d.toNatClampNeg) (19 + (V (9 + d.toNatClampNeg) 7).toNatClampNeg) z) V (reportV V (9 + d.toNatClampNeg) (19 + (V (9 + d.toNatClampNeg) 7).toNatClampNeg) z (9 + d.toNatClampNeg) 2) tbIS 0 (reportV V (9 + d.toNatClampNeg) (19 + (V (9 + d.toNatClampNeg) 7).toNatClampNeg) z, vp_updL f 0 (Int32.toInt64 (reportV V (9 + d.toNatClampNeg) (19 + (V (9 + d.toNatClampNeg) 7).toNatClampNeg) z (9 + d.toNatClampNeg) 2))) from Or.inl ⟨h1, rfl, rfl, vp_updL0 f _⟩)
def rmL_state : Room := { frames := 8, cells := 1, slots := 6, locals := 153 }
set_option maxHeartbeats 4000000 in
set_option maxRecDepth 100000 in
theorem k_L_state (l : Launch) (hfl : l.stackTraces = false) (D : va_G) (cy : Nat → ClassId) (a : Nat → Nat) (o : Nat) (A : Nat → Prop) (Y : va_W) (V : XV) (f : Nat → Int64) (d : Int32) (hn : (V 0 4).toInt ≤ 10)  (hex : exIn (nDx V d) tbIO) : Met l yL_state wsL_state rmL_state (va_Pc [.ref (a 0), .int d, .ref o] (xPre D (tyC cy) A (oW cy a o Y V f))) (va_Qi (fun (r : Int32) (u : XV × (Nat → Int64)) => wP (nDx V d) (V) V (V (9 + d.toNatClampNeg) 6) tbIO r u) (fun u t => xPost D (tyC cy) A (oW cy a o Y u.1 u.2) t) A) 1 6 A := by
  have hk13 : Cond.classLink RL 13 xIO ∈ wsL_state := by decide +kernel
  refine x_metH (own := RL) (by decide) rfl rfl (Nat.le_of_ble_eq_true rfl) rfl ?_
  intro p e s m below meth c htab C hE
  refine x_ws (show oW cy a o Y V f = cW cy a ((o, outF cy f) :: Y) V from rfl) ?_
  refine x_aload_n (i := 2) C dL_state_0 rfl rfl ?_
  refine x_iconst (v := 0) C dL_state_1 (by decide) ?_
  refine x_aload_n (i := 0) C dL_state_2 rfl rfl ?_
  refine x_iload_n (i := 1) C dL_state_3 rfl rfl ?_
  refine x_callViK C hE (k_X3_state l hfl D cy a A ((o, outF cy f) :: Y) V d hn) (cwV 1 C.2.2.2.2.1 gL_state_X3_state rfl rfl rfl (by decide +kernel) ⟨Nat.le_of_ble_eq_true rfl, Nat.le_of_ble_eq_true rfl⟩) 0 (cW_R cy a _ _) rfl rfl rfl rfl (Nat.le_of_ble_eq_true rfl) dL_state_4 ⟨Nat.le_of_ble_eq_true rfl, Nat.le_of_ble_eq_true rfl⟩ (fun E hx H locs ls q9 ce hP hD hS hl hce hcv hcl => ?_) (fun r u h => ?_)
  · obtain ⟨k9, hk9⟩ := hex E hx
    simp only [tbIO, List.mem_cons, List.not_mem_nil, or_false, Prod.mk.injEq] at hk9
    obtain ⟨rfl, rfl⟩ := hk9
    refine x_hand C hE [] ⟨0, 9, 12, 13⟩ [] htab (fun z hz => absurd hz List.not_mem_nil) rfl (by decide) hk13 (by decide +kernel) rfl hP hD hS hl hce hcv hcl ?_
    refine x_astore_n (i := 3) C dL_state_12 rfl (by decide) ?_
    refine x_iconst (v := 1) C dL_state_13 (by decide) ?_
    refine x_ws (show cW cy a ((o, outF cy f) :: Y) V = oW cy a o Y V f from rfl) ?_
    exact x_iret (σ := XV × (Nat → Int64)) (Wf := fun (u : XV × (Nat → Int64)) => oW cy a o Y u.1 u.2) (post := fun (r : Int32) (u : XV × (Nat → Int64)) => wP (nDx V d) (V) V (V (9 + d.toNatClampNeg) 6) tbIO r u) (u := (V, f)) C dL_state_14 ⟨Nat.le_of_ble_eq_true rfl, Nat.le_of_ble_eq_true rfl⟩ (show wP (nDx V d) (V) V (V (9 + d.toNatClampNeg) 6) tbIO 1 (V, f) from Or.inr ⟨(xIO, 1), List.mem_of_getElem? (i := 0) rfl, hx, rfl, rfl⟩)
  · obtain ⟨h1, h2, h3⟩ := h
    rw [h2, h3]
    refine x_ws (show cW cy a ((o, outF cy f) :: Y) _ = oW cy a o Y _ f from rfl) ?_
    refine x_i2l C dL_state_7 rfl ?_
    refine x_last0 C dL_state_8 ?_
    refine x_goto C 15 dL_state_9 (by decide) ?_
    refine x_iconst (v := 0) C dL_state_15 (by decide) ?_
    exact x_iret (σ := XV × (Nat → Int64)) (Wf := fun (u : XV × (Nat → Int64)) => oW cy a o Y u.1 u.2) (post := fun (r : Int32) (u : XV × (Nat → Int64)) => wP (nDx V d) (V) V (V (9 + d.toNatClampNeg) 6) tbIO r u) (u := (V, vp_updL f 0 (Int32.toInt64 (V (9 + d.toNatClampNeg) 6)))) C dL_state_16 ⟨Nat.le_of_ble_eq_true rfl, Nat.le_of_ble_eq_true rfl⟩ (show wP (nDx V d) (V) V (V (9 + d.toNatClampNeg) 6) tbIO 0 (V, vp_updL f 0 (Int32.toInt64 (V (9 + d.toNatClampNeg) 6))) from Or.inl ⟨h1, rfl, rfl, vp_updL0 f _⟩)
def rmL_version : Room := { frames := 8, cells := 1, slots := 6, locals := 153 }
set_option maxHeartbeats 4000000 in
set_option maxRecDepth 100000 in
theorem k_L_version (l : Launch) (hfl : l.stackTraces = false) (D : va_G) (cy : Nat → ClassId) (a : Nat → Nat) (o : Nat) (A : Nat → Prop) (Y : va_W) (V : XV) (f : Nat → Int64) (d : Int32) (hn : (V 0 4).toInt ≤ 10)  (hex : exIn (nDx V d) tbIO) : Met l yL_version wsL_version rmL_version (va_Pc [.ref (a 0), .int d, .ref o] (xPre D (tyC cy) A (oW cy a o Y V f))) (va_Qi (fun (r : Int32) (u : XV × (Nat → Int64)) => wP (nDx V d) (V) V (V (9 + d.toNatClampNeg) 2) tbIO r u) (fun u t => xPost D (tyC cy) A (oW cy a o Y u.1 u.2) t) A) 1 6 A := by
  have hk13 : Cond.classLink RL 13 xIO ∈ wsL_version := by decide +kernel
  refine x_metH (own := RL) (by decide) rfl rfl (Nat.le_of_ble_eq_true rfl) rfl ?_
  intro p e s m below meth c htab C hE
  refine x_ws (show oW cy a o Y V f = cW cy a ((o, outF cy f) :: Y) V from rfl) ?_
  refine x_aload_n (i := 2) C dL_version_0 rfl rfl ?_
  refine x_iconst (v := 0) C dL_version_1 (by decide) ?_
  refine x_aload_n (i := 0) C dL_version_2 rfl rfl ?_
  refine x_iload_n (i := 1) C dL_version_3 rfl rfl ?_
  refine x_callViK C hE (k_X3_version l hfl D cy a A ((o, outF cy f) :: Y) V d hn) (cwV 1 C.2.2.2.2.1 gL_version_X3_version rfl rfl rfl (by decide +kernel) ⟨Nat.le_of_ble_eq_true rfl, Nat.le_of_ble_eq_true rfl⟩) 0 (cW_R cy a _ _) rfl rfl rfl rfl (Nat.le_of_ble_eq_true rfl) dL_version_4 ⟨Nat.le_of_ble_eq_true rfl, Nat.le_of_ble_eq_true rfl⟩ (fun E hx H locs ls q9 ce hP hD hS hl hce hcv hcl => ?_) (fun r u h => ?_)
  · obtain ⟨k9, hk9⟩ := hex E hx
    simp only [tbIO, List.mem_cons, List.not_mem_nil, or_false, Prod.mk.injEq] at hk9
    obtain ⟨rfl, rfl⟩ := hk9
    refine x_hand C hE [] ⟨0, 9, 12, 13⟩ [] htab (fun z hz => absurd hz List.not_mem_nil) rfl (by decide) hk13 (by decide +kernel) rfl hP hD hS hl hce hcv hcl ?_
    refine x_astore_n (i := 3) C dL_version_12 rfl (by decide) ?_
    refine x_iconst (v := 1) C dL_version_13 (by decide) ?_
    refine x_ws (show cW cy a ((o, outF cy f) :: Y) V = oW cy a o Y V f from rfl) ?_
    exact x_iret (σ := XV × (Nat → Int64)) (Wf := fun (u : XV × (Nat → Int64)) => oW cy a o Y u.1 u.2) (post := fun (r : Int32) (u : XV × (Nat → Int64)) => wP (nDx V d) (V) V (V (9 + d.toNatClampNeg) 2) tbIO r u) (u := (V, f)) C dL_version_14 ⟨Nat.le_of_ble_eq_true rfl, Nat.le_of_ble_eq_true rfl⟩ (show wP (nDx V d) (V) V (V (9 + d.toNatClampNeg) 2) tbIO 1 (V, f) from Or.inr ⟨(xIO, 1), List.mem_of_getElem? (i := 0) rfl, hx, rfl, rfl⟩)
  · obtain ⟨h1, h2, h3⟩ := h
    rw [h2, h3]
    refine x_ws (show cW cy a ((o, outF cy f) :: Y) _ = oW cy a o Y _ f from rfl) ?_
    refine x_i2l C dL_version_7 rfl ?_
    refine x_last0 C dL_version_8 ?_
    refine x_goto C 15 dL_version_9 (by decide) ?_
    refine x_iconst (v := 0) C dL_version_15 (by decide) ?_
    exact x_iret (σ := XV × (Nat → Int64)) (Wf := fun (u : XV × (Nat → Int64)) => oW cy a o Y u.1 u.2) (post := fun (r : Int32) (u : XV × (Nat → Int64)) => wP (nDx V d) (V) V (V (9 + d.toNatClampNeg) 2) tbIO r u) (u := (V, vp_updL f 0 (Int32.toInt64 (V (9 + d.toNatClampNeg) 2)))) C dL_version_16 ⟨Nat.le_of_ble_eq_true rfl, Nat.le_of_ble_eq_true rfl⟩ (show wP (nDx V d) (V) V (V (9 + d.toNatClampNeg) 2) tbIO 0 (V, vp_updL f 0 (Int32.toInt64 (V (9 + d.toNatClampNeg) 2))) from Or.inl ⟨h1, rfl, rfl, vp_updL0 f _⟩)
def rmL_campaignOf : Room := { frames := 8, cells := 1, slots := 6, locals := 153 }
set_option maxHeartbeats 4000000 in
set_option maxRecDepth 100000 in
theorem k_L_campaignOf (l : Launch) (hfl : l.stackTraces = false) (D : va_G) (cy : Nat → ClassId) (a : Nat → Nat) (o : Nat) (A : Nat → Prop) (Y : va_W) (V : XV) (f : Nat → Int64) (d : Int32) (hn : (V 0 4).toInt ≤ 10)  (hex : exIn (nDx V d) tbIO) : Met l yL_campaignOf wsL_campaignOf rmL_campaignOf (va_Pc [.ref (a 0), .int d, .ref o] (xPre D (tyC cy) A (oW cy a o Y V f))) (va_Qi (fun (r : Int32) (u : XV × (Nat → Int64)) => wP (nDx V d) (V) V (V (9 + d.toNatClampNeg) 7) tbIO r u) (fun u t => xPost D (tyC cy) A (oW cy a o Y u.1 u.2) t) A) 1 6 A := by
  have hk13 : Cond.classLink RL 13 xIO ∈ wsL_campaignOf := by decide +kernel
  refine x_metH (own := RL) (by decide) rfl rfl (Nat.le_of_ble_eq_true rfl) rfl ?_
  intro p e s m below meth c htab C hE
  refine x_ws (show oW cy a o Y V f = cW cy a ((o, outF cy f) :: Y) V from rfl) ?_
  refine x_aload_n (i := 2) C dL_campaignOf_0 rfl rfl ?_
  refine x_iconst (v := 0) C dL_campaignOf_1 (by decide) ?_
  refine x_aload_n (i := 0) C dL_campaignOf_2 rfl rfl ?_
  refine x_iload_n (i := 1) C dL_campaignOf_3 rfl rfl ?_
  refine x_callViK C hE (k_X3_campaignOf l hfl D cy a A ((o, outF cy f) :: Y) V d hn) (cwV 1 C.2.2.2.2.1 gL_campaignOf_X3_campaignOf rfl rfl rfl (by decide +kernel) ⟨Nat.le_of_ble_eq_true rfl, Nat.le_of_ble_eq_true rfl⟩) 0 (cW_R cy a _ _) rfl rfl rfl rfl (Nat.le_of_ble_eq_true rfl) dL_campaignOf_4 ⟨Nat.le_of_ble_eq_true rfl, Nat.le_of_ble_eq_true rfl⟩ (fun E hx H locs ls q9 ce hP hD hS hl hce hcv hcl => ?_) (fun r u h => ?_)
  · obtain ⟨k9, hk9⟩ := hex E hx
    simp only [tbIO, List.mem_cons, List.not_mem_nil, or_false, Prod.mk.injEq] at hk9
    obtain ⟨rfl, rfl⟩ := hk9
    refine x_hand C hE [] ⟨0, 9, 12, 13⟩ [] htab (fun z hz => absurd hz List.not_mem_nil) rfl (by decide) hk13 (by decide +kernel) rfl hP hD hS hl hce hcv hcl ?_
    refine x_astore_n (i := 3) C dL_campaignOf_12 rfl (by decide) ?_
    refine x_iconst (v := 1) C dL_campaignOf_13 (by decide) ?_
    refine x_ws (show cW cy a ((o, outF cy f) :: Y) V = oW cy a o Y V f from rfl) ?_
    exact x_iret (σ := XV × (Nat → Int64)) (Wf := fun (u : XV × (Nat → Int64)) => oW cy a o Y u.1 u.2) (post := fun (r : Int32) (u : XV × (Nat → Int64)) => wP (nDx V d) (V) V (V (9 + d.toNatClampNeg) 7) tbIO r u) (u := (V, f)) C dL_campaignOf_14 ⟨Nat.le_of_ble_eq_true rfl, Nat.le_of_ble_eq_true rfl⟩ (show wP (nDx V d) (V) V (V (9 + d.toNatClampNeg) 7) tbIO 1 (V, f) from Or.inr ⟨(xIO, 1), List.mem_of_getElem? (i := 0) rfl, hx, rfl, rfl⟩)
  · obtain ⟨h1, h2, h3⟩ := h
    rw [h2, h3]
    refine x_ws (show cW cy a ((o, outF cy f) :: Y) _ = oW cy a o Y _ f from rfl) ?_
    refine x_i2l C dL_campaignOf_7 rfl ?_
    refine x_last0 C dL_campaignOf_8 ?_
    refine x_goto C 15 dL_campaignOf_9 (by decide) ?_
    refine x_iconst (v := 0) C dL_campaignOf_15 (by decide) ?_
    exact x_iret (σ := XV × (Nat → Int64)) (Wf := fun (u : XV × (Nat → Int64)) => oW cy a o Y u.1 u.2) (post := fun (r : Int32) (u : XV × (Nat → Int64)) => wP (nDx V d) (V) V (V (9 + d.toNatClampNeg) 7) tbIO r u) (u := (V, vp_updL f 0 (Int32.toInt64 (V (9 + d.toNatClampNeg) 7)))) C dL_campaignOf_16 ⟨Nat.le_of_ble_eq_true rfl, Nat.le_of_ble_eq_true rfl⟩ (show wP (nDx V d) (V) V (V (9 + d.toNatClampNeg) 7) tbIO 0 (V, vp_updL f 0 (Int32.toInt64 (V (9 + d.toNatClampNeg) 7))) from Or.inl ⟨h1, rfl, rfl, vp_updL0 f _⟩)
def rmL_toGo : Room := { frames := 8, cells := 1, slots := 6, locals := 153 }
set_option maxHeartbeats 4000000 in
set_option maxRecDepth 100000 in
theorem k_L_toGo (l : Launch) (hfl : l.stackTraces = false) (D : va_G) (cy : Nat → ClassId) (a : Nat → Nat) (o : Nat) (A : Nat → Prop) (Y : va_W) (V : XV) (f : Nat → Int64) (d : Int32) (hn : (V 0 4).toInt ≤ 10)  (hex : exIn (nDx V d) tbIO) : Met l yL_toGo wsL_toGo rmL_toGo (va_Pc [.ref (a 0), .int d, .ref o] (xPre D (tyC cy) A (oW cy a o Y V f))) (va_Qi (fun (r : Int32) (u : XV × (Nat → Int64)) => wP (nDx V d) (V) V (V (9 + d.toNatClampNeg) 8) tbIO r u) (fun u t => xPost D (tyC cy) A (oW cy a o Y u.1 u.2) t) A) 1 6 A := by
  have hk13 : Cond.classLink RL 13 xIO ∈ wsL_toGo := by decide +kernel
  refine x_metH (own := RL) (by decide) rfl rfl (Nat.le_of_ble_eq_true rfl) rfl ?_
  intro p e s m below meth c htab C hE
  refine x_ws (show oW cy a o Y V f = cW cy a ((o, outF cy f) :: Y) V from rfl) ?_
  refine x_aload_n (i := 2) C dL_toGo_0 rfl rfl ?_
  refine x_iconst (v := 0) C dL_toGo_1 (by decide) ?_
  refine x_aload_n (i := 0) C dL_toGo_2 rfl rfl ?_
  refine x_iload_n (i := 1) C dL_toGo_3 rfl rfl ?_
  refine x_callViK C hE (k_X3_toGo l hfl D cy a A ((o, outF cy f) :: Y) V d hn) (cwV 1 C.2.2.2.2.1 gL_toGo_X3_toGo rfl rfl rfl (by decide +kernel) ⟨Nat.le_of_ble_eq_true rfl, Nat.le_of_ble_eq_true rfl⟩) 0 (cW_R cy a _ _) rfl rfl rfl rfl (Nat.le_of_ble_eq_true rfl) dL_toGo_4 ⟨Nat.le_of_ble_eq_true rfl, Nat.le_of_ble_eq_true rfl⟩ (fun E hx H locs ls q9 ce hP hD hS hl hce hcv hcl => ?_) (fun r u h => ?_)
  · obtain ⟨k9, hk9⟩ := hex E hx
    simp only [tbIO, List.mem_cons, List.not_mem_nil, or_false, Prod.mk.injEq] at hk9
    obtain ⟨rfl, rfl⟩ := hk9
    refine x_hand C hE [] ⟨0, 9, 12, 13⟩ [] htab (fun z hz => absurd hz List.not_mem_nil) rfl (by decide) hk13 (by decide +kernel) rfl hP hD hS hl hce hcv hcl ?_
    refine x_astore_n (i := 3) C dL_toGo_12 rfl (by decide) ?_
    refine x_iconst (v := 1) C dL_toGo_13 (by decide) ?_
    refine x_ws (show cW cy a ((o, outF cy f) :: Y) V = oW cy a o Y V f from rfl) ?_
    exact x_iret (σ := XV × (Nat → Int64)) (Wf := fun (u : XV × (Nat → Int64)) => oW cy a o Y u.1 u.2) (post := fun (r : Int32) (u : XV × (Nat → Int64)) => wP (nDx V d) (V) V (V (9 + d.toNatClampNeg) 8) tbIO r u) (u := (V, f)) C dL_toGo_14 ⟨Nat.le_of_ble_eq_true rfl, Nat.le_of_ble_eq_true rfl⟩ (show wP (nDx V d) (V) V (V (9 + d.toNatClampNeg) 8) tbIO 1 (V, f) from Or.inr ⟨(xIO, 1), List.mem_of_getElem? (i := 0) rfl, hx, rfl, rfl⟩)
  · obtain ⟨h1, h2, h3⟩ := h
    rw [h2, h3]
    refine x_ws (show cW cy a ((o, outF cy f) :: Y) _ = oW cy a o Y _ f from rfl) ?_
    refine x_i2l C dL_toGo_7 rfl ?_
    refine x_last0 C dL_toGo_8 ?_
    refine x_goto C 15 dL_toGo_9 (by decide) ?_
    refine x_iconst (v := 0) C dL_toGo_15 (by decide) ?_
    exact x_iret (σ := XV × (Nat → Int64)) (Wf := fun (u : XV × (Nat → Int64)) => oW cy a o Y u.1 u.2) (post := fun (r : Int32) (u : XV × (Nat → Int64)) => wP (nDx V d) (V) V (V (9 + d.toNatClampNeg) 8) tbIO r u) (u := (V, vp_updL f 0 (Int32.toInt64 (V (9 + d.toNatClampNeg) 8)))) C dL_toGo_16 ⟨Nat.le_of_ble_eq_true rfl, Nat.le_of_ble_eq_true rfl⟩ (show wP (nDx V d) (V) V (V (9 + d.toNatClampNeg) 8) tbIO 0 (V, vp_updL f 0 (Int32.toInt64 (V (9 + d.toNatClampNeg) 8))) from Or.inl ⟨h1, rfl, rfl, vp_updL0 f _⟩)
def rmL_battery : Room := { frames := 8, cells := 1, slots := 6, locals := 153 }
set_option maxHeartbeats 4000000 in
set_option maxRecDepth 100000 in
theorem k_L_battery (l : Launch) (hfl : l.stackTraces = false) (D : va_G) (cy : Nat → ClassId) (a : Nat → Nat) (o : Nat) (A : Nat → Prop) (Y : va_W) (V : XV) (f : Nat → Int64) (d : Int32) (hn : (V 0 4).toInt ≤ 10)  (hex : exIn (nDx V d) tbIO) : Met l yL_battery wsL_battery rmL_battery (va_Pc [.ref (a 0), .int d, .ref o] (xPre D (tyC cy) A (oW cy a o Y V f))) (va_Qi (fun (r : Int32) (u : XV × (Nat → Int64)) => wP (nDx V d) (V) V (V (9 + d.toNatClampNeg) 3) tbIO r u) (fun u t => xPost D (tyC cy) A (oW cy a o Y u.1 u.2) t) A) 1 6 A := by
  have hk13 : Cond.classLink RL 13 xIO ∈ wsL_battery := by decide +kernel
  refine x_metH (own := RL) (by decide) rfl rfl (Nat.le_of_ble_eq_true rfl) rfl ?_
  intro p e s m below meth c htab C hE
  refine x_ws (show oW cy a o Y V f = cW cy a ((o, outF cy f) :: Y) V from rfl) ?_
  refine x_aload_n (i := 2) C dL_battery_0 rfl rfl ?_
  refine x_iconst (v := 0) C dL_battery_1 (by decide) ?_
  refine x_aload_n (i := 0) C dL_battery_2 rfl rfl ?_
  refine x_iload_n (i := 1) C dL_battery_3 rfl rfl ?_
  refine x_callViK C hE (k_X3_battery l hfl D cy a A ((o, outF cy f) :: Y) V d hn) (cwV 1 C.2.2.2.2.1 gL_battery_X3_battery rfl rfl rfl (by decide +kernel) ⟨Nat.le_of_ble_eq_true rfl, Nat.le_of_ble_eq_true rfl⟩) 0 (cW_R cy a _ _) rfl rfl rfl rfl (Nat.le_of_ble_eq_true rfl) dL_battery_4 ⟨Nat.le_of_ble_eq_true rfl, Nat.le_of_ble_eq_true rfl⟩ (fun E hx H locs ls q9 ce hP hD hS hl hce hcv hcl => ?_) (fun r u h => ?_)
  · obtain ⟨k9, hk9⟩ := hex E hx
    simp only [tbIO, List.mem_cons, List.not_mem_nil, or_false, Prod.mk.injEq] at hk9
    obtain ⟨rfl, rfl⟩ := hk9
    refine x_hand C hE [] ⟨0, 9, 12, 13⟩ [] htab (fun z hz => absurd hz List.not_mem_nil) rfl (by decide) hk13 (by decide +kernel) rfl hP hD hS hl hce hcv hcl ?_
    refine x_astore_n (i := 3) C dL_battery_12 rfl (by decide) ?_
    refine x_iconst (v := 1) C dL_battery_13 (by decide) ?_
    refine x_ws (show cW cy a ((o, outF cy f) :: Y) V = oW cy a o Y V f from rfl) ?_
    exact x_iret (σ := XV × (Nat → Int64)) (Wf := fun (u : XV × (Nat → Int64)) => oW cy a o Y u.1 u.2) (post := fun (r : Int32) (u : XV × (Nat → Int64)) => wP (nDx V d) (V) V (V (9 + d.toNatClampNeg) 3) tbIO r u) (u := (V, f)) C dL_battery_14 ⟨Nat.le_of_ble_eq_true rfl, Nat.le_of_ble_eq_true rfl⟩ (show wP (nDx V d) (V) V (V (9 + d.toNatClampNeg) 3) tbIO 1 (V, f) from Or.inr ⟨(xIO, 1), List.mem_of_getElem? (i := 0) rfl, hx, rfl, rfl⟩)
  · obtain ⟨h1, h2, h3⟩ := h
    rw [h2, h3]
    refine x_ws (show cW cy a ((o, outF cy f) :: Y) _ = oW cy a o Y _ f from rfl) ?_
    refine x_i2l C dL_battery_7 rfl ?_
    refine x_last0 C dL_battery_8 ?_
    refine x_goto C 15 dL_battery_9 (by decide) ?_
    refine x_iconst (v := 0) C dL_battery_15 (by decide) ?_
    exact x_iret (σ := XV × (Nat → Int64)) (Wf := fun (u : XV × (Nat → Int64)) => oW cy a o Y u.1 u.2) (post := fun (r : Int32) (u : XV × (Nat → Int64)) => wP (nDx V d) (V) V (V (9 + d.toNatClampNeg) 3) tbIO r u) (u := (V, vp_updL f 0 (Int32.toInt64 (V (9 + d.toNatClampNeg) 3)))) C dL_battery_16 ⟨Nat.le_of_ble_eq_true rfl, Nat.le_of_ble_eq_true rfl⟩ (show wP (nDx V d) (V) V (V (9 + d.toNatClampNeg) 3) tbIO 0 (V, vp_updL f 0 (Int32.toInt64 (V (9 + d.toNatClampNeg) 3))) from Or.inl ⟨h1, rfl, rfl, vp_updL0 f _⟩)
def rmL_begin : Room := { frames := 9, cells := 6, slots := 36, locals := 174 }
set_option maxHeartbeats 4000000 in
set_option maxRecDepth 100000 in
theorem k_L_begin (l : Launch) (hfl : l.stackTraces = false) (D : va_G) (cy : Nat → ClassId) (a : Nat → Nat) (o : Nat) (A : Nat → Prop) (Y : va_W) (V : XV) (f : Nat → Int64) (t k vs rep : Int32) {n : Nat} (hm : V 0 5 = nI n) (hm6 : n ≤ 6)  (hex : exIn (beginX V t k vs rep) tb3) : Met l yL_begin wsL_begin rmL_begin (va_Pc [.ref (a 0), .int t, .int k, .int vs, .int rep, .ref o] (xPre D (tyC cy) A (oW cy a o Y V f))) (va_Qi (fun (r : Int32) (u : XV × (Nat → Int64)) => wP (beginX V t k vs rep) (beginV V n t k vs rep) V (beginV V n t k vs rep (19 + n) 0) tb3 r u) (fun u t => xPost D (tyC cy) A (oW cy a o Y u.1 u.2) t) A) 6 36 A := by
  have hk13 : Cond.classLink RL 13 xIO ∈ wsL_begin := by decide +kernel
  have hk15 : Cond.classLink RL 15 xIA ∈ wsL_begin := by decide +kernel
  have hk33 : Cond.classLink RL 33 xIS ∈ wsL_begin := by decide +kernel
  refine x_metH (own := RL) (by decide) rfl rfl (Nat.le_of_ble_eq_true rfl) rfl ?_
  intro p e s m below meth c htab C hE
  refine x_ws (show oW cy a o Y V f = cW cy a ((o, outF cy f) :: Y) V from rfl) ?_
  refine x_aload (i := 5) C dL_begin_0 rfl ?_
  refine x_iconst (v := 0) C dL_begin_2 (by decide) ?_
  refine x_aload_n (i := 0) C dL_begin_3 rfl rfl ?_
  refine x_iload_n (i := 1) C dL_begin_4 rfl rfl ?_
  refine x_iload_n (i := 2) C dL_begin_5 rfl rfl ?_
  refine x_iload_n (i := 3) C dL_begin_6 rfl rfl ?_
  refine x_iload (i := 4) C dL_begin_7 rfl ?_
  refine x_callViK C hE (k_X3_begin l hfl D cy a A ((o, outF cy f) :: Y) V t k vs rep hm hm6) (cwV 4 C.2.2.2.2.1 gL_begin_X3_begin rfl rfl rfl (by decide +kernel) ⟨Nat.le_of_ble_eq_true rfl, Nat.le_of_ble_eq_true rfl⟩) 0 (cW_R cy a _ _) rfl rfl rfl rfl (Nat.le_of_ble_eq_true rfl) dL_begin_9 ⟨Nat.le_of_ble_eq_true rfl, Nat.le_of_ble_eq_true rfl⟩ (fun E hx H locs ls q9 ce hP hD hS hl hce hcv hcl => ?_) (fun r u h => ?_)
  · obtain ⟨k9, hk9⟩ := hex E hx
    simp only [tb3, List.mem_cons, List.not_mem_nil, or_false, Prod.mk.injEq] at hk9
    rcases hk9 with ⟨rfl, rfl⟩ | ⟨rfl, rfl⟩ | ⟨rfl, rfl⟩
    · refine x_hand C hE [] ⟨0, 14, 17, 13⟩ [⟨0, 14, 21, 15⟩, ⟨0, 14, 25, 33⟩] htab (fun z hz => absurd hz List.not_mem_nil) rfl (by decide) hk13 (by decide +kernel) rfl hP hD hS hl hce hcv hcl ?_
      refine x_astore (i := 6) C dL_begin_17 (by decide) ?_
      refine x_iconst (v := 1) C dL_begin_19 (by decide) ?_
      refine x_ws (show cW cy a ((o, outF cy f) :: Y) V = oW cy a o Y V f from rfl) ?_
      exact x_iret (σ := XV × (Nat → Int64)) (Wf := fun (u : XV × (Nat → Int64)) => oW cy a o Y u.1 u.2) (post := fun (r : Int32) (u : XV × (Nat → Int64)) => wP (beginX V t k vs rep) (beginV V n t k vs rep) V (beginV V n t k vs rep (19 + n) 0) tb3 r u) (u := (V, f)) C dL_begin_20 ⟨Nat.le_of_ble_eq_true rfl, Nat.le_of_ble_eq_true rfl⟩ (show wP (beginX V t k vs rep) (beginV V n t k vs rep) V (beginV V n t k vs rep (19 + n) 0) tb3 1 (V, f) from Or.inr ⟨(xIO, 1), List.mem_of_getElem? (i := 0) rfl, hx, rfl, rfl⟩)
    · refine x_hand C hE [⟨0, 14, 17, 13⟩] ⟨0, 14, 21, 15⟩ [⟨0, 14, 25, 33⟩] htab (fun z hz => by cases List.mem_singleton.mp hz; exact ⟨by decide, xIO, hk13, by decide +kernel⟩) rfl (by decide) hk15 (by decide +kernel) rfl hP hD hS hl hce hcv hcl ?_
      refine x_astore (i := 6) C dL_begin_21 (by decide) ?_
      refine x_iconst (v := 2) C dL_begin_23 (by decide) ?_
      refine x_ws (show cW cy a ((o, outF cy f) :: Y) V = oW cy a o Y V f from rfl) ?_
      exact x_iret (σ := XV × (Nat → Int64)) (Wf := fun (u : XV × (Nat → Int64)) => oW cy a o Y u.1 u.2) (post := fun (r : Int32) (u : XV × (Nat → Int64)) => wP (beginX V t k vs rep) (beginV V n t k vs rep) V (beginV V n t k vs rep (19 + n) 0) tb3 r u) (u := (V, f)) C dL_begin_24 ⟨Nat.le_of_ble_eq_true rfl, Nat.le_of_ble_eq_true rfl⟩ (show wP (beginX V t k vs rep) (beginV V n t k vs rep) V (beginV V n t k vs rep (19 + n) 0) tb3 2 (V, f) from Or.inr ⟨(xIA, 2), List.mem_of_getElem? (i := 1) rfl, hx, rfl, rfl⟩)
    · refine x_hand C hE [⟨0, 14, 17, 13⟩, ⟨0, 14, 21, 15⟩] ⟨0, 14, 25, 33⟩ [] htab (fun z hz => by
      rcases List.mem_cons.mp hz with rfl | hz
      · exact ⟨by decide, xIO, hk13, by decide +kernel⟩
      · cases List.mem_singleton.mp hz; exact ⟨by decide, xIA, hk15, by decide +kernel⟩) rfl (by decide) hk33 (by decide +kernel) rfl hP hD hS hl hce hcv hcl ?_
      refine x_astore (i := 6) C dL_begin_25 (by decide) ?_
      refine x_iconst (v := 3) C dL_begin_27 (by decide) ?_
      refine x_ws (show cW cy a ((o, outF cy f) :: Y) V = oW cy a o Y V f from rfl) ?_
      exact x_iret (σ := XV × (Nat → Int64)) (Wf := fun (u : XV × (Nat → Int64)) => oW cy a o Y u.1 u.2) (post := fun (r : Int32) (u : XV × (Nat → Int64)) => wP (beginX V t k vs rep) (beginV V n t k vs rep) V (beginV V n t k vs rep (19 + n) 0) tb3 r u) (u := (V, f)) C dL_begin_28 ⟨Nat.le_of_ble_eq_true rfl, Nat.le_of_ble_eq_true rfl⟩ (show wP (beginX V t k vs rep) (beginV V n t k vs rep) V (beginV V n t k vs rep (19 + n) 0) tb3 3 (V, f) from Or.inr ⟨(xIS, 3), List.mem_of_getElem? (i := 2) rfl, hx, rfl, rfl⟩)
  · obtain ⟨h1, h2, h3⟩ := h
    rw [h2, h3]
    refine x_ws (show cW cy a ((o, outF cy f) :: Y) _ = oW cy a o Y _ f from rfl) ?_
    refine x_i2l C dL_begin_12 rfl ?_
    refine x_last0 C dL_begin_13 ?_
    refine x_goto C 29 dL_begin_14 (by decide) ?_
    refine x_iconst (v := 0) C dL_begin_29 (by decide) ?_
    exact x_iret (σ := XV × (Nat → Int64)) (Wf := fun (u : XV × (Nat → Int64)) => oW cy a o Y u.1 u.2) (post := fun (r : Int32) (u : XV × (Nat → Int64)) => wP (beginX V t k vs rep) (beginV V n t k vs rep) V (beginV V n t k vs rep (19 + n) 0) tb3 r u) (u := (beginV V n t k vs rep, vp_updL f 0 (Int32.toInt64 (beginV V n t k vs rep (19 + n) 0)))) C dL_begin_30 ⟨Nat.le_of_ble_eq_true rfl, Nat.le_of_ble_eq_true rfl⟩ (show wP (beginX V t k vs rep) (beginV V n t k vs rep) V (beginV V n t k vs rep (19 + n) 0) tb3 0 (beginV V n t k vs rep, vp_updL f 0 (Int32.toInt64 (beginV V n t k vs rep (19 + n) 0))) from Or.inl ⟨h1, rfl, rfl, vp_updL0 f _⟩)
def rmL_setRules : Room := { frames := 9, cells := 5, slots := 30, locals := 174 }
set_option maxHeartbeats 4000000 in
set_option maxRecDepth 100000 in
theorem k_L_setRules (l : Launch) (hfl : l.stackTraces = false) (D : va_G) (cy : Nat → ClassId) (a : Nat → Nat) (o : Nat) (A : Nat → Prop) (Y : va_W) (V : XV) (f : Nat → Int64) (q g s9 n9 th : Int32) (hm : (V 0 5).toInt ≤ 6)  (hex : exIn (rulesX V q g s9 n9 th) tbIA) : Met l yL_setRules wsL_setRules rmL_setRules (va_Pc [.ref (a 0), .int q, .int g, .int s9, .int n9, .int th] (xPre D (tyC cy) A (oW cy a o Y V f))) (va_Qi (fun (r : Int32) (u : XV × (Nat → Int64)) => wV (rulesX V q g s9 n9 th) (rulesV V (19 + q.toNatClampNeg) g s9 n9 th) V tbIA r u) (fun u t => xPost D (tyC cy) A (oW cy a o Y u.1 u.2) t) A) 5 30 A := by
  have hk13 : Cond.classLink RL 13 xIO ∈ wsL_setRules := by decide +kernel
  have hk15 : Cond.classLink RL 15 xIA ∈ wsL_setRules := by decide +kernel
  refine x_metH (own := RL) (by decide) rfl rfl (Nat.le_of_ble_eq_true rfl) rfl ?_
  intro p e s m below meth c htab C hE
  refine x_ws (show oW cy a o Y V f = cW cy a ((o, outF cy f) :: Y) V from rfl) ?_
  refine x_aload_n (i := 0) C dL_setRules_0 rfl rfl ?_
  refine x_iload_n (i := 1) C dL_setRules_1 rfl rfl ?_
  refine x_iload_n (i := 2) C dL_setRules_2 rfl rfl ?_
  refine x_iload_n (i := 3) C dL_setRules_3 rfl rfl ?_
  refine x_iload (i := 4) C dL_setRules_4 rfl ?_
  refine x_iload (i := 5) C dL_setRules_6 rfl ?_
  refine x_callVvK C hE (k_X3_setRules l hfl D cy a A ((o, outF cy f) :: Y) V q g s9 n9 th hm) (cwV 5 C.2.2.2.2.1 gL_setRules_X3_setRules rfl rfl rfl (by decide +kernel) ⟨Nat.le_of_ble_eq_true rfl, Nat.le_of_ble_eq_true rfl⟩) 0 (cW_R cy a _ _) rfl rfl rfl rfl (Nat.le_of_ble_eq_true rfl) dL_setRules_8 ⟨Nat.le_of_ble_eq_true rfl, Nat.le_of_ble_eq_true rfl⟩ (fun E hx H locs ls q9 ce hP hD hS hl hce hcv hcl => ?_) (fun u h => ?_)
  · obtain ⟨k9, hk9⟩ := hex E hx
    simp only [tbIA, List.mem_cons, List.not_mem_nil, or_false, Prod.mk.injEq] at hk9
    rcases hk9 with ⟨rfl, rfl⟩ | ⟨rfl, rfl⟩
    · refine x_hand C hE [] ⟨0, 11, 14, 13⟩ [⟨0, 11, 18, 15⟩] htab (fun z hz => absurd hz List.not_mem_nil) rfl (by decide) hk13 (by decide +kernel) rfl hP hD hS hl hce hcv hcl ?_
      refine x_astore (i := 6) C dL_setRules_14 (by decide) ?_
      refine x_iconst (v := 1) C dL_setRules_16 (by decide) ?_
      refine x_ws (show cW cy a ((o, outF cy f) :: Y) V = oW cy a o Y V f from rfl) ?_
      exact x_iret (σ := XV × (Nat → Int64)) (Wf := fun (u : XV × (Nat → Int64)) => oW cy a o Y u.1 u.2) (post := fun (r : Int32) (u : XV × (Nat → Int64)) => wV (rulesX V q g s9 n9 th) (rulesV V (19 + q.toNatClampNeg) g s9 n9 th) V tbIA r u) (u := (V, f)) C dL_setRules_17 ⟨Nat.le_of_ble_eq_true rfl, Nat.le_of_ble_eq_true rfl⟩ (show wV (rulesX V q g s9 n9 th) (rulesV V (19 + q.toNatClampNeg) g s9 n9 th) V tbIA 1 (V, f) from Or.inr ⟨(xIO, 1), List.mem_of_getElem? (i := 0) rfl, hx, rfl, rfl⟩)
    · refine x_hand C hE [⟨0, 11, 14, 13⟩] ⟨0, 11, 18, 15⟩ [] htab (fun z hz => by cases List.mem_singleton.mp hz; exact ⟨by decide, xIO, hk13, by decide +kernel⟩) rfl (by decide) hk15 (by decide +kernel) rfl hP hD hS hl hce hcv hcl ?_
      refine x_astore (i := 6) C dL_setRules_18 (by decide) ?_
      refine x_iconst (v := 2) C dL_setRules_20 (by decide) ?_
      refine x_ws (show cW cy a ((o, outF cy f) :: Y) V = oW cy a o Y V f from rfl) ?_
      exact x_iret (σ := XV × (Nat → Int64)) (Wf := fun (u : XV × (Nat → Int64)) => oW cy a o Y u.1 u.2) (post := fun (r : Int32) (u : XV × (Nat → Int64)) => wV (rulesX V q g s9 n9 th) (rulesV V (19 + q.toNatClampNeg) g s9 n9 th) V tbIA r u) (u := (V, f)) C dL_setRules_21 ⟨Nat.le_of_ble_eq_true rfl, Nat.le_of_ble_eq_true rfl⟩ (show wV (rulesX V q g s9 n9 th) (rulesV V (19 + q.toNatClampNeg) g s9 n9 th) V tbIA 2 (V, f) from Or.inr ⟨(xIA, 2), List.mem_of_getElem? (i := 1) rfl, hx, rfl, rfl⟩)
  · obtain ⟨h1, h3⟩ := h
    rw [h3]
    refine x_ws (show cW cy a ((o, outF cy f) :: Y) _ = oW cy a o Y _ f from rfl) ?_
    refine x_goto C 22 dL_setRules_11 (by decide) ?_
    refine x_iconst (v := 0) C dL_setRules_22 (by decide) ?_
    exact x_iret (σ := XV × (Nat → Int64)) (Wf := fun (u : XV × (Nat → Int64)) => oW cy a o Y u.1 u.2) (post := fun (r : Int32) (u : XV × (Nat → Int64)) => wV (rulesX V q g s9 n9 th) (rulesV V (19 + q.toNatClampNeg) g s9 n9 th) V tbIA r u) (u := (rulesV V (19 + q.toNatClampNeg) g s9 n9 th, f)) C dL_setRules_23 ⟨Nat.le_of_ble_eq_true rfl, Nat.le_of_ble_eq_true rfl⟩ (show wV (rulesX V q g s9 n9 th) (rulesV V (19 + q.toNatClampNeg) g s9 n9 th) V tbIA 0 (rulesV V (19 + q.toNatClampNeg) g s9 n9 th, f) from Or.inl ⟨h1, rfl, rfl⟩)
def rmL_toggle : Room := { frames := 9, cells := 1, slots := 6, locals := 174 }
set_option maxHeartbeats 4000000 in
set_option maxRecDepth 100000 in
theorem k_L_toggle (l : Launch) (hfl : l.stackTraces = false) (D : va_G) (cy : Nat → ClassId) (a : Nat → Nat) (o : Nat) (A : Nat → Prop) (Y : va_W) (V : XV) (f : Nat → Int64) (q : Int32) (hm : (V 0 5).toInt ≤ 6) (hz9 : nCx V q = none → toggleV V (19 + q.toNatClampNeg) (19 + q.toNatClampNeg) 8 = 0 ∨ toggleV V (19 + q.toNatClampNeg) (19 + q.toNatClampNeg) 8 = 1) (hex : exIn (nCx V q) tbIO) : Met l yL_toggle wsL_toggle rmL_toggle (va_Pc [.ref (a 0), .int q, .ref o] (xPre D (tyC cy) A (oW cy a o Y V f))) (va_Qi (fun (r : Int32) (u : XV × (Nat → Int64)) => wP (nCx V q) (toggleV V (19 + q.toNatClampNeg)) V (toggleV V (19 + q.toNatClampNeg) (19 + q.toNatClampNeg) 8) tbIO r u) (fun u t => xPost D (tyC cy) A (oW cy a o Y u.1 u.2) t) A) 1 6 A := by
  have hk13 : Cond.classLink RL 13 xIO ∈ wsL_toggle := by decide +kernel
  refine x_metH (own := RL) (by decide) rfl rfl (Nat.le_of_ble_eq_true rfl) rfl ?_
  intro p e s m below meth c htab C hE
  refine x_ws (show oW cy a o Y V f = cW cy a ((o, outF cy f) :: Y) V from rfl) ?_
  refine x_aload_n (i := 2) C dL_toggle_0 rfl rfl ?_
  refine x_iconst (v := 0) C dL_toggle_1 (by decide) ?_
  refine x_aload_n (i := 0) C dL_toggle_2 rfl rfl ?_
  refine x_iload_n (i := 1) C dL_toggle_3 rfl rfl ?_
  refine x_callViK C hE (k_X3_toggle l hfl D cy a A ((o, outF cy f) :: Y) V q hm) (cwV 1 C.2.2.2.2.1 gL_toggle_X3_toggle rfl rfl rfl (by decide +kernel) ⟨Nat.le_of_ble_eq_true rfl, Nat.le_of_ble_eq_true rfl⟩) 0 (cW_R cy a _ _) rfl rfl rfl rfl (Nat.le_of_ble_eq_true rfl) dL_toggle_4 ⟨Nat.le_of_ble_eq_true rfl, Nat.le_of_ble_eq_true rfl⟩ (fun E hx H locs ls q9 ce hP hD hS hl hce hcv hcl => ?_) (fun r u h => ?_)
  · obtain ⟨k9, hk9⟩ := hex E hx
    simp only [tbIO, List.mem_cons, List.not_mem_nil, or_false, Prod.mk.injEq] at hk9
    obtain ⟨rfl, rfl⟩ := hk9
    refine x_hand C hE [] ⟨0, 16, 19, 13⟩ [] htab (fun z hz => absurd hz List.not_mem_nil) rfl (by decide) hk13 (by decide +kernel) rfl hP hD hS hl hce hcv hcl ?_
    refine x_astore_n (i := 3) C dL_toggle_19 rfl (by decide) ?_
    refine x_iconst (v := 1) C dL_toggle_20 (by decide) ?_
    refine x_ws (show cW cy a ((o, outF cy f) :: Y) V = oW cy a o Y V f from rfl) ?_
    exact x_iret (σ := XV × (Nat → Int64)) (Wf := fun (u : XV × (Nat → Int64)) => oW cy a o Y u.1 u.2) (post := fun (r : Int32) (u : XV × (Nat → Int64)) => wP (nCx V q) (toggleV V (19 + q.toNatClampNeg)) V (toggleV V (19 + q.toNatClampNeg) (19 + q.toNatClampNeg) 8) tbIO r u) (u := (V, f)) C dL_toggle_21 ⟨Nat.le_of_ble_eq_true rfl, Nat.le_of_ble_eq_true rfl⟩ (show wP (nCx V q) (toggleV V (19 + q.toNatClampNeg)) V (toggleV V (19 + q.toNatClampNeg) (19 + q.toNatClampNeg) 8) tbIO 1 (V, f) from Or.inr ⟨(xIO, 1), List.mem_of_getElem? (i := 0) rfl, hx, rfl, rfl⟩)
  · obtain ⟨h1, h2, h3⟩ := h
    rw [h2, h3]
    refine x_ws (show cW cy a ((o, outF cy f) :: Y) _ = oW cy a o Y _ f from rfl) ?_
    refine x_if_eq C 14 dL_toggle_7 (by decide) (fun hq => ?_) (fun hq => ?_)
    · refine x_lconst (v := 0) C dL_toggle_14 rfl ?_
      refine x_last0 C dL_toggle_15 ?_
      refine x_goto C 22 dL_toggle_16 (by decide) ?_
      refine x_iconst (v := 0) C dL_toggle_22 (by decide) ?_
      exact x_iret (σ := XV × (Nat → Int64)) (Wf := fun (u : XV × (Nat → Int64)) => oW cy a o Y u.1 u.2) (post := fun (r : Int32) (u : XV × (Nat → Int64)) => wP (nCx V q) (toggleV V (19 + q.toNatClampNeg)) V (toggleV V (19 + q.toNatClampNeg) (19 + q.toNatClampNeg) 8) tbIO r u) (u := (toggleV V (19 + q.toNatClampNeg), vp_updL f 0 0)) C dL_toggle_23 ⟨Nat.le_of_ble_eq_true rfl, Nat.le_of_ble_eq_true rfl⟩ (show wP (nCx V q) (toggleV V (19 + q.toNatClampNeg)) V (toggleV V (19 + q.toNatClampNeg) (19 + q.toNatClampNeg) 8) tbIO 0 (toggleV V (19 + q.toNatClampNeg), vp_updL f 0 0) from Or.inl ⟨h1, rfl, rfl, (by rw [hq]; exact vp_updL0 f _)⟩)
    · refine x_lconst (v := 1) C dL_toggle_10 rfl ?_
      refine x_goto C 15 dL_toggle_11 (by decide) ?_
      refine x_last0 C dL_toggle_15 ?_
      refine x_goto C 22 dL_toggle_16 (by decide) ?_
      refine x_iconst (v := 0) C dL_toggle_22 (by decide) ?_
      exact x_iret (σ := XV × (Nat → Int64)) (Wf := fun (u : XV × (Nat → Int64)) => oW cy a o Y u.1 u.2) (post := fun (r : Int32) (u : XV × (Nat → Int64)) => wP (nCx V q) (toggleV V (19 + q.toNatClampNeg)) V (toggleV V (19 + q.toNatClampNeg) (19 + q.toNatClampNeg) 8) tbIO r u) (u := (toggleV V (19 + q.toNatClampNeg), vp_updL f 0 1)) C dL_toggle_23 ⟨Nat.le_of_ble_eq_true rfl, Nat.le_of_ble_eq_true rfl⟩ (show wP (nCx V q) (toggleV V (19 + q.toNatClampNeg)) V (toggleV V (19 + q.toNatClampNeg) (19 + q.toNatClampNeg) 8) tbIO 0 (toggleV V (19 + q.toNatClampNeg), vp_updL f 0 1) from Or.inl ⟨h1, rfl, rfl, (by rw [(hz9 h1).resolve_left hq]; exact vp_updL0 f _)⟩)
def rmL_isActive : Room := { frames := 9, cells := 1, slots := 6, locals := 174 }
set_option maxHeartbeats 4000000 in
set_option maxRecDepth 100000 in
theorem k_L_isActive (l : Launch) (hfl : l.stackTraces = false) (D : va_G) (cy : Nat → ClassId) (a : Nat → Nat) (o : Nat) (A : Nat → Prop) (Y : va_W) (V : XV) (f : Nat → Int64) (q : Int32) (hm : (V 0 5).toInt ≤ 6) (hz : ∀ q, 19 ≤ q ∧ q < 25 → V q 8 = 0 ∨ V q 8 = 1) (hz9 : nCx V q = none → V (19 + q.toNatClampNeg) 8 = 0 ∨ V (19 + q.toNatClampNeg) 8 = 1) (hex : exIn (nCx V q) tbIO) : Met l yL_isActive wsL_isActive rmL_isActive (va_Pc [.ref (a 0), .int q, .ref o] (xPre D (tyC cy) A (oW cy a o Y V f))) (va_Qi (fun (r : Int32) (u : XV × (Nat → Int64)) => wP (nCx V q) (V) V (V (19 + q.toNatClampNeg) 8) tbIO r u) (fun u t => xPost D (tyC cy) A (oW cy a o Y u.1 u.2) t) A) 1 6 A := by
  have hk13 : Cond.classLink RL 13 xIO ∈ wsL_isActive := by decide +kernel
  refine x_metH (own := RL) (by decide) rfl rfl (Nat.le_of_ble_eq_true rfl) rfl ?_
  intro p e s m below meth c htab C hE
  refine x_ws (show oW cy a o Y V f = cW cy a ((o, outF cy f) :: Y) V from rfl) ?_
  refine x_aload_n (i := 2) C dL_isActive_0 rfl rfl ?_
  refine x_iconst (v := 0) C dL_isActive_1 (by decide) ?_
  refine x_aload_n (i := 0) C dL_isActive_2 rfl rfl ?_
  refine x_iload_n (i := 1) C dL_isActive_3 rfl rfl ?_
  refine x_callViK C hE (k_X3_isActive l hfl D cy a A ((o, outF cy f) :: Y) V q hm hz) (cwV 1 C.2.2.2.2.1 gL_isActive_X3_isActive rfl rfl rfl (by decide +kernel) ⟨Nat.le_of_ble_eq_true rfl, Nat.le_of_ble_eq_true rfl⟩) 0 (cW_R cy a _ _) rfl rfl rfl rfl (Nat.le_of_ble_eq_true rfl) dL_isActive_4 ⟨Nat.le_of_ble_eq_true rfl, Nat.le_of_ble_eq_true rfl⟩ (fun E hx H locs ls q9 ce hP hD hS hl hce hcv hcl => ?_) (fun r u h => ?_)
  · obtain ⟨k9, hk9⟩ := hex E hx
    simp only [tbIO, List.mem_cons, List.not_mem_nil, or_false, Prod.mk.injEq] at hk9
    obtain ⟨rfl, rfl⟩ := hk9
    refine x_hand C hE [] ⟨0, 16, 19, 13⟩ [] htab (fun z hz => absurd hz List.not_mem_nil) rfl (by decide) hk13 (by decide +kernel) rfl hP hD hS hl hce hcv hcl ?_
    refine x_astore_n (i := 3) C dL_isActive_19 rfl (by decide) ?_
    refine x_iconst (v := 1) C dL_isActive_20 (by decide) ?_
    refine x_ws (show cW cy a ((o, outF cy f) :: Y) V = oW cy a o Y V f from rfl) ?_
    exact x_iret (σ := XV × (Nat → Int64)) (Wf := fun (u : XV × (Nat → Int64)) => oW cy a o Y u.1 u.2) (post := fun (r : Int32) (u : XV × (Nat → Int64)) => wP (nCx V q) (V) V (V (19 + q.toNatClampNeg) 8) tbIO r u) (u := (V, f)) C dL_isActive_21 ⟨Nat.le_of_ble_eq_true rfl, Nat.le_of_ble_eq_true rfl⟩ (show wP (nCx V q) (V) V (V (19 + q.toNatClampNeg) 8) tbIO 1 (V, f) from Or.inr ⟨(xIO, 1), List.mem_of_getElem? (i := 0) rfl, hx, rfl, rfl⟩)
  · obtain ⟨h1, h2, h3⟩ := h
    rw [h2, h3]
    refine x_ws (show cW cy a ((o, outF cy f) :: Y) _ = oW cy a o Y _ f from rfl) ?_
    refine x_if_eq C 14 dL_isActive_7 (by decide) (fun hq => ?_) (fun hq => ?_)
    · refine x_lconst (v := 0) C dL_isActive_14 rfl ?_
      refine x_last0 C dL_isActive_15 ?_
      refine x_goto C 22 dL_isActive_16 (by decide) ?_
      refine x_iconst (v := 0) C dL_isActive_22 (by decide) ?_
      exact x_iret (σ := XV × (Nat → Int64)) (Wf := fun (u : XV × (Nat → Int64)) => oW cy a o Y u.1 u.2) (post := fun (r : Int32) (u : XV × (Nat → Int64)) => wP (nCx V q) (V) V (V (19 + q.toNatClampNeg) 8) tbIO r u) (u := (V, vp_updL f 0 0)) C dL_isActive_23 ⟨Nat.le_of_ble_eq_true rfl, Nat.le_of_ble_eq_true rfl⟩ (show wP (nCx V q) (V) V (V (19 + q.toNatClampNeg) 8) tbIO 0 (V, vp_updL f 0 0) from Or.inl ⟨h1, rfl, rfl, (by rw [hq]; exact vp_updL0 f _)⟩)
    · refine x_lconst (v := 1) C dL_isActive_10 rfl ?_
      refine x_goto C 15 dL_isActive_11 (by decide) ?_
      refine x_last0 C dL_isActive_15 ?_
      refine x_goto C 22 dL_isActive_16 (by decide) ?_
      refine x_iconst (v := 0) C dL_isActive_22 (by decide) ?_
      exact x_iret (σ := XV × (Nat → Int64)) (Wf := fun (u : XV × (Nat → Int64)) => oW cy a o Y u.1 u.2) (post := fun (r : Int32) (u : XV × (Nat → Int64)) => wP (nCx V q) (V) V (V (19 + q.toNatClampNeg) 8) tbIO r u) (u := (V, vp_updL f 0 1)) C dL_isActive_23 ⟨Nat.le_of_ble_eq_true rfl, Nat.le_of_ble_eq_true rfl⟩ (show wP (nCx V q) (V) V (V (19 + q.toNatClampNeg) 8) tbIO 0 (V, vp_updL f 0 1) from Or.inl ⟨h1, rfl, rfl, (by rw [(hz9 h1).resolve_left hq]; exact vp_updL0 f _)⟩)
def rmL_ring : Room := { frames := 9, cells := 1, slots := 6, locals := 174 }
set_option maxHeartbeats 4000000 in
set_option maxRecDepth 100000 in
theorem k_L_ring (l : Launch) (hfl : l.stackTraces = false) (D : va_G) (cy : Nat → ClassId) (a : Nat → Nat) (o : Nat) (A : Nat → Prop) (Y : va_W) (V : XV) (f : Nat → Int64) (q : Int32) (hm : (V 0 5).toInt ≤ 6)  (hex : exIn (nCx V q) tbIO) : Met l yL_ring wsL_ring rmL_ring (va_Pc [.ref (a 0), .int q, .ref o] (xPre D (tyC cy) A (oW cy a o Y V f))) (va_Qi (fun (r : Int32) (u : XV × (Nat → Int64)) => wP (nCx V q) (V) V (V (19 + q.toNatClampNeg) 9) tbIO r u) (fun u t => xPost D (tyC cy) A (oW cy a o Y u.1 u.2) t) A) 1 6 A := by
  have hk13 : Cond.classLink RL 13 xIO ∈ wsL_ring := by decide +kernel
  refine x_metH (own := RL) (by decide) rfl rfl (Nat.le_of_ble_eq_true rfl) rfl ?_
  intro p e s m below meth c htab C hE
  refine x_ws (show oW cy a o Y V f = cW cy a ((o, outF cy f) :: Y) V from rfl) ?_
  refine x_aload_n (i := 2) C dL_ring_0 rfl rfl ?_
  refine x_iconst (v := 0) C dL_ring_1 (by decide) ?_
  refine x_aload_n (i := 0) C dL_ring_2 rfl rfl ?_
  refine x_iload_n (i := 1) C dL_ring_3 rfl rfl ?_
  refine x_callViK C hE (k_X3_ring l hfl D cy a A ((o, outF cy f) :: Y) V q hm) (cwV 1 C.2.2.2.2.1 gL_ring_X3_ring rfl rfl rfl (by decide +kernel) ⟨Nat.le_of_ble_eq_true rfl, Nat.le_of_ble_eq_true rfl⟩) 0 (cW_R cy a _ _) rfl rfl rfl rfl (Nat.le_of_ble_eq_true rfl) dL_ring_4 ⟨Nat.le_of_ble_eq_true rfl, Nat.le_of_ble_eq_true rfl⟩ (fun E hx H locs ls q9 ce hP hD hS hl hce hcv hcl => ?_) (fun r u h => ?_)
  · obtain ⟨k9, hk9⟩ := hex E hx
    simp only [tbIO, List.mem_cons, List.not_mem_nil, or_false, Prod.mk.injEq] at hk9
    obtain ⟨rfl, rfl⟩ := hk9
    refine x_hand C hE [] ⟨0, 9, 12, 13⟩ [] htab (fun z hz => absurd hz List.not_mem_nil) rfl (by decide) hk13 (by decide +kernel) rfl hP hD hS hl hce hcv hcl ?_
    refine x_astore_n (i := 3) C dL_ring_12 rfl (by decide) ?_
    refine x_iconst (v := 1) C dL_ring_13 (by decide) ?_
    refine x_ws (show cW cy a ((o, outF cy f) :: Y) V = oW cy a o Y V f from rfl) ?_
    exact x_iret (σ := XV × (Nat → Int64)) (Wf := fun (u : XV × (Nat → Int64)) => oW cy a o Y u.1 u.2) (post := fun (r : Int32) (u : XV × (Nat → Int64)) => wP (nCx V q) (V) V (V (19 + q.toNatClampNeg) 9) tbIO r u) (u := (V, f)) C dL_ring_14 ⟨Nat.le_of_ble_eq_true rfl, Nat.le_of_ble_eq_true rfl⟩ (show wP (nCx V q) (V) V (V (19 + q.toNatClampNeg) 9) tbIO 1 (V, f) from Or.inr ⟨(xIO, 1), List.mem_of_getElem? (i := 0) rfl, hx, rfl, rfl⟩)
  · obtain ⟨h1, h2, h3⟩ := h
    rw [h2, h3]
    refine x_ws (show cW cy a ((o, outF cy f) :: Y) _ = oW cy a o Y _ f from rfl) ?_
    refine x_i2l C dL_ring_7 rfl ?_
    refine x_last0 C dL_ring_8 ?_
    refine x_goto C 15 dL_ring_9 (by decide) ?_
    refine x_iconst (v := 0) C dL_ring_15 (by decide) ?_
    exact x_iret (σ := XV × (Nat → Int64)) (Wf := fun (u : XV × (Nat → Int64)) => oW cy a o Y u.1 u.2) (post := fun (r : Int32) (u : XV × (Nat → Int64)) => wP (nCx V q) (V) V (V (19 + q.toNatClampNeg) 9) tbIO r u) (u := (V, vp_updL f 0 (Int32.toInt64 (V (19 + q.toNatClampNeg) 9)))) C dL_ring_16 ⟨Nat.le_of_ble_eq_true rfl, Nat.le_of_ble_eq_true rfl⟩ (show wP (nCx V q) (V) V (V (19 + q.toNatClampNeg) 9) tbIO 0 (V, vp_updL f 0 (Int32.toInt64 (V (19 + q.toNatClampNeg) 9))) from Or.inl ⟨h1, rfl, rfl, vp_updL0 f _⟩)
def rmL_reports : Room := { frames := 9, cells := 1, slots := 6, locals := 174 }
set_option maxHeartbeats 4000000 in
set_option maxRecDepth 100000 in
theorem k_L_reports (l : Launch) (hfl : l.stackTraces = false) (D : va_G) (cy : Nat → ClassId) (a : Nat → Nat) (o : Nat) (A : Nat → Prop) (Y : va_W) (V : XV) (f : Nat → Int64) (q : Int32) (hm : (V 0 5).toInt ≤ 6)  (hex : exIn (nCx V q) tbIO) : Met l yL_reports wsL_reports rmL_reports (va_Pc [.ref (a 0), .int q, .ref o] (xPre D (tyC cy) A (oW cy a o Y V f))) (va_Qi (fun (r : Int32) (u : XV × (Nat → Int64)) => wP (nCx V q) (V) V (V (19 + q.toNatClampNeg) 10) tbIO r u) (fun u t => xPost D (tyC cy) A (oW cy a o Y u.1 u.2) t) A) 1 6 A := by
  have hk13 : Cond.classLink RL 13 xIO ∈ wsL_reports := by decide +kernel
  refine x_metH (own := RL) (by decide) rfl rfl (Nat.le_of_ble_eq_true rfl) rfl ?_
  intro p e s m below meth c htab C hE
  refine x_ws (show oW cy a o Y V f = cW cy a ((o, outF cy f) :: Y) V from rfl) ?_
  refine x_aload_n (i := 2) C dL_reports_0 rfl rfl ?_
  refine x_iconst (v := 0) C dL_reports_1 (by decide) ?_
  refine x_aload_n (i := 0) C dL_reports_2 rfl rfl ?_
  refine x_iload_n (i := 1) C dL_reports_3 rfl rfl ?_
  refine x_callViK C hE (k_X3_reports l hfl D cy a A ((o, outF cy f) :: Y) V q hm) (cwV 1 C.2.2.2.2.1 gL_reports_X3_reports rfl rfl rfl (by decide +kernel) ⟨Nat.le_of_ble_eq_true rfl, Nat.le_of_ble_eq_true rfl⟩) 0 (cW_R cy a _ _) rfl rfl rfl rfl (Nat.le_of_ble_eq_true rfl) dL_reports_4 ⟨Nat.le_of_ble_eq_true rfl, Nat.le_of_ble_eq_true rfl⟩ (fun E hx H locs ls q9 ce hP hD hS hl hce hcv hcl => ?_) (fun r u h => ?_)
  · obtain ⟨k9, hk9⟩ := hex E hx
    simp only [tbIO, List.mem_cons, List.not_mem_nil, or_false, Prod.mk.injEq] at hk9
    obtain ⟨rfl, rfl⟩ := hk9
    refine x_hand C hE [] ⟨0, 9, 12, 13⟩ [] htab (fun z hz => absurd hz List.not_mem_nil) rfl (by decide) hk13 (by decide +kernel) rfl hP hD hS hl hce hcv hcl ?_
    refine x_astore_n (i := 3) C dL_reports_12 rfl (by decide) ?_
    refine x_iconst (v := 1) C dL_reports_13 (by decide) ?_
    refine x_ws (show cW cy a ((o, outF cy f) :: Y) V = oW cy a o Y V f from rfl) ?_
    exact x_iret (σ := XV × (Nat → Int64)) (Wf := fun (u : XV × (Nat → Int64)) => oW cy a o Y u.1 u.2) (post := fun (r : Int32) (u : XV × (Nat → Int64)) => wP (nCx V q) (V) V (V (19 + q.toNatClampNeg) 10) tbIO r u) (u := (V, f)) C dL_reports_14 ⟨Nat.le_of_ble_eq_true rfl, Nat.le_of_ble_eq_true rfl⟩ (show wP (nCx V q) (V) V (V (19 + q.toNatClampNeg) 10) tbIO 1 (V, f) from Or.inr ⟨(xIO, 1), List.mem_of_getElem? (i := 0) rfl, hx, rfl, rfl⟩)
  · obtain ⟨h1, h2, h3⟩ := h
    rw [h2, h3]
    refine x_ws (show cW cy a ((o, outF cy f) :: Y) _ = oW cy a o Y _ f from rfl) ?_
    refine x_i2l C dL_reports_7 rfl ?_
    refine x_last0 C dL_reports_8 ?_
    refine x_goto C 15 dL_reports_9 (by decide) ?_
    refine x_iconst (v := 0) C dL_reports_15 (by decide) ?_
    exact x_iret (σ := XV × (Nat → Int64)) (Wf := fun (u : XV × (Nat → Int64)) => oW cy a o Y u.1 u.2) (post := fun (r : Int32) (u : XV × (Nat → Int64)) => wP (nCx V q) (V) V (V (19 + q.toNatClampNeg) 10) tbIO r u) (u := (V, vp_updL f 0 (Int32.toInt64 (V (19 + q.toNatClampNeg) 10)))) C dL_reports_16 ⟨Nat.le_of_ble_eq_true rfl, Nat.le_of_ble_eq_true rfl⟩ (show wP (nCx V q) (V) V (V (19 + q.toNatClampNeg) 10) tbIO 0 (V, vp_updL f 0 (Int32.toInt64 (V (19 + q.toNatClampNeg) 10))) from Or.inl ⟨h1, rfl, rfl, vp_updL0 f _⟩)
def rmL_eligible : Room := { frames := 9, cells := 1, slots := 6, locals := 174 }
set_option maxHeartbeats 4000000 in
set_option maxRecDepth 100000 in
theorem k_L_eligible (l : Launch) (hfl : l.stackTraces = false) (D : va_G) (cy : Nat → ClassId) (a : Nat → Nat) (o : Nat) (A : Nat → Prop) (Y : va_W) (V : XV) (f : Nat → Int64) (q : Int32) {n : Nat} (hn : V 0 4 = nI n) (hn10 : n ≤ 10) (hm : (V 0 5).toInt ≤ 6) (hs : safeV V)  (hex : exIn (nCx V q) tbIO) : Met l yL_eligible wsL_eligible rmL_eligible (va_Pc [.ref (a 0), .int q, .ref o] (xPre D (tyC cy) A (oW cy a o Y V f))) (va_Qi (fun (r : Int32) (u : XV × (Nat → Int64)) => wP (nCx V q) (V) V (elI V (19 + q.toNatClampNeg) n) tbIO r u) (fun u t => xPost D (tyC cy) A (oW cy a o Y u.1 u.2) t) A) 1 6 A := by
  have hk13 : Cond.classLink RL 13 xIO ∈ wsL_eligible := by decide +kernel
  refine x_metH (own := RL) (by decide) rfl rfl (Nat.le_of_ble_eq_true rfl) rfl ?_
  intro p e s m below meth c htab C hE
  refine x_ws (show oW cy a o Y V f = cW cy a ((o, outF cy f) :: Y) V from rfl) ?_
  refine x_aload_n (i := 2) C dL_eligible_0 rfl rfl ?_
  refine x_iconst (v := 0) C dL_eligible_1 (by decide) ?_
  refine x_aload_n (i := 0) C dL_eligible_2 rfl rfl ?_
  refine x_iload_n (i := 1) C dL_eligible_3 rfl rfl ?_
  refine x_callViK C hE (k_X3_eligible l hfl D cy a A ((o, outF cy f) :: Y) V q hn hn10 hm hs) (cwV 1 C.2.2.2.2.1 gL_eligible_X3_eligible rfl rfl rfl (by decide +kernel) ⟨Nat.le_of_ble_eq_true rfl, Nat.le_of_ble_eq_true rfl⟩) 0 (cW_R cy a _ _) rfl rfl rfl rfl (Nat.le_of_ble_eq_true rfl) dL_eligible_4 ⟨Nat.le_of_ble_eq_true rfl, Nat.le_of_ble_eq_true rfl⟩ (fun E hx H locs ls q9 ce hP hD hS hl hce hcv hcl => ?_) (fun r u h => ?_)
  · obtain ⟨k9, hk9⟩ := hex E hx
    simp only [tbIO, List.mem_cons, List.not_mem_nil, or_false, Prod.mk.injEq] at hk9
    obtain ⟨rfl, rfl⟩ := hk9
    refine x_hand C hE [] ⟨0, 9, 12, 13⟩ [] htab (fun z hz => absurd hz List.not_mem_nil) rfl (by decide) hk13 (by decide +kernel) rfl hP hD hS hl hce hcv hcl ?_
    refine x_astore_n (i := 3) C dL_eligible_12 rfl (by decide) ?_
    refine x_iconst (v := 1) C dL_eligible_13 (by decide) ?_
    refine x_ws (show cW cy a ((o, outF cy f) :: Y) V = oW cy a o Y V f from rfl) ?_
    exact x_iret (σ := XV × (Nat → Int64)) (Wf := fun (u : XV × (Nat → Int64)) => oW cy a o Y u.1 u.2) (post := fun (r : Int32) (u : XV × (Nat → Int64)) => wP (nCx V q) (V) V (elI V (19 + q.toNatClampNeg) n) tbIO r u) (u := (V, f)) C dL_eligible_14 ⟨Nat.le_of_ble_eq_true rfl, Nat.le_of_ble_eq_true rfl⟩ (show wP (nCx V q) (V) V (elI V (19 + q.toNatClampNeg) n) tbIO 1 (V, f) from Or.inr ⟨(xIO, 1), List.mem_of_getElem? (i := 0) rfl, hx, rfl, rfl⟩)
  · obtain ⟨h1, h2, h3⟩ := h
    rw [h2, h3]
    refine x_ws (show cW cy a ((o, outF cy f) :: Y) _ = oW cy a o Y _ f from rfl) ?_
    refine x_i2l C dL_eligible_7 rfl ?_
    refine x_last0 C dL_eligible_8 ?_
    refine x_goto C 15 dL_eligible_9 (by decide) ?_
    refine x_iconst (v := 0) C dL_eligible_15 (by decide) ?_
    exact x_iret (σ := XV × (Nat → Int64)) (Wf := fun (u : XV × (Nat → Int64)) => oW cy a o Y u.1 u.2) (post := fun (r : Int32) (u : XV × (Nat → Int64)) => wP (nCx V q) (V) V (elI V (19 + q.toNatClampNeg) n) tbIO r u) (u := (V, vp_updL f 0 (Int32.toInt64 (elI V (19 + q.toNatClampNeg) n)))) C dL_eligible_16 ⟨Nat.le_of_ble_eq_true rfl, Nat.le_of_ble_eq_true rfl⟩ (show wP (nCx V q) (V) V (elI V (19 + q.toNatClampNeg) n) tbIO 0 (V, vp_updL f 0 (Int32.toInt64 (elI V (19 + q.toNatClampNeg) n))) from Or.inl ⟨h1, rfl, rfl, vp_updL0 f _⟩)
def rmL_pass : Room := { frames := 8, cells := 1, slots := 6, locals := 154 }
set_option maxHeartbeats 4000000 in
set_option maxRecDepth 100000 in
theorem k_L_pass (l : Launch) (hfl : l.stackTraces = false) (D : va_G) (cy : Nat → ClassId) (a : Nat → Nat) (o : Nat) (A : Nat → Prop) (Y : va_W) (V : XV) (f : Nat → Int64) (h : Int32) {n m9 : Nat} (hn : V 0 4 = nI n) (hn10 : n ≤ 10) (hm : V 0 5 = nI m9) (hm6 : m9 ≤ 6) (hs : safeV V)  (hex : exIn (nRx h 1 100) tbP) : Met l yL_pass wsL_pass rmL_pass (va_Pc [.ref (a 0), .int h, .ref o] (xPre D (tyC cy) A (oW cy a o Y V f))) (va_Qi (fun (r : Int32) (u : XV × (Nat → Int64)) => wP (nRx h 1 100) (paV V n m9 h.toNatClampNeg) V (paT V n m9 h.toNatClampNeg) tbP r u) (fun u t => xPost D (tyC cy) A (oW cy a o Y u.1 u.2) t) A) 1 6 A := by
  have hk15 : Cond.classLink RL 15 xIA ∈ wsL_pass := by decide +kernel
  refine x_metH (own := RL) (by decide) rfl rfl (Nat.le_of_ble_eq_true rfl) rfl ?_
  intro p e s m below meth c htab C hE
  refine x_ws (show oW cy a o Y V f = cW cy a ((o, outF cy f) :: Y) V from rfl) ?_
  refine x_aload_n (i := 2) C dL_pass_0 rfl rfl ?_
  refine x_iconst (v := 0) C dL_pass_1 (by decide) ?_
  refine x_aload_n (i := 0) C dL_pass_2 rfl rfl ?_
  refine x_iload_n (i := 1) C dL_pass_3 rfl rfl ?_
  refine x_callViK C hE (k_X3_pass l hfl D cy a A ((o, outF cy f) :: Y) V h hn hn10 hm hm6 hs) (cwV 1 C.2.2.2.2.1 gL_pass_X3_pass rfl rfl rfl (by decide +kernel) ⟨Nat.le_of_ble_eq_true rfl, Nat.le_of_ble_eq_true rfl⟩) 0 (cW_R cy a _ _) rfl rfl rfl rfl (Nat.le_of_ble_eq_true rfl) dL_pass_4 ⟨Nat.le_of_ble_eq_true rfl, Nat.le_of_ble_eq_true rfl⟩ (fun E hx H locs ls q9 ce hP hD hS hl hce hcv hcl => ?_) (fun r u h => ?_)
  · obtain ⟨k9, hk9⟩ := hex E hx
    simp only [tbP, List.mem_cons, List.not_mem_nil, or_false, Prod.mk.injEq] at hk9
    obtain ⟨rfl, rfl⟩ := hk9
    refine x_hand C hE [] ⟨0, 9, 12, 15⟩ [] htab (fun z hz => absurd hz List.not_mem_nil) rfl (by decide) hk15 (by decide +kernel) rfl hP hD hS hl hce hcv hcl ?_
    refine x_astore_n (i := 3) C dL_pass_12 rfl (by decide) ?_
    refine x_iconst (v := 1) C dL_pass_13 (by decide) ?_
    refine x_ws (show cW cy a ((o, outF cy f) :: Y) V = oW cy a o Y V f from rfl) ?_
    exact x_iret (σ := XV × (Nat → Int64)) (Wf := fun (u : XV × (Nat → Int64)) => oW cy a o Y u.1 u.2) (post := fun (r : Int32) (u : XV × (Nat → Int64)) => wP (nRx h 1 100) (paV V n m9 h.toNatClampNeg) V (paT V n m9 h.toNatClampNeg) tbP r u) (u := (V, f)) C dL_pass_14 ⟨Nat.le_of_ble_eq_true rfl, Nat.le_of_ble_eq_true rfl⟩ (show wP (nRx h 1 100) (paV V n m9 h.toNatClampNeg) V (paT V n m9 h.toNatClampNeg) tbP 1 (V, f) from Or.inr ⟨(xIA, 1), List.mem_of_getElem? (i := 0) rfl, hx, rfl, rfl⟩)
  · obtain ⟨h1, h2, h3⟩ := h
    rw [h2, h3]
    refine x_ws (show cW cy a ((o, outF cy f) :: Y) _ = oW cy a o Y _ f from rfl) ?_
    refine x_i2l C dL_pass_7 rfl ?_
    refine x_last0 C dL_pass_8 ?_
    refine x_goto C 15 dL_pass_9 (by decide) ?_
    refine x_iconst (v := 0) C dL_pass_15 (by decide) ?_
    exact x_iret (σ := XV × (Nat → Int64)) (Wf := fun (u : XV × (Nat → Int64)) => oW cy a o Y u.1 u.2) (post := fun (r : Int32) (u : XV × (Nat → Int64)) => wP (nRx h 1 100) (paV V n m9 h.toNatClampNeg) V (paT V n m9 h.toNatClampNeg) tbP r u) (u := (paV V n m9 h.toNatClampNeg, vp_updL f 0 (Int32.toInt64 (paT V n m9 h.toNatClampNeg)))) C dL_pass_16 ⟨Nat.le_of_ble_eq_true rfl, Nat.le_of_ble_eq_true rfl⟩ (show wP (nRx h 1 100) (paV V n m9 h.toNatClampNeg) V (paT V n m9 h.toNatClampNeg) tbP 0 (paV V n m9 h.toNatClampNeg, vp_updL f 0 (Int32.toInt64 (paT V n m9 h.toNatClampNeg))) from Or.inl ⟨h1, rfl, rfl, vp_updL0 f _⟩)
/-! ===== END wraps ===== -/
